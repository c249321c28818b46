abbrev m_L_law : am_M := (yL_law, cL_law, 7, some .boolean, [])
def f_L_law_2795 (rc23 : Nat × Nat → Option (Nat × Nat) → Option (Nat × Nat) → Option (Nat × Nat) → Int32 → am_H → am_R) (_ : Nat × Nat) (x1 : Option (Nat × Nat)) (x2 : Option (Nat × Nat)) (x3 : Option (Nat × Nat)) (x4 : Int32) (h : am_H) : am_R := rc23 (1, 0) x1 x2 x3 (x4 + 5) h
theorem t_L_law_2795 (d : Nat) (hd : 10 ≤ d) (rc23 : Nat × Nat → Option (Nat × Nat) → Option (Nat × Nat) → Option (Nat × Nat) → Int32 → am_H → am_R) (hrc23 : ∀ x1 x2 x3 x4 h, Sim m_L_law d 23 [some (.inr (.inr (some (1, 0)))), some (.inr (.inr x1)), some (.inr (.inr x2)), some (.inr (.inr x3)), some (.inl x4), none, none] [] h (rc23 (1, 0) x1 x2 x3 x4 h)) (x1 : Option (Nat × Nat)) (x2 : Option (Nat × Nat)) (x3 : Option (Nat × Nat)) (x4 : Int32) (h : am_H) : Sim m_L_law d 2795 [some (.inr (.inr (some (1, 0)))), some (.inr (.inr x1)), some (.inr (.inr x2)), some (.inr (.inr x3)), some (.inl x4), none, none] [] h (f_L_law_2795 rc23 (1, 0) x1 x2 x3 x4 h) := by
  unfold f_L_law_2795
  refine sim_iinc (5) dL_law_2795 rfl (by decide +kernel) (Nat.le_of_ble_eq_true rfl) ?_
  refine sim_goto 23 dL_law_2798 (by decide) ?_
  exact sim_lv (am_leS (am_leS (am_leS (am_leS (am_leS (am_leN (am_leN am_leT))))))) (hrc23 _ _ _ _ _)
def f_L_law_2792 (rc23 : Nat × Nat → Option (Nat × Nat) → Option (Nat × Nat) → Option (Nat × Nat) → Int32 → am_H → am_R) (_ : Nat × Nat) (x1 : Option (Nat × Nat)) (x2 : Option (Nat × Nat)) (x3 : Option (Nat × Nat)) (x4 : Int32) (h : am_H) : am_R := f_L_law_2795 rc23 (1, 0) x1 x2 x3 x4 h
theorem t_L_law_2792 (d : Nat) (hd : 10 ≤ d) (rc23 : Nat × Nat → Option (Nat × Nat) → Option (Nat × Nat) → Option (Nat × Nat) → Int32 → am_H → am_R) (hrc23 : ∀ x1 x2 x3 x4 h, Sim m_L_law d 23 [some (.inr (.inr (some (1, 0)))), some (.inr (.inr x1)), some (.inr (.inr x2)), some (.inr (.inr x3)), some (.inl x4), none, none] [] h (rc23 (1, 0) x1 x2 x3 x4 h)) (x1 : Option (Nat × Nat)) (x2 : Option (Nat × Nat)) (x3 : Option (Nat × Nat)) (x4 : Int32) (h : am_H) : Sim m_L_law d 2792 [some (.inr (.inr (some (1, 0)))), some (.inr (.inr x1)), some (.inr (.inr x2)), some (.inr (.inr x3)), some (.inl x4), none, none] [] h (f_L_law_2792 rc23 (1, 0) x1 x2 x3 x4 h) := by
  unfold f_L_law_2792
  refine sim_goto 2795 dL_law_2792 (by decide) ?_
  exact sim_lv (am_leS (am_leS (am_leS (am_leS (am_leS (am_leN (am_leN am_leT))))))) (t_L_law_2795 d (by omega) _ hrc23 _ _ _ _ _)
def f_L_law_2739 (rc23 : Nat × Nat → Option (Nat × Nat) → Option (Nat × Nat) → Option (Nat × Nat) → Int32 → am_H → am_R) (_ : Nat × Nat) (x1 : Option (Nat × Nat)) (x2 : Option (Nat × Nat)) (x3 : Option (Nat × Nat)) (x4 : Int32) (h : am_H) : am_R := m_scr (x4 + (1 : Int32)) h fun v13 => m_bI (f_L_digest x1 v13 x3 h) fun h14 v15 => m_scr (x4 + (1 : Int32)) h14 fun v16 => m_ao x2 11 fun a19 => m_bI (f_X11_digest a19 v16 h14) fun h17 v18 => m_ao x2 11 fun a22 => m_bI (f_X11_thrown a22 h17) fun h20 v21 => if v21 = v15 then (if v15 = 0 then (m_aL x3 (0 : Int32) h20 fun v23 => if (lg_cmp v23 (Int32.toInt64 v18)) = 0 then (f_L_law_2792 rc23 (1, 0) x1 x2 x3 x4 h20) else (m_rz h20 (0 : Int32))) else (f_L_law_2792 rc23 (1, 0) x1 x2 x3 x4 h20)) else (m_rz h20 (0 : Int32))
theorem t_L_law_2739 (d : Nat) (hd : 10 ≤ d) (rc23 : Nat × Nat → Option (Nat × Nat) → Option (Nat × Nat) → Option (Nat × Nat) → Int32 → am_H → am_R) (hrc23 : ∀ x1 x2 x3 x4 h, Sim m_L_law d 23 [some (.inr (.inr (some (1, 0)))), some (.inr (.inr x1)), some (.inr (.inr x2)), some (.inr (.inr x3)), some (.inl x4), none, none] [] h (rc23 (1, 0) x1 x2 x3 x4 h)) (x1 : Option (Nat × Nat)) (x2 : Option (Nat × Nat)) (x3 : Option (Nat × Nat)) (x4 : Int32) (h : am_H) : Sim m_L_law d 2739 [some (.inr (.inr (some (1, 0)))), some (.inr (.inr x1)), some (.inr (.inr x2)), some (.inr (.inr x3)), some (.inl x4), none, none] [] h (f_L_law_2739 rc23 (1, 0) x1 x2 x3 x4 h) := by
  unfold f_L_law_2739
  refine sim_aload_n dL_law_2739 rfl ?_
  refine sim_aload_n dL_law_2740 rfl ?_
  refine sim_iload dL_law_2741 rfl ?_
  refine sim_iconst (1) dL_law_2743 (by decide +kernel) ?_
  refine sim_iadd dL_law_2744 ?_
  refine sim_scr dL_law_2745 (fun v13 => ?_)
  refine sim_aload_n dL_law_2746 rfl ?_
  refine sim_staticX (d - 1) dL_law_2747 (k_L_digest (d - 1) (by omega) _ _ _ _) q_L_digest wm_RL_271 rfl rfl (by omega) (Nat.le_of_ble_eq_true rfl) am_nI (am_rI fun h14 v15 => ?_) am_eI
  refine sim_istore dL_law_2750 (Nat.le_of_ble_eq_true rfl) ?_
  refine sim_aload_n dL_law_2752 rfl ?_
  refine sim_aload_n dL_law_2753 rfl ?_
  refine sim_iload dL_law_2754 rfl ?_
  refine sim_iconst (1) dL_law_2756 (by decide +kernel) ?_
  refine sim_iadd dL_law_2757 ?_
  refine sim_scr dL_law_2758 (fun v16 => ?_)
  refine sim_ao1 (fun a19 e => ?_)
  refine sim_virt (d - 1) e dL_law_2759 (k_X11_digest (d - 1) (by omega) _ _ _) q_X11_digest rfl rfl wm_RL_273 rfl rfl (by omega) (Nat.le_of_ble_eq_true rfl) am_nI (am_rI fun h17 v18 => ?_) am_eI
  refine sim_istore dL_law_2762 (Nat.le_of_ble_eq_true rfl) ?_
  refine sim_aload_n dL_law_2764 rfl ?_
  refine sim_ao0 (fun a22 e => ?_)
  refine sim_virt (d - 1) e dL_law_2765 (k_X11_thrown (d - 1) (by omega) _  _) q_X11_thrown rfl rfl wm_RL_142 rfl rfl (by omega) (Nat.le_of_ble_eq_true rfl) am_nI (am_rI fun h20 v21 => ?_) am_eI
  refine sim_iload dL_law_2768 rfl ?_
  refine sim_ic_eq 2775 dL_law_2770 (by decide) (fun c => ?_) (fun c => ?_)
  · refine sim_iload dL_law_2775 rfl ?_
    refine sim_if_ne 2792 dL_law_2777 (by decide) (fun c => ?_) (fun c => ?_)
    · exact sim_lv (am_leS (am_leS (am_leS (am_leS (am_leS (am_leN (am_leN am_leT))))))) (t_L_law_2792 d (by omega) _ hrc23 _ _ _ _ _)
    · refine sim_aload_n dL_law_2780 rfl ?_
      refine sim_iconst (0) dL_law_2781 (by decide +kernel) ?_
      refine sim_aL dL_law_2782 (fun v23 => ?_)
      refine sim_iload dL_law_2783 rfl ?_
      refine sim_i2l dL_law_2785 ?_
      refine sim_lcmp dL_law_2786 ?_
      refine sim_if_eq 2792 dL_law_2787 (by decide) (fun c => ?_) (fun c => ?_)
      · exact sim_lv (am_leS (am_leS (am_leS (am_leS (am_leS (am_leN (am_leN am_leT))))))) (t_L_law_2792 d (by omega) _ hrc23 _ _ _ _ _)
      · refine sim_iconst (0) dL_law_2790 (by decide +kernel) ?_
        exact sim_zret dL_law_2791 rfl
  · refine sim_iconst (0) dL_law_2773 (by decide +kernel) ?_
    exact sim_zret dL_law_2774 rfl
def f_L_law_2736 (rc23 : Nat × Nat → Option (Nat × Nat) → Option (Nat × Nat) → Option (Nat × Nat) → Int32 → am_H → am_R) (_ : Nat × Nat) (x1 : Option (Nat × Nat)) (x2 : Option (Nat × Nat)) (x3 : Option (Nat × Nat)) (x4 : Int32) (h : am_H) : am_R := f_L_law_2795 rc23 (1, 0) x1 x2 x3 x4 h
theorem t_L_law_2736 (d : Nat) (hd : 10 ≤ d) (rc23 : Nat × Nat → Option (Nat × Nat) → Option (Nat × Nat) → Option (Nat × Nat) → Int32 → am_H → am_R) (hrc23 : ∀ x1 x2 x3 x4 h, Sim m_L_law d 23 [some (.inr (.inr (some (1, 0)))), some (.inr (.inr x1)), some (.inr (.inr x2)), some (.inr (.inr x3)), some (.inl x4), none, none] [] h (rc23 (1, 0) x1 x2 x3 x4 h)) (x1 : Option (Nat × Nat)) (x2 : Option (Nat × Nat)) (x3 : Option (Nat × Nat)) (x4 : Int32) (h : am_H) : Sim m_L_law d 2736 [some (.inr (.inr (some (1, 0)))), some (.inr (.inr x1)), some (.inr (.inr x2)), some (.inr (.inr x3)), some (.inl x4), none, none] [] h (f_L_law_2736 rc23 (1, 0) x1 x2 x3 x4 h) := by
  unfold f_L_law_2736
  refine sim_goto 2795 dL_law_2736 (by decide) ?_
  exact sim_lv (am_leS (am_leS (am_leS (am_leS (am_leS (am_leN (am_leN am_leT))))))) (t_L_law_2795 d (by omega) _ hrc23 _ _ _ _ _)
def f_L_law_2683 (rc23 : Nat × Nat → Option (Nat × Nat) → Option (Nat × Nat) → Option (Nat × Nat) → Int32 → am_H → am_R) (_ : Nat × Nat) (x1 : Option (Nat × Nat)) (x2 : Option (Nat × Nat)) (x3 : Option (Nat × Nat)) (x4 : Int32) (h : am_H) : am_R := m_scr (x4 + (1 : Int32)) h fun v24 => m_bI (f_L_news x1 v24 x3 h) fun h25 v26 => m_scr (x4 + (1 : Int32)) h25 fun v27 => m_ao x2 11 fun a30 => m_bI (f_X11_news a30 v27 h25) fun h28 v29 => m_ao x2 11 fun a33 => m_bI (f_X11_thrown a33 h28) fun h31 v32 => if v32 = v26 then (if v26 = 0 then (m_aL x3 (0 : Int32) h31 fun v34 => if (lg_cmp v34 (Int32.toInt64 v29)) = 0 then (f_L_law_2736 rc23 (1, 0) x1 x2 x3 x4 h31) else (m_rz h31 (0 : Int32))) else (f_L_law_2736 rc23 (1, 0) x1 x2 x3 x4 h31)) else (m_rz h31 (0 : Int32))
theorem t_L_law_2683 (d : Nat) (hd : 10 ≤ d) (rc23 : Nat × Nat → Option (Nat × Nat) → Option (Nat × Nat) → Option (Nat × Nat) → Int32 → am_H → am_R) (hrc23 : ∀ x1 x2 x3 x4 h, Sim m_L_law d 23 [some (.inr (.inr (some (1, 0)))), some (.inr (.inr x1)), some (.inr (.inr x2)), some (.inr (.inr x3)), some (.inl x4), none, none] [] h (rc23 (1, 0) x1 x2 x3 x4 h)) (x1 : Option (Nat × Nat)) (x2 : Option (Nat × Nat)) (x3 : Option (Nat × Nat)) (x4 : Int32) (h : am_H) : Sim m_L_law d 2683 [some (.inr (.inr (some (1, 0)))), some (.inr (.inr x1)), some (.inr (.inr x2)), some (.inr (.inr x3)), some (.inl x4), none, none] [] h (f_L_law_2683 rc23 (1, 0) x1 x2 x3 x4 h) := by
  unfold f_L_law_2683
  refine sim_aload_n dL_law_2683 rfl ?_
  refine sim_aload_n dL_law_2684 rfl ?_
  refine sim_iload dL_law_2685 rfl ?_
  refine sim_iconst (1) dL_law_2687 (by decide +kernel) ?_
  refine sim_iadd dL_law_2688 ?_
  refine sim_scr dL_law_2689 (fun v24 => ?_)
  refine sim_aload_n dL_law_2690 rfl ?_
  refine sim_staticX (d - 1) dL_law_2691 (k_L_news (d - 1) (by omega) _ _ _ _) q_L_news wm_RL_268 rfl rfl (by omega) (Nat.le_of_ble_eq_true rfl) am_nI (am_rI fun h25 v26 => ?_) am_eI
  refine sim_istore dL_law_2694 (Nat.le_of_ble_eq_true rfl) ?_
  refine sim_aload_n dL_law_2696 rfl ?_
  refine sim_aload_n dL_law_2697 rfl ?_
  refine sim_iload dL_law_2698 rfl ?_
  refine sim_iconst (1) dL_law_2700 (by decide +kernel) ?_
  refine sim_iadd dL_law_2701 ?_
  refine sim_scr dL_law_2702 (fun v27 => ?_)
  refine sim_ao1 (fun a30 e => ?_)
  refine sim_virt (d - 1) e dL_law_2703 (k_X11_news (d - 1) (by omega) _ _ _) q_X11_news rfl rfl wm_RL_270 rfl rfl (by omega) (Nat.le_of_ble_eq_true rfl) am_nI (am_rI fun h28 v29 => ?_) am_eI
  refine sim_istore dL_law_2706 (Nat.le_of_ble_eq_true rfl) ?_
  refine sim_aload_n dL_law_2708 rfl ?_
  refine sim_ao0 (fun a33 e => ?_)
  refine sim_virt (d - 1) e dL_law_2709 (k_X11_thrown (d - 1) (by omega) _  _) q_X11_thrown rfl rfl wm_RL_142 rfl rfl (by omega) (Nat.le_of_ble_eq_true rfl) am_nI (am_rI fun h31 v32 => ?_) am_eI
  refine sim_iload dL_law_2712 rfl ?_
  refine sim_ic_eq 2719 dL_law_2714 (by decide) (fun c => ?_) (fun c => ?_)
  · refine sim_iload dL_law_2719 rfl ?_
    refine sim_if_ne 2736 dL_law_2721 (by decide) (fun c => ?_) (fun c => ?_)
    · exact sim_lv (am_leS (am_leS (am_leS (am_leS (am_leS (am_leN (am_leN am_leT))))))) (t_L_law_2736 d (by omega) _ hrc23 _ _ _ _ _)
    · refine sim_aload_n dL_law_2724 rfl ?_
      refine sim_iconst (0) dL_law_2725 (by decide +kernel) ?_
      refine sim_aL dL_law_2726 (fun v34 => ?_)
      refine sim_iload dL_law_2727 rfl ?_
      refine sim_i2l dL_law_2729 ?_
      refine sim_lcmp dL_law_2730 ?_
      refine sim_if_eq 2736 dL_law_2731 (by decide) (fun c => ?_) (fun c => ?_)
      · exact sim_lv (am_leS (am_leS (am_leS (am_leS (am_leS (am_leN (am_leN am_leT))))))) (t_L_law_2736 d (by omega) _ hrc23 _ _ _ _ _)
      · refine sim_iconst (0) dL_law_2734 (by decide +kernel) ?_
        exact sim_zret dL_law_2735 rfl
  · refine sim_iconst (0) dL_law_2717 (by decide +kernel) ?_
    exact sim_zret dL_law_2718 rfl
def f_L_law_2680 (rc23 : Nat × Nat → Option (Nat × Nat) → Option (Nat × Nat) → Option (Nat × Nat) → Int32 → am_H → am_R) (_ : Nat × Nat) (x1 : Option (Nat × Nat)) (x2 : Option (Nat × Nat)) (x3 : Option (Nat × Nat)) (x4 : Int32) (h : am_H) : am_R := f_L_law_2795 rc23 (1, 0) x1 x2 x3 x4 h
theorem t_L_law_2680 (d : Nat) (hd : 10 ≤ d) (rc23 : Nat × Nat → Option (Nat × Nat) → Option (Nat × Nat) → Option (Nat × Nat) → Int32 → am_H → am_R) (hrc23 : ∀ x1 x2 x3 x4 h, Sim m_L_law d 23 [some (.inr (.inr (some (1, 0)))), some (.inr (.inr x1)), some (.inr (.inr x2)), some (.inr (.inr x3)), some (.inl x4), none, none] [] h (rc23 (1, 0) x1 x2 x3 x4 h)) (x1 : Option (Nat × Nat)) (x2 : Option (Nat × Nat)) (x3 : Option (Nat × Nat)) (x4 : Int32) (h : am_H) : Sim m_L_law d 2680 [some (.inr (.inr (some (1, 0)))), some (.inr (.inr x1)), some (.inr (.inr x2)), some (.inr (.inr x3)), some (.inl x4), none, none] [] h (f_L_law_2680 rc23 (1, 0) x1 x2 x3 x4 h) := by
  unfold f_L_law_2680
  refine sim_goto 2795 dL_law_2680 (by decide) ?_
  exact sim_lv (am_leS (am_leS (am_leS (am_leS (am_leS (am_leN (am_leN am_leT))))))) (t_L_law_2795 d (by omega) _ hrc23 _ _ _ _ _)
def f_L_law_2674 (rc23 : Nat × Nat → Option (Nat × Nat) → Option (Nat × Nat) → Option (Nat × Nat) → Int32 → am_H → am_R) (_ : Nat × Nat) (x1 : Option (Nat × Nat)) (x2 : Option (Nat × Nat)) (x3 : Option (Nat × Nat)) (x4 : Int32) (s0 : Int64) (s1 : Int64) (h : am_H) : am_R := if (lg_cmp s1 s0) = 0 then (f_L_law_2680 rc23 (1, 0) x1 x2 x3 x4 h) else (m_rz h (0 : Int32))
theorem t_L_law_2674 (d : Nat) (hd : 10 ≤ d) (rc23 : Nat × Nat → Option (Nat × Nat) → Option (Nat × Nat) → Option (Nat × Nat) → Int32 → am_H → am_R) (hrc23 : ∀ x1 x2 x3 x4 h, Sim m_L_law d 23 [some (.inr (.inr (some (1, 0)))), some (.inr (.inr x1)), some (.inr (.inr x2)), some (.inr (.inr x3)), some (.inl x4), none, none] [] h (rc23 (1, 0) x1 x2 x3 x4 h)) (x1 : Option (Nat × Nat)) (x2 : Option (Nat × Nat)) (x3 : Option (Nat × Nat)) (x4 : Int32) (s0 : Int64) (s1 : Int64) (h : am_H) : Sim m_L_law d 2674 [some (.inr (.inr (some (1, 0)))), some (.inr (.inr x1)), some (.inr (.inr x2)), some (.inr (.inr x3)), some (.inl x4), none, none] [.inr (.inl s0), .inr (.inl s1)] h (f_L_law_2674 rc23 (1, 0) x1 x2 x3 x4 s0 s1 h) := by
  unfold f_L_law_2674
  refine sim_lcmp dL_law_2674 ?_
  refine sim_if_eq 2680 dL_law_2675 (by decide) (fun c => ?_) (fun c => ?_)
  · exact sim_lv (am_leS (am_leS (am_leS (am_leS (am_leS (am_leN (am_leN am_leT))))))) (t_L_law_2680 d (by omega) _ hrc23 _ _ _ _ _)
  · refine sim_iconst (0) dL_law_2678 (by decide +kernel) ?_
    exact sim_zret dL_law_2679 rfl
def f_L_law_2634 (rc23 : Nat × Nat → Option (Nat × Nat) → Option (Nat × Nat) → Option (Nat × Nat) → Int32 → am_H → am_R) (_ : Nat × Nat) (x1 : Option (Nat × Nat)) (x2 : Option (Nat × Nat)) (x3 : Option (Nat × Nat)) (x4 : Int32) (x5 : Int32) (s0 : Int32) (s1 : Int32) (s2 : Option (Nat × Nat)) (h : am_H) : am_R := m_scr (x4 + (3 : Int32)) h fun v42 => m_ao s2 11 fun a45 => m_bI (f_X11_subscribe a45 s1 s0 v42 h) fun h43 v44 => m_ao x2 11 fun a48 => m_bI (f_X11_thrown a48 h43) fun h46 v47 => if v47 = x5 then (if x5 = 0 then (m_aL x3 (0 : Int32) h46 fun v49 => if v44 = 0 then (f_L_law_2674 rc23 (1, 0) x1 x2 x3 x4 (0 : Int64) v49 h46) else (f_L_law_2674 rc23 (1, 0) x1 x2 x3 x4 (1 : Int64) v49 h46)) else (f_L_law_2680 rc23 (1, 0) x1 x2 x3 x4 h46)) else (m_rz h46 (0 : Int32))
theorem t_L_law_2634 (d : Nat) (hd : 10 ≤ d) (rc23 : Nat × Nat → Option (Nat × Nat) → Option (Nat × Nat) → Option (Nat × Nat) → Int32 → am_H → am_R) (hrc23 : ∀ x1 x2 x3 x4 h, Sim m_L_law d 23 [some (.inr (.inr (some (1, 0)))), some (.inr (.inr x1)), some (.inr (.inr x2)), some (.inr (.inr x3)), some (.inl x4), none, none] [] h (rc23 (1, 0) x1 x2 x3 x4 h)) (x1 : Option (Nat × Nat)) (x2 : Option (Nat × Nat)) (x3 : Option (Nat × Nat)) (x4 : Int32) (x5 : Int32) (s0 : Int32) (s1 : Int32) (s2 : Option (Nat × Nat)) (h : am_H) : Sim m_L_law d 2634 [some (.inr (.inr (some (1, 0)))), some (.inr (.inr x1)), some (.inr (.inr x2)), some (.inr (.inr x3)), some (.inl x4), some (.inl x5), none] [.inl s0, .inl s1, .inr (.inr s2)] h (f_L_law_2634 rc23 (1, 0) x1 x2 x3 x4 x5 s0 s1 s2 h) := by
  unfold f_L_law_2634
  refine sim_aload_n dL_law_2634 rfl ?_
  refine sim_iload dL_law_2635 rfl ?_
  refine sim_iconst (3) dL_law_2637 (by decide +kernel) ?_
  refine sim_iadd dL_law_2638 ?_
  refine sim_scr dL_law_2639 (fun v42 => ?_)
  refine sim_ao3 (fun a45 e => ?_)
  refine sim_virt (d - 1) e dL_law_2640 (k_X11_subscribe (d - 1) (by omega) _ _ _ _ _) q_X11_subscribe rfl rfl wm_RL_267 rfl rfl (by omega) (Nat.le_of_ble_eq_true rfl) am_nI (am_rI fun h43 v44 => ?_) am_eI
  refine sim_istore dL_law_2643 (Nat.le_of_ble_eq_true rfl) ?_
  refine sim_aload_n dL_law_2645 rfl ?_
  refine sim_ao0 (fun a48 e => ?_)
  refine sim_virt (d - 1) e dL_law_2646 (k_X11_thrown (d - 1) (by omega) _  _) q_X11_thrown rfl rfl wm_RL_142 rfl rfl (by omega) (Nat.le_of_ble_eq_true rfl) am_nI (am_rI fun h46 v47 => ?_) am_eI
  refine sim_iload dL_law_2649 rfl ?_
  refine sim_ic_eq 2656 dL_law_2651 (by decide) (fun c => ?_) (fun c => ?_)
  · refine sim_iload dL_law_2656 rfl ?_
    refine sim_if_ne 2680 dL_law_2658 (by decide) (fun c => ?_) (fun c => ?_)
    · exact sim_lv (am_leS (am_leS (am_leS (am_leS (am_leS (am_leN (am_leN am_leT))))))) (t_L_law_2680 d (by omega) _ hrc23 _ _ _ _ _)
    · refine sim_aload_n dL_law_2661 rfl ?_
      refine sim_iconst (0) dL_law_2662 (by decide +kernel) ?_
      refine sim_aL dL_law_2663 (fun v49 => ?_)
      refine sim_iload dL_law_2664 rfl ?_
      refine sim_if_eq 2673 dL_law_2666 (by decide) (fun c => ?_) (fun c => ?_)
      · refine sim_lconst (0) dL_law_2673 (by decide +kernel) ?_
        exact sim_lv (am_leS (am_leS (am_leS (am_leS (am_leS (am_leN (am_leN am_leT))))))) (t_L_law_2674 d (by omega) _ hrc23 _ _ _ _ _ _ _)
      · refine sim_lconst (1) dL_law_2669 (by decide +kernel) ?_
        refine sim_goto 2674 dL_law_2670 (by decide) ?_
        exact sim_lv (am_leS (am_leS (am_leS (am_leS (am_leS (am_leN (am_leN am_leT))))))) (t_L_law_2674 d (by omega) _ hrc23 _ _ _ _ _ _ _)
  · refine sim_iconst (0) dL_law_2654 (by decide +kernel) ?_
    exact sim_zret dL_law_2655 rfl
def f_L_law_2601 (rc23 : Nat × Nat → Option (Nat × Nat) → Option (Nat × Nat) → Option (Nat × Nat) → Int32 → am_H → am_R) (_ : Nat × Nat) (x1 : Option (Nat × Nat)) (x2 : Option (Nat × Nat)) (x3 : Option (Nat × Nat)) (x4 : Int32) (s0 : Int32) (s1 : Int32) (s2 : Option (Nat × Nat)) (h : am_H) : am_R := m_scr (x4 + (3 : Int32)) h fun v37 => m_bI (f_L_subscribe s2 s1 s0 v37 x3 h) fun h38 v39 => m_scr (x4 + (1 : Int32)) h38 fun v40 => m_scr (x4 + (2 : Int32)) h38 fun v41 => if v41 = 0 then (f_L_law_2634 rc23 (1, 0) x1 x2 x3 x4 v39 (0 : Int32) v40 x2 h38) else (f_L_law_2634 rc23 (1, 0) x1 x2 x3 x4 v39 (1 : Int32) v40 x2 h38)
theorem t_L_law_2601 (d : Nat) (hd : 10 ≤ d) (rc23 : Nat × Nat → Option (Nat × Nat) → Option (Nat × Nat) → Option (Nat × Nat) → Int32 → am_H → am_R) (hrc23 : ∀ x1 x2 x3 x4 h, Sim m_L_law d 23 [some (.inr (.inr (some (1, 0)))), some (.inr (.inr x1)), some (.inr (.inr x2)), some (.inr (.inr x3)), some (.inl x4), none, none] [] h (rc23 (1, 0) x1 x2 x3 x4 h)) (x1 : Option (Nat × Nat)) (x2 : Option (Nat × Nat)) (x3 : Option (Nat × Nat)) (x4 : Int32) (s0 : Int32) (s1 : Int32) (s2 : Option (Nat × Nat)) (h : am_H) : Sim m_L_law d 2601 [some (.inr (.inr (some (1, 0)))), some (.inr (.inr x1)), some (.inr (.inr x2)), some (.inr (.inr x3)), some (.inl x4), none, none] [.inl s0, .inl s1, .inr (.inr s2)] h (f_L_law_2601 rc23 (1, 0) x1 x2 x3 x4 s0 s1 s2 h) := by
  unfold f_L_law_2601
  refine sim_aload_n dL_law_2601 rfl ?_
  refine sim_iload dL_law_2602 rfl ?_
  refine sim_iconst (3) dL_law_2604 (by decide +kernel) ?_
  refine sim_iadd dL_law_2605 ?_
  refine sim_scr dL_law_2606 (fun v37 => ?_)
  refine sim_aload_n dL_law_2607 rfl ?_
  refine sim_staticX (d - 1) dL_law_2608 (k_L_subscribe (d - 1) (by omega) _ _ _ _ _ _) q_L_subscribe wm_RL_264 rfl rfl (by omega) (Nat.le_of_ble_eq_true rfl) am_nI (am_rI fun h38 v39 => ?_) am_eI
  refine sim_istore dL_law_2611 (Nat.le_of_ble_eq_true rfl) ?_
  refine sim_aload_n dL_law_2613 rfl ?_
  refine sim_aload_n dL_law_2614 rfl ?_
  refine sim_iload dL_law_2615 rfl ?_
  refine sim_iconst (1) dL_law_2617 (by decide +kernel) ?_
  refine sim_iadd dL_law_2618 ?_
  refine sim_scr dL_law_2619 (fun v40 => ?_)
  refine sim_aload_n dL_law_2620 rfl ?_
  refine sim_iload dL_law_2621 rfl ?_
  refine sim_iconst (2) dL_law_2623 (by decide +kernel) ?_
  refine sim_iadd dL_law_2624 ?_
  refine sim_scr dL_law_2625 (fun v41 => ?_)
  refine sim_if_eq 2633 dL_law_2626 (by decide) (fun c => ?_) (fun c => ?_)
  · refine sim_iconst (0) dL_law_2633 (by decide +kernel) ?_
    exact sim_lv (am_leS (am_leS (am_leS (am_leS (am_leS (am_leS (am_leN am_leT))))))) (t_L_law_2634 d (by omega) _ hrc23 _ _ _ _ _ _ _ _ _)
  · refine sim_iconst (1) dL_law_2629 (by decide +kernel) ?_
    refine sim_goto 2634 dL_law_2630 (by decide) ?_
    exact sim_lv (am_leS (am_leS (am_leS (am_leS (am_leS (am_leS (am_leN am_leT))))))) (t_L_law_2634 d (by omega) _ hrc23 _ _ _ _ _ _ _ _ _)
def f_L_law_2580 (rc23 : Nat × Nat → Option (Nat × Nat) → Option (Nat × Nat) → Option (Nat × Nat) → Int32 → am_H → am_R) (_ : Nat × Nat) (x1 : Option (Nat × Nat)) (x2 : Option (Nat × Nat)) (x3 : Option (Nat × Nat)) (x4 : Int32) (h : am_H) : am_R := m_scr (x4 + (1 : Int32)) h fun v35 => m_scr (x4 + (2 : Int32)) h fun v36 => if v36 = 0 then (f_L_law_2601 rc23 (1, 0) x1 x2 x3 x4 (0 : Int32) v35 x1 h) else (f_L_law_2601 rc23 (1, 0) x1 x2 x3 x4 (1 : Int32) v35 x1 h)
theorem t_L_law_2580 (d : Nat) (hd : 10 ≤ d) (rc23 : Nat × Nat → Option (Nat × Nat) → Option (Nat × Nat) → Option (Nat × Nat) → Int32 → am_H → am_R) (hrc23 : ∀ x1 x2 x3 x4 h, Sim m_L_law d 23 [some (.inr (.inr (some (1, 0)))), some (.inr (.inr x1)), some (.inr (.inr x2)), some (.inr (.inr x3)), some (.inl x4), none, none] [] h (rc23 (1, 0) x1 x2 x3 x4 h)) (x1 : Option (Nat × Nat)) (x2 : Option (Nat × Nat)) (x3 : Option (Nat × Nat)) (x4 : Int32) (h : am_H) : Sim m_L_law d 2580 [some (.inr (.inr (some (1, 0)))), some (.inr (.inr x1)), some (.inr (.inr x2)), some (.inr (.inr x3)), some (.inl x4), none, none] [] h (f_L_law_2580 rc23 (1, 0) x1 x2 x3 x4 h) := by
  unfold f_L_law_2580
  refine sim_aload_n dL_law_2580 rfl ?_
  refine sim_aload_n dL_law_2581 rfl ?_
  refine sim_iload dL_law_2582 rfl ?_
  refine sim_iconst (1) dL_law_2584 (by decide +kernel) ?_
  refine sim_iadd dL_law_2585 ?_
  refine sim_scr dL_law_2586 (fun v35 => ?_)
  refine sim_aload_n dL_law_2587 rfl ?_
  refine sim_iload dL_law_2588 rfl ?_
  refine sim_iconst (2) dL_law_2590 (by decide +kernel) ?_
  refine sim_iadd dL_law_2591 ?_
  refine sim_scr dL_law_2592 (fun v36 => ?_)
  refine sim_if_eq 2600 dL_law_2593 (by decide) (fun c => ?_) (fun c => ?_)
  · refine sim_iconst (0) dL_law_2600 (by decide +kernel) ?_
    exact sim_lv (am_leS (am_leS (am_leS (am_leS (am_leS (am_leN (am_leN am_leT))))))) (t_L_law_2601 d (by omega) _ hrc23 _ _ _ _ _ _ _ _)
  · refine sim_iconst (1) dL_law_2596 (by decide +kernel) ?_
    refine sim_goto 2601 dL_law_2597 (by decide) ?_
    exact sim_lv (am_leS (am_leS (am_leS (am_leS (am_leS (am_leN (am_leN am_leT))))))) (t_L_law_2601 d (by omega) _ hrc23 _ _ _ _ _ _ _ _)
def f_L_law_2577 (rc23 : Nat × Nat → Option (Nat × Nat) → Option (Nat × Nat) → Option (Nat × Nat) → Int32 → am_H → am_R) (_ : Nat × Nat) (x1 : Option (Nat × Nat)) (x2 : Option (Nat × Nat)) (x3 : Option (Nat × Nat)) (x4 : Int32) (h : am_H) : am_R := f_L_law_2795 rc23 (1, 0) x1 x2 x3 x4 h
theorem t_L_law_2577 (d : Nat) (hd : 10 ≤ d) (rc23 : Nat × Nat → Option (Nat × Nat) → Option (Nat × Nat) → Option (Nat × Nat) → Int32 → am_H → am_R) (hrc23 : ∀ x1 x2 x3 x4 h, Sim m_L_law d 23 [some (.inr (.inr (some (1, 0)))), some (.inr (.inr x1)), some (.inr (.inr x2)), some (.inr (.inr x3)), some (.inl x4), none, none] [] h (rc23 (1, 0) x1 x2 x3 x4 h)) (x1 : Option (Nat × Nat)) (x2 : Option (Nat × Nat)) (x3 : Option (Nat × Nat)) (x4 : Int32) (h : am_H) : Sim m_L_law d 2577 [some (.inr (.inr (some (1, 0)))), some (.inr (.inr x1)), some (.inr (.inr x2)), some (.inr (.inr x3)), some (.inl x4), none, none] [] h (f_L_law_2577 rc23 (1, 0) x1 x2 x3 x4 h) := by
  unfold f_L_law_2577
  refine sim_goto 2795 dL_law_2577 (by decide) ?_
  exact sim_lv (am_leS (am_leS (am_leS (am_leS (am_leS (am_leN (am_leN am_leT))))))) (t_L_law_2795 d (by omega) _ hrc23 _ _ _ _ _)
def f_L_law_2524 (rc23 : Nat × Nat → Option (Nat × Nat) → Option (Nat × Nat) → Option (Nat × Nat) → Int32 → am_H → am_R) (_ : Nat × Nat) (x1 : Option (Nat × Nat)) (x2 : Option (Nat × Nat)) (x3 : Option (Nat × Nat)) (x4 : Int32) (h : am_H) : am_R := m_scr (x4 + (1 : Int32)) h fun v50 => m_bI (f_L_liked x1 v50 x3 h) fun h51 v52 => m_scr (x4 + (1 : Int32)) h51 fun v53 => m_ao x2 11 fun a56 => m_bI (f_X11_liked a56 v53 h51) fun h54 v55 => m_ao x2 11 fun a59 => m_bI (f_X11_thrown a59 h54) fun h57 v58 => if v58 = v52 then (if v52 = 0 then (m_aL x3 (0 : Int32) h57 fun v60 => if (lg_cmp v60 (Int32.toInt64 v55)) = 0 then (f_L_law_2577 rc23 (1, 0) x1 x2 x3 x4 h57) else (m_rz h57 (0 : Int32))) else (f_L_law_2577 rc23 (1, 0) x1 x2 x3 x4 h57)) else (m_rz h57 (0 : Int32))
theorem t_L_law_2524 (d : Nat) (hd : 10 ≤ d) (rc23 : Nat × Nat → Option (Nat × Nat) → Option (Nat × Nat) → Option (Nat × Nat) → Int32 → am_H → am_R) (hrc23 : ∀ x1 x2 x3 x4 h, Sim m_L_law d 23 [some (.inr (.inr (some (1, 0)))), some (.inr (.inr x1)), some (.inr (.inr x2)), some (.inr (.inr x3)), some (.inl x4), none, none] [] h (rc23 (1, 0) x1 x2 x3 x4 h)) (x1 : Option (Nat × Nat)) (x2 : Option (Nat × Nat)) (x3 : Option (Nat × Nat)) (x4 : Int32) (h : am_H) : Sim m_L_law d 2524 [some (.inr (.inr (some (1, 0)))), some (.inr (.inr x1)), some (.inr (.inr x2)), some (.inr (.inr x3)), some (.inl x4), none, none] [] h (f_L_law_2524 rc23 (1, 0) x1 x2 x3 x4 h) := by
  unfold f_L_law_2524
  refine sim_aload_n dL_law_2524 rfl ?_
  refine sim_aload_n dL_law_2525 rfl ?_
  refine sim_iload dL_law_2526 rfl ?_
  refine sim_iconst (1) dL_law_2528 (by decide +kernel) ?_
  refine sim_iadd dL_law_2529 ?_
  refine sim_scr dL_law_2530 (fun v50 => ?_)
  refine sim_aload_n dL_law_2531 rfl ?_
  refine sim_staticX (d - 1) dL_law_2532 (k_L_liked (d - 1) (by omega) _ _ _ _) q_L_liked wm_RL_261 rfl rfl (by omega) (Nat.le_of_ble_eq_true rfl) am_nI (am_rI fun h51 v52 => ?_) am_eI
  refine sim_istore dL_law_2535 (Nat.le_of_ble_eq_true rfl) ?_
  refine sim_aload_n dL_law_2537 rfl ?_
  refine sim_aload_n dL_law_2538 rfl ?_
  refine sim_iload dL_law_2539 rfl ?_
  refine sim_iconst (1) dL_law_2541 (by decide +kernel) ?_
  refine sim_iadd dL_law_2542 ?_
  refine sim_scr dL_law_2543 (fun v53 => ?_)
  refine sim_ao1 (fun a56 e => ?_)
  refine sim_virt (d - 1) e dL_law_2544 (k_X11_liked (d - 1) (by omega) _ _ _) q_X11_liked rfl rfl wm_RL_263 rfl rfl (by omega) (Nat.le_of_ble_eq_true rfl) am_nI (am_rI fun h54 v55 => ?_) am_eI
  refine sim_istore dL_law_2547 (Nat.le_of_ble_eq_true rfl) ?_
  refine sim_aload_n dL_law_2549 rfl ?_
  refine sim_ao0 (fun a59 e => ?_)
  refine sim_virt (d - 1) e dL_law_2550 (k_X11_thrown (d - 1) (by omega) _  _) q_X11_thrown rfl rfl wm_RL_142 rfl rfl (by omega) (Nat.le_of_ble_eq_true rfl) am_nI (am_rI fun h57 v58 => ?_) am_eI
  refine sim_iload dL_law_2553 rfl ?_
  refine sim_ic_eq 2560 dL_law_2555 (by decide) (fun c => ?_) (fun c => ?_)
  · refine sim_iload dL_law_2560 rfl ?_
    refine sim_if_ne 2577 dL_law_2562 (by decide) (fun c => ?_) (fun c => ?_)
    · exact sim_lv (am_leS (am_leS (am_leS (am_leS (am_leS (am_leN (am_leN am_leT))))))) (t_L_law_2577 d (by omega) _ hrc23 _ _ _ _ _)
    · refine sim_aload_n dL_law_2565 rfl ?_
      refine sim_iconst (0) dL_law_2566 (by decide +kernel) ?_
      refine sim_aL dL_law_2567 (fun v60 => ?_)
      refine sim_iload dL_law_2568 rfl ?_
      refine sim_i2l dL_law_2570 ?_
      refine sim_lcmp dL_law_2571 ?_
      refine sim_if_eq 2577 dL_law_2572 (by decide) (fun c => ?_) (fun c => ?_)
      · exact sim_lv (am_leS (am_leS (am_leS (am_leS (am_leS (am_leN (am_leN am_leT))))))) (t_L_law_2577 d (by omega) _ hrc23 _ _ _ _ _)
      · refine sim_iconst (0) dL_law_2575 (by decide +kernel) ?_
        exact sim_zret dL_law_2576 rfl
  · refine sim_iconst (0) dL_law_2558 (by decide +kernel) ?_
    exact sim_zret dL_law_2559 rfl
def f_L_law_2521 (rc23 : Nat × Nat → Option (Nat × Nat) → Option (Nat × Nat) → Option (Nat × Nat) → Int32 → am_H → am_R) (_ : Nat × Nat) (x1 : Option (Nat × Nat)) (x2 : Option (Nat × Nat)) (x3 : Option (Nat × Nat)) (x4 : Int32) (h : am_H) : am_R := f_L_law_2795 rc23 (1, 0) x1 x2 x3 x4 h
theorem t_L_law_2521 (d : Nat) (hd : 10 ≤ d) (rc23 : Nat × Nat → Option (Nat × Nat) → Option (Nat × Nat) → Option (Nat × Nat) → Int32 → am_H → am_R) (hrc23 : ∀ x1 x2 x3 x4 h, Sim m_L_law d 23 [some (.inr (.inr (some (1, 0)))), some (.inr (.inr x1)), some (.inr (.inr x2)), some (.inr (.inr x3)), some (.inl x4), none, none] [] h (rc23 (1, 0) x1 x2 x3 x4 h)) (x1 : Option (Nat × Nat)) (x2 : Option (Nat × Nat)) (x3 : Option (Nat × Nat)) (x4 : Int32) (h : am_H) : Sim m_L_law d 2521 [some (.inr (.inr (some (1, 0)))), some (.inr (.inr x1)), some (.inr (.inr x2)), some (.inr (.inr x3)), some (.inl x4), none, none] [] h (f_L_law_2521 rc23 (1, 0) x1 x2 x3 x4 h) := by
  unfold f_L_law_2521
  refine sim_goto 2795 dL_law_2521 (by decide) ?_
  exact sim_lv (am_leS (am_leS (am_leS (am_leS (am_leS (am_leN (am_leN am_leT))))))) (t_L_law_2795 d (by omega) _ hrc23 _ _ _ _ _)
def f_L_law_2456 (rc23 : Nat × Nat → Option (Nat × Nat) → Option (Nat × Nat) → Option (Nat × Nat) → Int32 → am_H → am_R) (_ : Nat × Nat) (x1 : Option (Nat × Nat)) (x2 : Option (Nat × Nat)) (x3 : Option (Nat × Nat)) (x4 : Int32) (h : am_H) : am_R := m_scr (x4 + (1 : Int32)) h fun v61 => m_scr (x4 + (2 : Int32)) h fun v62 => m_bI (f_L_kudos x1 v61 v62 x3 h) fun h63 v64 => m_scr (x4 + (1 : Int32)) h63 fun v65 => m_scr (x4 + (2 : Int32)) h63 fun v66 => m_ao x2 11 fun a69 => m_bI (f_X11_kudos a69 v65 v66 h63) fun h67 v68 => m_ao x2 11 fun a72 => m_bI (f_X11_thrown a72 h67) fun h70 v71 => if v71 = v64 then (if v64 = 0 then (m_aL x3 (0 : Int32) h70 fun v73 => if (lg_cmp v73 (Int32.toInt64 v68)) = 0 then (f_L_law_2521 rc23 (1, 0) x1 x2 x3 x4 h70) else (m_rz h70 (0 : Int32))) else (f_L_law_2521 rc23 (1, 0) x1 x2 x3 x4 h70)) else (m_rz h70 (0 : Int32))
theorem t_L_law_2456 (d : Nat) (hd : 10 ≤ d) (rc23 : Nat × Nat → Option (Nat × Nat) → Option (Nat × Nat) → Option (Nat × Nat) → Int32 → am_H → am_R) (hrc23 : ∀ x1 x2 x3 x4 h, Sim m_L_law d 23 [some (.inr (.inr (some (1, 0)))), some (.inr (.inr x1)), some (.inr (.inr x2)), some (.inr (.inr x3)), some (.inl x4), none, none] [] h (rc23 (1, 0) x1 x2 x3 x4 h)) (x1 : Option (Nat × Nat)) (x2 : Option (Nat × Nat)) (x3 : Option (Nat × Nat)) (x4 : Int32) (h : am_H) : Sim m_L_law d 2456 [some (.inr (.inr (some (1, 0)))), some (.inr (.inr x1)), some (.inr (.inr x2)), some (.inr (.inr x3)), some (.inl x4), none, none] [] h (f_L_law_2456 rc23 (1, 0) x1 x2 x3 x4 h) := by
  unfold f_L_law_2456
  refine sim_aload_n dL_law_2456 rfl ?_
  refine sim_aload_n dL_law_2457 rfl ?_
  refine sim_iload dL_law_2458 rfl ?_
  refine sim_iconst (1) dL_law_2460 (by decide +kernel) ?_
  refine sim_iadd dL_law_2461 ?_
  refine sim_scr dL_law_2462 (fun v61 => ?_)
  refine sim_aload_n dL_law_2463 rfl ?_
  refine sim_iload dL_law_2464 rfl ?_
  refine sim_iconst (2) dL_law_2466 (by decide +kernel) ?_
  refine sim_iadd dL_law_2467 ?_
  refine sim_scr dL_law_2468 (fun v62 => ?_)
  refine sim_aload_n dL_law_2469 rfl ?_
  refine sim_staticX (d - 1) dL_law_2470 (k_L_kudos (d - 1) (by omega) _ _ _ _ _) q_L_kudos wm_RL_258 rfl rfl (by omega) (Nat.le_of_ble_eq_true rfl) am_nI (am_rI fun h63 v64 => ?_) am_eI
  refine sim_istore dL_law_2473 (Nat.le_of_ble_eq_true rfl) ?_
  refine sim_aload_n dL_law_2475 rfl ?_
  refine sim_aload_n dL_law_2476 rfl ?_
  refine sim_iload dL_law_2477 rfl ?_
  refine sim_iconst (1) dL_law_2479 (by decide +kernel) ?_
  refine sim_iadd dL_law_2480 ?_
  refine sim_scr dL_law_2481 (fun v65 => ?_)
  refine sim_aload_n dL_law_2482 rfl ?_
  refine sim_iload dL_law_2483 rfl ?_
  refine sim_iconst (2) dL_law_2485 (by decide +kernel) ?_
  refine sim_iadd dL_law_2486 ?_
  refine sim_scr dL_law_2487 (fun v66 => ?_)
  refine sim_ao2 (fun a69 e => ?_)
  refine sim_virt (d - 1) e dL_law_2488 (k_X11_kudos (d - 1) (by omega) _ _ _ _) q_X11_kudos rfl rfl wm_RL_260 rfl rfl (by omega) (Nat.le_of_ble_eq_true rfl) am_nI (am_rI fun h67 v68 => ?_) am_eI
  refine sim_istore dL_law_2491 (Nat.le_of_ble_eq_true rfl) ?_
  refine sim_aload_n dL_law_2493 rfl ?_
  refine sim_ao0 (fun a72 e => ?_)
  refine sim_virt (d - 1) e dL_law_2494 (k_X11_thrown (d - 1) (by omega) _  _) q_X11_thrown rfl rfl wm_RL_142 rfl rfl (by omega) (Nat.le_of_ble_eq_true rfl) am_nI (am_rI fun h70 v71 => ?_) am_eI
  refine sim_iload dL_law_2497 rfl ?_
  refine sim_ic_eq 2504 dL_law_2499 (by decide) (fun c => ?_) (fun c => ?_)
  · refine sim_iload dL_law_2504 rfl ?_
    refine sim_if_ne 2521 dL_law_2506 (by decide) (fun c => ?_) (fun c => ?_)
    · exact sim_lv (am_leS (am_leS (am_leS (am_leS (am_leS (am_leN (am_leN am_leT))))))) (t_L_law_2521 d (by omega) _ hrc23 _ _ _ _ _)
    · refine sim_aload_n dL_law_2509 rfl ?_
      refine sim_iconst (0) dL_law_2510 (by decide +kernel) ?_
      refine sim_aL dL_law_2511 (fun v73 => ?_)
      refine sim_iload dL_law_2512 rfl ?_
      refine sim_i2l dL_law_2514 ?_
      refine sim_lcmp dL_law_2515 ?_
      refine sim_if_eq 2521 dL_law_2516 (by decide) (fun c => ?_) (fun c => ?_)
      · exact sim_lv (am_leS (am_leS (am_leS (am_leS (am_leS (am_leN (am_leN am_leT))))))) (t_L_law_2521 d (by omega) _ hrc23 _ _ _ _ _)
      · refine sim_iconst (0) dL_law_2519 (by decide +kernel) ?_
        exact sim_zret dL_law_2520 rfl
  · refine sim_iconst (0) dL_law_2502 (by decide +kernel) ?_
    exact sim_zret dL_law_2503 rfl
def f_L_law_2453 (rc23 : Nat × Nat → Option (Nat × Nat) → Option (Nat × Nat) → Option (Nat × Nat) → Int32 → am_H → am_R) (_ : Nat × Nat) (x1 : Option (Nat × Nat)) (x2 : Option (Nat × Nat)) (x3 : Option (Nat × Nat)) (x4 : Int32) (h : am_H) : am_R := f_L_law_2795 rc23 (1, 0) x1 x2 x3 x4 h
theorem t_L_law_2453 (d : Nat) (hd : 10 ≤ d) (rc23 : Nat × Nat → Option (Nat × Nat) → Option (Nat × Nat) → Option (Nat × Nat) → Int32 → am_H → am_R) (hrc23 : ∀ x1 x2 x3 x4 h, Sim m_L_law d 23 [some (.inr (.inr (some (1, 0)))), some (.inr (.inr x1)), some (.inr (.inr x2)), some (.inr (.inr x3)), some (.inl x4), none, none] [] h (rc23 (1, 0) x1 x2 x3 x4 h)) (x1 : Option (Nat × Nat)) (x2 : Option (Nat × Nat)) (x3 : Option (Nat × Nat)) (x4 : Int32) (h : am_H) : Sim m_L_law d 2453 [some (.inr (.inr (some (1, 0)))), some (.inr (.inr x1)), some (.inr (.inr x2)), some (.inr (.inr x3)), some (.inl x4), none, none] [] h (f_L_law_2453 rc23 (1, 0) x1 x2 x3 x4 h) := by
  unfold f_L_law_2453
  refine sim_goto 2795 dL_law_2453 (by decide) ?_
  exact sim_lv (am_leS (am_leS (am_leS (am_leS (am_leS (am_leN (am_leN am_leT))))))) (t_L_law_2795 d (by omega) _ hrc23 _ _ _ _ _)
def f_L_law_2388 (rc23 : Nat × Nat → Option (Nat × Nat) → Option (Nat × Nat) → Option (Nat × Nat) → Int32 → am_H → am_R) (_ : Nat × Nat) (x1 : Option (Nat × Nat)) (x2 : Option (Nat × Nat)) (x3 : Option (Nat × Nat)) (x4 : Int32) (h : am_H) : am_R := m_scr (x4 + (1 : Int32)) h fun v74 => m_scr (x4 + (2 : Int32)) h fun v75 => m_bI (f_L_reads x1 v74 v75 x3 h) fun h76 v77 => m_scr (x4 + (1 : Int32)) h76 fun v78 => m_scr (x4 + (2 : Int32)) h76 fun v79 => m_ao x2 11 fun a82 => m_bI (f_X11_reads a82 v78 v79 h76) fun h80 v81 => m_ao x2 11 fun a85 => m_bI (f_X11_thrown a85 h80) fun h83 v84 => if v84 = v77 then (if v77 = 0 then (m_aL x3 (0 : Int32) h83 fun v86 => if (lg_cmp v86 (Int32.toInt64 v81)) = 0 then (f_L_law_2453 rc23 (1, 0) x1 x2 x3 x4 h83) else (m_rz h83 (0 : Int32))) else (f_L_law_2453 rc23 (1, 0) x1 x2 x3 x4 h83)) else (m_rz h83 (0 : Int32))
theorem t_L_law_2388 (d : Nat) (hd : 10 ≤ d) (rc23 : Nat × Nat → Option (Nat × Nat) → Option (Nat × Nat) → Option (Nat × Nat) → Int32 → am_H → am_R) (hrc23 : ∀ x1 x2 x3 x4 h, Sim m_L_law d 23 [some (.inr (.inr (some (1, 0)))), some (.inr (.inr x1)), some (.inr (.inr x2)), some (.inr (.inr x3)), some (.inl x4), none, none] [] h (rc23 (1, 0) x1 x2 x3 x4 h)) (x1 : Option (Nat × Nat)) (x2 : Option (Nat × Nat)) (x3 : Option (Nat × Nat)) (x4 : Int32) (h : am_H) : Sim m_L_law d 2388 [some (.inr (.inr (some (1, 0)))), some (.inr (.inr x1)), some (.inr (.inr x2)), some (.inr (.inr x3)), some (.inl x4), none, none] [] h (f_L_law_2388 rc23 (1, 0) x1 x2 x3 x4 h) := by
  unfold f_L_law_2388
  refine sim_aload_n dL_law_2388 rfl ?_
  refine sim_aload_n dL_law_2389 rfl ?_
  refine sim_iload dL_law_2390 rfl ?_
  refine sim_iconst (1) dL_law_2392 (by decide +kernel) ?_
  refine sim_iadd dL_law_2393 ?_
  refine sim_scr dL_law_2394 (fun v74 => ?_)
  refine sim_aload_n dL_law_2395 rfl ?_
  refine sim_iload dL_law_2396 rfl ?_
  refine sim_iconst (2) dL_law_2398 (by decide +kernel) ?_
  refine sim_iadd dL_law_2399 ?_
  refine sim_scr dL_law_2400 (fun v75 => ?_)
  refine sim_aload_n dL_law_2401 rfl ?_
  refine sim_staticX (d - 1) dL_law_2402 (k_L_reads (d - 1) (by omega) _ _ _ _ _) q_L_reads wm_RL_255 rfl rfl (by omega) (Nat.le_of_ble_eq_true rfl) am_nI (am_rI fun h76 v77 => ?_) am_eI
  refine sim_istore dL_law_2405 (Nat.le_of_ble_eq_true rfl) ?_
  refine sim_aload_n dL_law_2407 rfl ?_
  refine sim_aload_n dL_law_2408 rfl ?_
  refine sim_iload dL_law_2409 rfl ?_
  refine sim_iconst (1) dL_law_2411 (by decide +kernel) ?_
  refine sim_iadd dL_law_2412 ?_
  refine sim_scr dL_law_2413 (fun v78 => ?_)
  refine sim_aload_n dL_law_2414 rfl ?_
  refine sim_iload dL_law_2415 rfl ?_
  refine sim_iconst (2) dL_law_2417 (by decide +kernel) ?_
  refine sim_iadd dL_law_2418 ?_
  refine sim_scr dL_law_2419 (fun v79 => ?_)
  refine sim_ao2 (fun a82 e => ?_)
  refine sim_virt (d - 1) e dL_law_2420 (k_X11_reads (d - 1) (by omega) _ _ _ _) q_X11_reads rfl rfl wm_RL_257 rfl rfl (by omega) (Nat.le_of_ble_eq_true rfl) am_nI (am_rI fun h80 v81 => ?_) am_eI
  refine sim_istore dL_law_2423 (Nat.le_of_ble_eq_true rfl) ?_
  refine sim_aload_n dL_law_2425 rfl ?_
  refine sim_ao0 (fun a85 e => ?_)
  refine sim_virt (d - 1) e dL_law_2426 (k_X11_thrown (d - 1) (by omega) _  _) q_X11_thrown rfl rfl wm_RL_142 rfl rfl (by omega) (Nat.le_of_ble_eq_true rfl) am_nI (am_rI fun h83 v84 => ?_) am_eI
  refine sim_iload dL_law_2429 rfl ?_
  refine sim_ic_eq 2436 dL_law_2431 (by decide) (fun c => ?_) (fun c => ?_)
  · refine sim_iload dL_law_2436 rfl ?_
    refine sim_if_ne 2453 dL_law_2438 (by decide) (fun c => ?_) (fun c => ?_)
    · exact sim_lv (am_leS (am_leS (am_leS (am_leS (am_leS (am_leN (am_leN am_leT))))))) (t_L_law_2453 d (by omega) _ hrc23 _ _ _ _ _)
    · refine sim_aload_n dL_law_2441 rfl ?_
      refine sim_iconst (0) dL_law_2442 (by decide +kernel) ?_
      refine sim_aL dL_law_2443 (fun v86 => ?_)
      refine sim_iload dL_law_2444 rfl ?_
      refine sim_i2l dL_law_2446 ?_
      refine sim_lcmp dL_law_2447 ?_
      refine sim_if_eq 2453 dL_law_2448 (by decide) (fun c => ?_) (fun c => ?_)
      · exact sim_lv (am_leS (am_leS (am_leS (am_leS (am_leS (am_leN (am_leN am_leT))))))) (t_L_law_2453 d (by omega) _ hrc23 _ _ _ _ _)
      · refine sim_iconst (0) dL_law_2451 (by decide +kernel) ?_
        exact sim_zret dL_law_2452 rfl
  · refine sim_iconst (0) dL_law_2434 (by decide +kernel) ?_
    exact sim_zret dL_law_2435 rfl
def f_L_law_2385 (rc23 : Nat × Nat → Option (Nat × Nat) → Option (Nat × Nat) → Option (Nat × Nat) → Int32 → am_H → am_R) (_ : Nat × Nat) (x1 : Option (Nat × Nat)) (x2 : Option (Nat × Nat)) (x3 : Option (Nat × Nat)) (x4 : Int32) (h : am_H) : am_R := f_L_law_2795 rc23 (1, 0) x1 x2 x3 x4 h
theorem t_L_law_2385 (d : Nat) (hd : 10 ≤ d) (rc23 : Nat × Nat → Option (Nat × Nat) → Option (Nat × Nat) → Option (Nat × Nat) → Int32 → am_H → am_R) (hrc23 : ∀ x1 x2 x3 x4 h, Sim m_L_law d 23 [some (.inr (.inr (some (1, 0)))), some (.inr (.inr x1)), some (.inr (.inr x2)), some (.inr (.inr x3)), some (.inl x4), none, none] [] h (rc23 (1, 0) x1 x2 x3 x4 h)) (x1 : Option (Nat × Nat)) (x2 : Option (Nat × Nat)) (x3 : Option (Nat × Nat)) (x4 : Int32) (h : am_H) : Sim m_L_law d 2385 [some (.inr (.inr (some (1, 0)))), some (.inr (.inr x1)), some (.inr (.inr x2)), some (.inr (.inr x3)), some (.inl x4), none, none] [] h (f_L_law_2385 rc23 (1, 0) x1 x2 x3 x4 h) := by
  unfold f_L_law_2385
  refine sim_goto 2795 dL_law_2385 (by decide) ?_
  exact sim_lv (am_leS (am_leS (am_leS (am_leS (am_leS (am_leN (am_leN am_leT))))))) (t_L_law_2795 d (by omega) _ hrc23 _ _ _ _ _)
def f_L_law_2379 (rc23 : Nat × Nat → Option (Nat × Nat) → Option (Nat × Nat) → Option (Nat × Nat) → Int32 → am_H → am_R) (_ : Nat × Nat) (x1 : Option (Nat × Nat)) (x2 : Option (Nat × Nat)) (x3 : Option (Nat × Nat)) (x4 : Int32) (s0 : Int64) (s1 : Int64) (h : am_H) : am_R := if (lg_cmp s1 s0) = 0 then (f_L_law_2385 rc23 (1, 0) x1 x2 x3 x4 h) else (m_rz h (0 : Int32))
theorem t_L_law_2379 (d : Nat) (hd : 10 ≤ d) (rc23 : Nat × Nat → Option (Nat × Nat) → Option (Nat × Nat) → Option (Nat × Nat) → Int32 → am_H → am_R) (hrc23 : ∀ x1 x2 x3 x4 h, Sim m_L_law d 23 [some (.inr (.inr (some (1, 0)))), some (.inr (.inr x1)), some (.inr (.inr x2)), some (.inr (.inr x3)), some (.inl x4), none, none] [] h (rc23 (1, 0) x1 x2 x3 x4 h)) (x1 : Option (Nat × Nat)) (x2 : Option (Nat × Nat)) (x3 : Option (Nat × Nat)) (x4 : Int32) (s0 : Int64) (s1 : Int64) (h : am_H) : Sim m_L_law d 2379 [some (.inr (.inr (some (1, 0)))), some (.inr (.inr x1)), some (.inr (.inr x2)), some (.inr (.inr x3)), some (.inl x4), none, none] [.inr (.inl s0), .inr (.inl s1)] h (f_L_law_2379 rc23 (1, 0) x1 x2 x3 x4 s0 s1 h) := by
  unfold f_L_law_2379
  refine sim_lcmp dL_law_2379 ?_
  refine sim_if_eq 2385 dL_law_2380 (by decide) (fun c => ?_) (fun c => ?_)
  · exact sim_lv (am_leS (am_leS (am_leS (am_leS (am_leS (am_leN (am_leN am_leT))))))) (t_L_law_2385 d (by omega) _ hrc23 _ _ _ _ _)
  · refine sim_iconst (0) dL_law_2383 (by decide +kernel) ?_
    exact sim_zret dL_law_2384 rfl
def f_L_law_2313 (rc23 : Nat × Nat → Option (Nat × Nat) → Option (Nat × Nat) → Option (Nat × Nat) → Int32 → am_H → am_R) (_ : Nat × Nat) (x1 : Option (Nat × Nat)) (x2 : Option (Nat × Nat)) (x3 : Option (Nat × Nat)) (x4 : Int32) (h : am_H) : am_R := m_scr (x4 + (1 : Int32)) h fun v87 => m_scr (x4 + (2 : Int32)) h fun v88 => m_bI (f_L_change x1 v87 v88 x3 h) fun h89 v90 => m_scr (x4 + (1 : Int32)) h89 fun v91 => m_scr (x4 + (2 : Int32)) h89 fun v92 => m_ao x2 11 fun a95 => m_bI (f_X11_change a95 v91 v92 h89) fun h93 v94 => m_ao x2 11 fun a98 => m_bI (f_X11_thrown a98 h93) fun h96 v97 => if v97 = v90 then (if v90 = 0 then (m_aL x3 (0 : Int32) h96 fun v99 => if v94 = 0 then (f_L_law_2379 rc23 (1, 0) x1 x2 x3 x4 (0 : Int64) v99 h96) else (f_L_law_2379 rc23 (1, 0) x1 x2 x3 x4 (1 : Int64) v99 h96)) else (f_L_law_2385 rc23 (1, 0) x1 x2 x3 x4 h96)) else (m_rz h96 (0 : Int32))
theorem t_L_law_2313 (d : Nat) (hd : 10 ≤ d) (rc23 : Nat × Nat → Option (Nat × Nat) → Option (Nat × Nat) → Option (Nat × Nat) → Int32 → am_H → am_R) (hrc23 : ∀ x1 x2 x3 x4 h, Sim m_L_law d 23 [some (.inr (.inr (some (1, 0)))), some (.inr (.inr x1)), some (.inr (.inr x2)), some (.inr (.inr x3)), some (.inl x4), none, none] [] h (rc23 (1, 0) x1 x2 x3 x4 h)) (x1 : Option (Nat × Nat)) (x2 : Option (Nat × Nat)) (x3 : Option (Nat × Nat)) (x4 : Int32) (h : am_H) : Sim m_L_law d 2313 [some (.inr (.inr (some (1, 0)))), some (.inr (.inr x1)), some (.inr (.inr x2)), some (.inr (.inr x3)), some (.inl x4), none, none] [] h (f_L_law_2313 rc23 (1, 0) x1 x2 x3 x4 h) := by
  unfold f_L_law_2313
  refine sim_aload_n dL_law_2313 rfl ?_
  refine sim_aload_n dL_law_2314 rfl ?_
  refine sim_iload dL_law_2315 rfl ?_
  refine sim_iconst (1) dL_law_2317 (by decide +kernel) ?_
  refine sim_iadd dL_law_2318 ?_
  refine sim_scr dL_law_2319 (fun v87 => ?_)
  refine sim_aload_n dL_law_2320 rfl ?_
  refine sim_iload dL_law_2321 rfl ?_
  refine sim_iconst (2) dL_law_2323 (by decide +kernel) ?_
  refine sim_iadd dL_law_2324 ?_
  refine sim_scr dL_law_2325 (fun v88 => ?_)
  refine sim_aload_n dL_law_2326 rfl ?_
  refine sim_staticX (d - 1) dL_law_2327 (k_L_change (d - 1) (by omega) _ _ _ _ _) q_L_change wm_RL_252 rfl rfl (by omega) (Nat.le_of_ble_eq_true rfl) am_nI (am_rI fun h89 v90 => ?_) am_eI
  refine sim_istore dL_law_2330 (Nat.le_of_ble_eq_true rfl) ?_
  refine sim_aload_n dL_law_2332 rfl ?_
  refine sim_aload_n dL_law_2333 rfl ?_
  refine sim_iload dL_law_2334 rfl ?_
  refine sim_iconst (1) dL_law_2336 (by decide +kernel) ?_
  refine sim_iadd dL_law_2337 ?_
  refine sim_scr dL_law_2338 (fun v91 => ?_)
  refine sim_aload_n dL_law_2339 rfl ?_
  refine sim_iload dL_law_2340 rfl ?_
  refine sim_iconst (2) dL_law_2342 (by decide +kernel) ?_
  refine sim_iadd dL_law_2343 ?_
  refine sim_scr dL_law_2344 (fun v92 => ?_)
  refine sim_ao2 (fun a95 e => ?_)
  refine sim_virt (d - 1) e dL_law_2345 (k_X11_change (d - 1) (by omega) _ _ _ _) q_X11_change rfl rfl wm_RL_254 rfl rfl (by omega) (Nat.le_of_ble_eq_true rfl) am_nI (am_rI fun h93 v94 => ?_) am_eI
  refine sim_istore dL_law_2348 (Nat.le_of_ble_eq_true rfl) ?_
  refine sim_aload_n dL_law_2350 rfl ?_
  refine sim_ao0 (fun a98 e => ?_)
  refine sim_virt (d - 1) e dL_law_2351 (k_X11_thrown (d - 1) (by omega) _  _) q_X11_thrown rfl rfl wm_RL_142 rfl rfl (by omega) (Nat.le_of_ble_eq_true rfl) am_nI (am_rI fun h96 v97 => ?_) am_eI
  refine sim_iload dL_law_2354 rfl ?_
  refine sim_ic_eq 2361 dL_law_2356 (by decide) (fun c => ?_) (fun c => ?_)
  · refine sim_iload dL_law_2361 rfl ?_
    refine sim_if_ne 2385 dL_law_2363 (by decide) (fun c => ?_) (fun c => ?_)
    · exact sim_lv (am_leS (am_leS (am_leS (am_leS (am_leS (am_leN (am_leN am_leT))))))) (t_L_law_2385 d (by omega) _ hrc23 _ _ _ _ _)
    · refine sim_aload_n dL_law_2366 rfl ?_
      refine sim_iconst (0) dL_law_2367 (by decide +kernel) ?_
      refine sim_aL dL_law_2368 (fun v99 => ?_)
      refine sim_iload dL_law_2369 rfl ?_
      refine sim_if_eq 2378 dL_law_2371 (by decide) (fun c => ?_) (fun c => ?_)
      · refine sim_lconst (0) dL_law_2378 (by decide +kernel) ?_
        exact sim_lv (am_leS (am_leS (am_leS (am_leS (am_leS (am_leN (am_leN am_leT))))))) (t_L_law_2379 d (by omega) _ hrc23 _ _ _ _ _ _ _)
      · refine sim_lconst (1) dL_law_2374 (by decide +kernel) ?_
        refine sim_goto 2379 dL_law_2375 (by decide) ?_
        exact sim_lv (am_leS (am_leS (am_leS (am_leS (am_leS (am_leN (am_leN am_leT))))))) (t_L_law_2379 d (by omega) _ hrc23 _ _ _ _ _ _ _)
  · refine sim_iconst (0) dL_law_2359 (by decide +kernel) ?_
    exact sim_zret dL_law_2360 rfl
def f_L_law_2310 (rc23 : Nat × Nat → Option (Nat × Nat) → Option (Nat × Nat) → Option (Nat × Nat) → Int32 → am_H → am_R) (_ : Nat × Nat) (x1 : Option (Nat × Nat)) (x2 : Option (Nat × Nat)) (x3 : Option (Nat × Nat)) (x4 : Int32) (h : am_H) : am_R := f_L_law_2795 rc23 (1, 0) x1 x2 x3 x4 h
theorem t_L_law_2310 (d : Nat) (hd : 10 ≤ d) (rc23 : Nat × Nat → Option (Nat × Nat) → Option (Nat × Nat) → Option (Nat × Nat) → Int32 → am_H → am_R) (hrc23 : ∀ x1 x2 x3 x4 h, Sim m_L_law d 23 [some (.inr (.inr (some (1, 0)))), some (.inr (.inr x1)), some (.inr (.inr x2)), some (.inr (.inr x3)), some (.inl x4), none, none] [] h (rc23 (1, 0) x1 x2 x3 x4 h)) (x1 : Option (Nat × Nat)) (x2 : Option (Nat × Nat)) (x3 : Option (Nat × Nat)) (x4 : Int32) (h : am_H) : Sim m_L_law d 2310 [some (.inr (.inr (some (1, 0)))), some (.inr (.inr x1)), some (.inr (.inr x2)), some (.inr (.inr x3)), some (.inl x4), none, none] [] h (f_L_law_2310 rc23 (1, 0) x1 x2 x3 x4 h) := by
  unfold f_L_law_2310
  refine sim_goto 2795 dL_law_2310 (by decide) ?_
  exact sim_lv (am_leS (am_leS (am_leS (am_leS (am_leS (am_leN (am_leN am_leT))))))) (t_L_law_2795 d (by omega) _ hrc23 _ _ _ _ _)
def f_L_law_2233 (rc23 : Nat × Nat → Option (Nat × Nat) → Option (Nat × Nat) → Option (Nat × Nat) → Int32 → am_H → am_R) (_ : Nat × Nat) (x1 : Option (Nat × Nat)) (x2 : Option (Nat × Nat)) (x3 : Option (Nat × Nat)) (x4 : Int32) (h : am_H) : am_R := m_scr (x4 + (1 : Int32)) h fun v100 => m_scr (x4 + (2 : Int32)) h fun v101 => m_scr (x4 + (3 : Int32)) h fun v102 => m_bI (f_L_comment x1 v100 v101 v102 x3 h) fun h103 v104 => m_scr (x4 + (1 : Int32)) h103 fun v105 => m_scr (x4 + (2 : Int32)) h103 fun v106 => m_scr (x4 + (3 : Int32)) h103 fun v107 => m_ao x2 11 fun a110 => m_bI (f_X11_comment a110 v105 v106 v107 h103) fun h108 v109 => m_ao x2 11 fun a113 => m_bI (f_X11_thrown a113 h108) fun h111 v112 => if v112 = v104 then (if v104 = 0 then (m_aL x3 (0 : Int32) h111 fun v114 => if (lg_cmp v114 (Int32.toInt64 v109)) = 0 then (f_L_law_2310 rc23 (1, 0) x1 x2 x3 x4 h111) else (m_rz h111 (0 : Int32))) else (f_L_law_2310 rc23 (1, 0) x1 x2 x3 x4 h111)) else (m_rz h111 (0 : Int32))
theorem t_L_law_2233 (d : Nat) (hd : 10 ≤ d) (rc23 : Nat × Nat → Option (Nat × Nat) → Option (Nat × Nat) → Option (Nat × Nat) → Int32 → am_H → am_R) (hrc23 : ∀ x1 x2 x3 x4 h, Sim m_L_law d 23 [some (.inr (.inr (some (1, 0)))), some (.inr (.inr x1)), some (.inr (.inr x2)), some (.inr (.inr x3)), some (.inl x4), none, none] [] h (rc23 (1, 0) x1 x2 x3 x4 h)) (x1 : Option (Nat × Nat)) (x2 : Option (Nat × Nat)) (x3 : Option (Nat × Nat)) (x4 : Int32) (h : am_H) : Sim m_L_law d 2233 [some (.inr (.inr (some (1, 0)))), some (.inr (.inr x1)), some (.inr (.inr x2)), some (.inr (.inr x3)), some (.inl x4), none, none] [] h (f_L_law_2233 rc23 (1, 0) x1 x2 x3 x4 h) := by
  unfold f_L_law_2233
  refine sim_aload_n dL_law_2233 rfl ?_
  refine sim_aload_n dL_law_2234 rfl ?_
  refine sim_iload dL_law_2235 rfl ?_
  refine sim_iconst (1) dL_law_2237 (by decide +kernel) ?_
  refine sim_iadd dL_law_2238 ?_
  refine sim_scr dL_law_2239 (fun v100 => ?_)
  refine sim_aload_n dL_law_2240 rfl ?_
  refine sim_iload dL_law_2241 rfl ?_
  refine sim_iconst (2) dL_law_2243 (by decide +kernel) ?_
  refine sim_iadd dL_law_2244 ?_
  refine sim_scr dL_law_2245 (fun v101 => ?_)
  refine sim_aload_n dL_law_2246 rfl ?_
  refine sim_iload dL_law_2247 rfl ?_
  refine sim_iconst (3) dL_law_2249 (by decide +kernel) ?_
  refine sim_iadd dL_law_2250 ?_
  refine sim_scr dL_law_2251 (fun v102 => ?_)
  refine sim_aload_n dL_law_2252 rfl ?_
  refine sim_staticX (d - 1) dL_law_2253 (k_L_comment (d - 1) (by omega) _ _ _ _ _ _) q_L_comment wm_RL_248 rfl rfl (by omega) (Nat.le_of_ble_eq_true rfl) am_nI (am_rI fun h103 v104 => ?_) am_eI
  refine sim_istore dL_law_2256 (Nat.le_of_ble_eq_true rfl) ?_
  refine sim_aload_n dL_law_2258 rfl ?_
  refine sim_aload_n dL_law_2259 rfl ?_
  refine sim_iload dL_law_2260 rfl ?_
  refine sim_iconst (1) dL_law_2262 (by decide +kernel) ?_
  refine sim_iadd dL_law_2263 ?_
  refine sim_scr dL_law_2264 (fun v105 => ?_)
  refine sim_aload_n dL_law_2265 rfl ?_
  refine sim_iload dL_law_2266 rfl ?_
  refine sim_iconst (2) dL_law_2268 (by decide +kernel) ?_
  refine sim_iadd dL_law_2269 ?_
  refine sim_scr dL_law_2270 (fun v106 => ?_)
  refine sim_aload_n dL_law_2271 rfl ?_
  refine sim_iload dL_law_2272 rfl ?_
  refine sim_iconst (3) dL_law_2274 (by decide +kernel) ?_
  refine sim_iadd dL_law_2275 ?_
  refine sim_scr dL_law_2276 (fun v107 => ?_)
  refine sim_ao3 (fun a110 e => ?_)
  refine sim_virt (d - 1) e dL_law_2277 (k_X11_comment (d - 1) (by omega) _ _ _ _ _) q_X11_comment rfl rfl wm_RL_251 rfl rfl (by omega) (Nat.le_of_ble_eq_true rfl) am_nI (am_rI fun h108 v109 => ?_) am_eI
  refine sim_istore dL_law_2280 (Nat.le_of_ble_eq_true rfl) ?_
  refine sim_aload_n dL_law_2282 rfl ?_
  refine sim_ao0 (fun a113 e => ?_)
  refine sim_virt (d - 1) e dL_law_2283 (k_X11_thrown (d - 1) (by omega) _  _) q_X11_thrown rfl rfl wm_RL_142 rfl rfl (by omega) (Nat.le_of_ble_eq_true rfl) am_nI (am_rI fun h111 v112 => ?_) am_eI
  refine sim_iload dL_law_2286 rfl ?_
  refine sim_ic_eq 2293 dL_law_2288 (by decide) (fun c => ?_) (fun c => ?_)
  · refine sim_iload dL_law_2293 rfl ?_
    refine sim_if_ne 2310 dL_law_2295 (by decide) (fun c => ?_) (fun c => ?_)
    · exact sim_lv (am_leS (am_leS (am_leS (am_leS (am_leS (am_leN (am_leN am_leT))))))) (t_L_law_2310 d (by omega) _ hrc23 _ _ _ _ _)
    · refine sim_aload_n dL_law_2298 rfl ?_
      refine sim_iconst (0) dL_law_2299 (by decide +kernel) ?_
      refine sim_aL dL_law_2300 (fun v114 => ?_)
      refine sim_iload dL_law_2301 rfl ?_
      refine sim_i2l dL_law_2303 ?_
      refine sim_lcmp dL_law_2304 ?_
      refine sim_if_eq 2310 dL_law_2305 (by decide) (fun c => ?_) (fun c => ?_)
      · exact sim_lv (am_leS (am_leS (am_leS (am_leS (am_leS (am_leN (am_leN am_leT))))))) (t_L_law_2310 d (by omega) _ hrc23 _ _ _ _ _)
      · refine sim_iconst (0) dL_law_2308 (by decide +kernel) ?_
        exact sim_zret dL_law_2309 rfl
  · refine sim_iconst (0) dL_law_2291 (by decide +kernel) ?_
    exact sim_zret dL_law_2292 rfl
def f_L_law_2230 (rc23 : Nat × Nat → Option (Nat × Nat) → Option (Nat × Nat) → Option (Nat × Nat) → Int32 → am_H → am_R) (_ : Nat × Nat) (x1 : Option (Nat × Nat)) (x2 : Option (Nat × Nat)) (x3 : Option (Nat × Nat)) (x4 : Int32) (h : am_H) : am_R := f_L_law_2795 rc23 (1, 0) x1 x2 x3 x4 h
theorem t_L_law_2230 (d : Nat) (hd : 10 ≤ d) (rc23 : Nat × Nat → Option (Nat × Nat) → Option (Nat × Nat) → Option (Nat × Nat) → Int32 → am_H → am_R) (hrc23 : ∀ x1 x2 x3 x4 h, Sim m_L_law d 23 [some (.inr (.inr (some (1, 0)))), some (.inr (.inr x1)), some (.inr (.inr x2)), some (.inr (.inr x3)), some (.inl x4), none, none] [] h (rc23 (1, 0) x1 x2 x3 x4 h)) (x1 : Option (Nat × Nat)) (x2 : Option (Nat × Nat)) (x3 : Option (Nat × Nat)) (x4 : Int32) (h : am_H) : Sim m_L_law d 2230 [some (.inr (.inr (some (1, 0)))), some (.inr (.inr x1)), some (.inr (.inr x2)), some (.inr (.inr x3)), some (.inl x4), none, none] [] h (f_L_law_2230 rc23 (1, 0) x1 x2 x3 x4 h) := by
  unfold f_L_law_2230
  refine sim_goto 2795 dL_law_2230 (by decide) ?_
  exact sim_lv (am_leS (am_leS (am_leS (am_leS (am_leS (am_leN (am_leN am_leT))))))) (t_L_law_2795 d (by omega) _ hrc23 _ _ _ _ _)
def f_L_law_2224 (rc23 : Nat × Nat → Option (Nat × Nat) → Option (Nat × Nat) → Option (Nat × Nat) → Int32 → am_H → am_R) (_ : Nat × Nat) (x1 : Option (Nat × Nat)) (x2 : Option (Nat × Nat)) (x3 : Option (Nat × Nat)) (x4 : Int32) (s0 : Int64) (s1 : Int64) (h : am_H) : am_R := if (lg_cmp s1 s0) = 0 then (f_L_law_2230 rc23 (1, 0) x1 x2 x3 x4 h) else (m_rz h (0 : Int32))
theorem t_L_law_2224 (d : Nat) (hd : 10 ≤ d) (rc23 : Nat × Nat → Option (Nat × Nat) → Option (Nat × Nat) → Option (Nat × Nat) → Int32 → am_H → am_R) (hrc23 : ∀ x1 x2 x3 x4 h, Sim m_L_law d 23 [some (.inr (.inr (some (1, 0)))), some (.inr (.inr x1)), some (.inr (.inr x2)), some (.inr (.inr x3)), some (.inl x4), none, none] [] h (rc23 (1, 0) x1 x2 x3 x4 h)) (x1 : Option (Nat × Nat)) (x2 : Option (Nat × Nat)) (x3 : Option (Nat × Nat)) (x4 : Int32) (s0 : Int64) (s1 : Int64) (h : am_H) : Sim m_L_law d 2224 [some (.inr (.inr (some (1, 0)))), some (.inr (.inr x1)), some (.inr (.inr x2)), some (.inr (.inr x3)), some (.inl x4), none, none] [.inr (.inl s0), .inr (.inl s1)] h (f_L_law_2224 rc23 (1, 0) x1 x2 x3 x4 s0 s1 h) := by
  unfold f_L_law_2224
  refine sim_lcmp dL_law_2224 ?_
  refine sim_if_eq 2230 dL_law_2225 (by decide) (fun c => ?_) (fun c => ?_)
  · exact sim_lv (am_leS (am_leS (am_leS (am_leS (am_leS (am_leN (am_leN am_leT))))))) (t_L_law_2230 d (by omega) _ hrc23 _ _ _ _ _)
  · refine sim_iconst (0) dL_law_2228 (by decide +kernel) ?_
    exact sim_zret dL_law_2229 rfl
def f_L_law_2190 (rc23 : Nat × Nat → Option (Nat × Nat) → Option (Nat × Nat) → Option (Nat × Nat) → Int32 → am_H → am_R) (_ : Nat × Nat) (x1 : Option (Nat × Nat)) (x2 : Option (Nat × Nat)) (x3 : Option (Nat × Nat)) (x4 : Int32) (x5 : Int32) (s0 : Int32) (s1 : Int32) (s2 : Option (Nat × Nat)) (h : am_H) : am_R := m_ao s2 11 fun a123 => m_bI (f_X11_screen a123 s1 s0 h) fun h121 v122 => m_ao x2 11 fun a126 => m_bI (f_X11_thrown a126 h121) fun h124 v125 => if v125 = x5 then (if x5 = 0 then (m_aL x3 (0 : Int32) h124 fun v127 => if v122 = 0 then (f_L_law_2224 rc23 (1, 0) x1 x2 x3 x4 (0 : Int64) v127 h124) else (f_L_law_2224 rc23 (1, 0) x1 x2 x3 x4 (1 : Int64) v127 h124)) else (f_L_law_2230 rc23 (1, 0) x1 x2 x3 x4 h124)) else (m_rz h124 (0 : Int32))
theorem t_L_law_2190 (d : Nat) (hd : 10 ≤ d) (rc23 : Nat × Nat → Option (Nat × Nat) → Option (Nat × Nat) → Option (Nat × Nat) → Int32 → am_H → am_R) (hrc23 : ∀ x1 x2 x3 x4 h, Sim m_L_law d 23 [some (.inr (.inr (some (1, 0)))), some (.inr (.inr x1)), some (.inr (.inr x2)), some (.inr (.inr x3)), some (.inl x4), none, none] [] h (rc23 (1, 0) x1 x2 x3 x4 h)) (x1 : Option (Nat × Nat)) (x2 : Option (Nat × Nat)) (x3 : Option (Nat × Nat)) (x4 : Int32) (x5 : Int32) (s0 : Int32) (s1 : Int32) (s2 : Option (Nat × Nat)) (h : am_H) : Sim m_L_law d 2190 [some (.inr (.inr (some (1, 0)))), some (.inr (.inr x1)), some (.inr (.inr x2)), some (.inr (.inr x3)), some (.inl x4), some (.inl x5), none] [.inl s0, .inl s1, .inr (.inr s2)] h (f_L_law_2190 rc23 (1, 0) x1 x2 x3 x4 x5 s0 s1 s2 h) := by
  unfold f_L_law_2190
  refine sim_ao2 (fun a123 e => ?_)
  refine sim_virt (d - 1) e dL_law_2190 (k_X11_screen (d - 1) (by omega) _ _ _ _) q_X11_screen rfl rfl wm_RL_247 rfl rfl (by omega) (Nat.le_of_ble_eq_true rfl) am_nI (am_rI fun h121 v122 => ?_) am_eI
  refine sim_istore dL_law_2193 (Nat.le_of_ble_eq_true rfl) ?_
  refine sim_aload_n dL_law_2195 rfl ?_
  refine sim_ao0 (fun a126 e => ?_)
  refine sim_virt (d - 1) e dL_law_2196 (k_X11_thrown (d - 1) (by omega) _  _) q_X11_thrown rfl rfl wm_RL_142 rfl rfl (by omega) (Nat.le_of_ble_eq_true rfl) am_nI (am_rI fun h124 v125 => ?_) am_eI
  refine sim_iload dL_law_2199 rfl ?_
  refine sim_ic_eq 2206 dL_law_2201 (by decide) (fun c => ?_) (fun c => ?_)
  · refine sim_iload dL_law_2206 rfl ?_
    refine sim_if_ne 2230 dL_law_2208 (by decide) (fun c => ?_) (fun c => ?_)
    · exact sim_lv (am_leS (am_leS (am_leS (am_leS (am_leS (am_leN (am_leN am_leT))))))) (t_L_law_2230 d (by omega) _ hrc23 _ _ _ _ _)
    · refine sim_aload_n dL_law_2211 rfl ?_
      refine sim_iconst (0) dL_law_2212 (by decide +kernel) ?_
      refine sim_aL dL_law_2213 (fun v127 => ?_)
      refine sim_iload dL_law_2214 rfl ?_
      refine sim_if_eq 2223 dL_law_2216 (by decide) (fun c => ?_) (fun c => ?_)
      · refine sim_lconst (0) dL_law_2223 (by decide +kernel) ?_
        exact sim_lv (am_leS (am_leS (am_leS (am_leS (am_leS (am_leN (am_leN am_leT))))))) (t_L_law_2224 d (by omega) _ hrc23 _ _ _ _ _ _ _)
      · refine sim_lconst (1) dL_law_2219 (by decide +kernel) ?_
        refine sim_goto 2224 dL_law_2220 (by decide) ?_
        exact sim_lv (am_leS (am_leS (am_leS (am_leS (am_leS (am_leN (am_leN am_leT))))))) (t_L_law_2224 d (by omega) _ hrc23 _ _ _ _ _ _ _)
  · refine sim_iconst (0) dL_law_2204 (by decide +kernel) ?_
    exact sim_zret dL_law_2205 rfl
def f_L_law_2163 (rc23 : Nat × Nat → Option (Nat × Nat) → Option (Nat × Nat) → Option (Nat × Nat) → Int32 → am_H → am_R) (_ : Nat × Nat) (x1 : Option (Nat × Nat)) (x2 : Option (Nat × Nat)) (x3 : Option (Nat × Nat)) (x4 : Int32) (s0 : Int32) (s1 : Int32) (s2 : Option (Nat × Nat)) (h : am_H) : am_R := m_bI (f_L_screen s2 s1 s0 x3 h) fun h117 v118 => m_scr (x4 + (1 : Int32)) h117 fun v119 => m_scr (x4 + (2 : Int32)) h117 fun v120 => if v120 = 0 then (f_L_law_2190 rc23 (1, 0) x1 x2 x3 x4 v118 (0 : Int32) v119 x2 h117) else (f_L_law_2190 rc23 (1, 0) x1 x2 x3 x4 v118 (1 : Int32) v119 x2 h117)
theorem t_L_law_2163 (d : Nat) (hd : 10 ≤ d) (rc23 : Nat × Nat → Option (Nat × Nat) → Option (Nat × Nat) → Option (Nat × Nat) → Int32 → am_H → am_R) (hrc23 : ∀ x1 x2 x3 x4 h, Sim m_L_law d 23 [some (.inr (.inr (some (1, 0)))), some (.inr (.inr x1)), some (.inr (.inr x2)), some (.inr (.inr x3)), some (.inl x4), none, none] [] h (rc23 (1, 0) x1 x2 x3 x4 h)) (x1 : Option (Nat × Nat)) (x2 : Option (Nat × Nat)) (x3 : Option (Nat × Nat)) (x4 : Int32) (s0 : Int32) (s1 : Int32) (s2 : Option (Nat × Nat)) (h : am_H) : Sim m_L_law d 2163 [some (.inr (.inr (some (1, 0)))), some (.inr (.inr x1)), some (.inr (.inr x2)), some (.inr (.inr x3)), some (.inl x4), none, none] [.inl s0, .inl s1, .inr (.inr s2)] h (f_L_law_2163 rc23 (1, 0) x1 x2 x3 x4 s0 s1 s2 h) := by
  unfold f_L_law_2163
  refine sim_aload_n dL_law_2163 rfl ?_
  refine sim_staticX (d - 1) dL_law_2164 (k_L_screen (d - 1) (by omega) _ _ _ _ _) q_L_screen wm_RL_245 rfl rfl (by omega) (Nat.le_of_ble_eq_true rfl) am_nI (am_rI fun h117 v118 => ?_) am_eI
  refine sim_istore dL_law_2167 (Nat.le_of_ble_eq_true rfl) ?_
  refine sim_aload_n dL_law_2169 rfl ?_
  refine sim_aload_n dL_law_2170 rfl ?_
  refine sim_iload dL_law_2171 rfl ?_
  refine sim_iconst (1) dL_law_2173 (by decide +kernel) ?_
  refine sim_iadd dL_law_2174 ?_
  refine sim_scr dL_law_2175 (fun v119 => ?_)
  refine sim_aload_n dL_law_2176 rfl ?_
  refine sim_iload dL_law_2177 rfl ?_
  refine sim_iconst (2) dL_law_2179 (by decide +kernel) ?_
  refine sim_iadd dL_law_2180 ?_
  refine sim_scr dL_law_2181 (fun v120 => ?_)
  refine sim_if_eq 2189 dL_law_2182 (by decide) (fun c => ?_) (fun c => ?_)
  · refine sim_iconst (0) dL_law_2189 (by decide +kernel) ?_
    exact sim_lv (am_leS (am_leS (am_leS (am_leS (am_leS (am_leS (am_leN am_leT))))))) (t_L_law_2190 d (by omega) _ hrc23 _ _ _ _ _ _ _ _ _)
  · refine sim_iconst (1) dL_law_2185 (by decide +kernel) ?_
    refine sim_goto 2190 dL_law_2186 (by decide) ?_
    exact sim_lv (am_leS (am_leS (am_leS (am_leS (am_leS (am_leS (am_leN am_leT))))))) (t_L_law_2190 d (by omega) _ hrc23 _ _ _ _ _ _ _ _ _)
def f_L_law_2142 (rc23 : Nat × Nat → Option (Nat × Nat) → Option (Nat × Nat) → Option (Nat × Nat) → Int32 → am_H → am_R) (_ : Nat × Nat) (x1 : Option (Nat × Nat)) (x2 : Option (Nat × Nat)) (x3 : Option (Nat × Nat)) (x4 : Int32) (h : am_H) : am_R := m_scr (x4 + (1 : Int32)) h fun v115 => m_scr (x4 + (2 : Int32)) h fun v116 => if v116 = 0 then (f_L_law_2163 rc23 (1, 0) x1 x2 x3 x4 (0 : Int32) v115 x1 h) else (f_L_law_2163 rc23 (1, 0) x1 x2 x3 x4 (1 : Int32) v115 x1 h)
theorem t_L_law_2142 (d : Nat) (hd : 10 ≤ d) (rc23 : Nat × Nat → Option (Nat × Nat) → Option (Nat × Nat) → Option (Nat × Nat) → Int32 → am_H → am_R) (hrc23 : ∀ x1 x2 x3 x4 h, Sim m_L_law d 23 [some (.inr (.inr (some (1, 0)))), some (.inr (.inr x1)), some (.inr (.inr x2)), some (.inr (.inr x3)), some (.inl x4), none, none] [] h (rc23 (1, 0) x1 x2 x3 x4 h)) (x1 : Option (Nat × Nat)) (x2 : Option (Nat × Nat)) (x3 : Option (Nat × Nat)) (x4 : Int32) (h : am_H) : Sim m_L_law d 2142 [some (.inr (.inr (some (1, 0)))), some (.inr (.inr x1)), some (.inr (.inr x2)), some (.inr (.inr x3)), some (.inl x4), none, none] [] h (f_L_law_2142 rc23 (1, 0) x1 x2 x3 x4 h) := by
  unfold f_L_law_2142
  refine sim_aload_n dL_law_2142 rfl ?_
  refine sim_aload_n dL_law_2143 rfl ?_
  refine sim_iload dL_law_2144 rfl ?_
  refine sim_iconst (1) dL_law_2146 (by decide +kernel) ?_
  refine sim_iadd dL_law_2147 ?_
  refine sim_scr dL_law_2148 (fun v115 => ?_)
  refine sim_aload_n dL_law_2149 rfl ?_
  refine sim_iload dL_law_2150 rfl ?_
  refine sim_iconst (2) dL_law_2152 (by decide +kernel) ?_
  refine sim_iadd dL_law_2153 ?_
  refine sim_scr dL_law_2154 (fun v116 => ?_)
  refine sim_if_eq 2162 dL_law_2155 (by decide) (fun c => ?_) (fun c => ?_)
  · refine sim_iconst (0) dL_law_2162 (by decide +kernel) ?_
    exact sim_lv (am_leS (am_leS (am_leS (am_leS (am_leS (am_leN (am_leN am_leT))))))) (t_L_law_2163 d (by omega) _ hrc23 _ _ _ _ _ _ _ _)
  · refine sim_iconst (1) dL_law_2158 (by decide +kernel) ?_
    refine sim_goto 2163 dL_law_2159 (by decide) ?_
    exact sim_lv (am_leS (am_leS (am_leS (am_leS (am_leS (am_leN (am_leN am_leT))))))) (t_L_law_2163 d (by omega) _ hrc23 _ _ _ _ _ _ _ _)
def f_L_law_2129 (rc23 : Nat × Nat → Option (Nat × Nat) → Option (Nat × Nat) → Option (Nat × Nat) → Int32 → am_H → am_R) (_ : Nat × Nat) (x1 : Option (Nat × Nat)) (x2 : Option (Nat × Nat)) (x3 : Option (Nat × Nat)) (x4 : Int32) (h : am_H) : am_R := m_ao x1 10 fun a130 => m_bI (f_X10_matches a130 h) fun h128 v129 => m_ao x2 11 fun a133 => m_bI (f_X11_matches a133 h128) fun h131 v132 => if v129 = v132 then (f_L_law_2795 rc23 (1, 0) x1 x2 x3 x4 h131) else (m_rz h131 (0 : Int32))
theorem t_L_law_2129 (d : Nat) (hd : 10 ≤ d) (rc23 : Nat × Nat → Option (Nat × Nat) → Option (Nat × Nat) → Option (Nat × Nat) → Int32 → am_H → am_R) (hrc23 : ∀ x1 x2 x3 x4 h, Sim m_L_law d 23 [some (.inr (.inr (some (1, 0)))), some (.inr (.inr x1)), some (.inr (.inr x2)), some (.inr (.inr x3)), some (.inl x4), none, none] [] h (rc23 (1, 0) x1 x2 x3 x4 h)) (x1 : Option (Nat × Nat)) (x2 : Option (Nat × Nat)) (x3 : Option (Nat × Nat)) (x4 : Int32) (h : am_H) : Sim m_L_law d 2129 [some (.inr (.inr (some (1, 0)))), some (.inr (.inr x1)), some (.inr (.inr x2)), some (.inr (.inr x3)), some (.inl x4), none, none] [] h (f_L_law_2129 rc23 (1, 0) x1 x2 x3 x4 h) := by
  unfold f_L_law_2129
  refine sim_aload_n dL_law_2129 rfl ?_
  refine sim_ao0 (fun a130 e => ?_)
  refine sim_virt (d - 1) e dL_law_2130 (k_X10_matches (d - 1) (by omega) _  _) q_X10_matches rfl rfl wm_RL_241 rfl rfl (by omega) (Nat.le_of_ble_eq_true rfl) am_nI (am_rI fun h128 v129 => ?_) am_eI
  refine sim_aload_n dL_law_2133 rfl ?_
  refine sim_ao0 (fun a133 e => ?_)
  refine sim_virt (d - 1) e dL_law_2134 (k_X11_matches (d - 1) (by omega) _  _) q_X11_matches rfl rfl wm_RL_244 rfl rfl (by omega) (Nat.le_of_ble_eq_true rfl) am_nI (am_rI fun h131 v132 => ?_) am_eI
  refine sim_ic_eq 2795 dL_law_2137 (by decide) (fun c => ?_) (fun c => ?_)
  · exact sim_lv (am_leS (am_leS (am_leS (am_leS (am_leS (am_leN (am_leN am_leT))))))) (t_L_law_2795 d (by omega) _ hrc23 _ _ _ _ _)
  · refine sim_iconst (0) dL_law_2140 (by decide +kernel) ?_
    exact sim_zret dL_law_2141 rfl
def f_L_law_2126 (rc23 : Nat × Nat → Option (Nat × Nat) → Option (Nat × Nat) → Option (Nat × Nat) → Int32 → am_H → am_R) (_ : Nat × Nat) (x1 : Option (Nat × Nat)) (x2 : Option (Nat × Nat)) (x3 : Option (Nat × Nat)) (x4 : Int32) (h : am_H) : am_R := f_L_law_2795 rc23 (1, 0) x1 x2 x3 x4 h
theorem t_L_law_2126 (d : Nat) (hd : 10 ≤ d) (rc23 : Nat × Nat → Option (Nat × Nat) → Option (Nat × Nat) → Option (Nat × Nat) → Int32 → am_H → am_R) (hrc23 : ∀ x1 x2 x3 x4 h, Sim m_L_law d 23 [some (.inr (.inr (some (1, 0)))), some (.inr (.inr x1)), some (.inr (.inr x2)), some (.inr (.inr x3)), some (.inl x4), none, none] [] h (rc23 (1, 0) x1 x2 x3 x4 h)) (x1 : Option (Nat × Nat)) (x2 : Option (Nat × Nat)) (x3 : Option (Nat × Nat)) (x4 : Int32) (h : am_H) : Sim m_L_law d 2126 [some (.inr (.inr (some (1, 0)))), some (.inr (.inr x1)), some (.inr (.inr x2)), some (.inr (.inr x3)), some (.inl x4), none, none] [] h (f_L_law_2126 rc23 (1, 0) x1 x2 x3 x4 h) := by
  unfold f_L_law_2126
  refine sim_goto 2795 dL_law_2126 (by decide) ?_
  exact sim_lv (am_leS (am_leS (am_leS (am_leS (am_leS (am_leN (am_leN am_leT))))))) (t_L_law_2795 d (by omega) _ hrc23 _ _ _ _ _)
def f_L_law_2073 (rc23 : Nat × Nat → Option (Nat × Nat) → Option (Nat × Nat) → Option (Nat × Nat) → Int32 → am_H → am_R) (_ : Nat × Nat) (x1 : Option (Nat × Nat)) (x2 : Option (Nat × Nat)) (x3 : Option (Nat × Nat)) (x4 : Int32) (h : am_H) : am_R := m_scr (x4 + (1 : Int32)) h fun v134 => m_bI (f_L_match x1 v134 x3 h) fun h135 v136 => m_scr (x4 + (1 : Int32)) h135 fun v137 => m_ao x2 11 fun a140 => m_bI (f_X11_match a140 v137 h135) fun h138 v139 => m_ao x2 11 fun a143 => m_bI (f_X11_thrown a143 h138) fun h141 v142 => if v142 = v136 then (if v136 = 0 then (m_aL x3 (0 : Int32) h141 fun v144 => if (lg_cmp v144 (Int32.toInt64 v139)) = 0 then (f_L_law_2126 rc23 (1, 0) x1 x2 x3 x4 h141) else (m_rz h141 (0 : Int32))) else (f_L_law_2126 rc23 (1, 0) x1 x2 x3 x4 h141)) else (m_rz h141 (0 : Int32))
theorem t_L_law_2073 (d : Nat) (hd : 10 ≤ d) (rc23 : Nat × Nat → Option (Nat × Nat) → Option (Nat × Nat) → Option (Nat × Nat) → Int32 → am_H → am_R) (hrc23 : ∀ x1 x2 x3 x4 h, Sim m_L_law d 23 [some (.inr (.inr (some (1, 0)))), some (.inr (.inr x1)), some (.inr (.inr x2)), some (.inr (.inr x3)), some (.inl x4), none, none] [] h (rc23 (1, 0) x1 x2 x3 x4 h)) (x1 : Option (Nat × Nat)) (x2 : Option (Nat × Nat)) (x3 : Option (Nat × Nat)) (x4 : Int32) (h : am_H) : Sim m_L_law d 2073 [some (.inr (.inr (some (1, 0)))), some (.inr (.inr x1)), some (.inr (.inr x2)), some (.inr (.inr x3)), some (.inl x4), none, none] [] h (f_L_law_2073 rc23 (1, 0) x1 x2 x3 x4 h) := by
  unfold f_L_law_2073
  refine sim_aload_n dL_law_2073 rfl ?_
  refine sim_aload_n dL_law_2074 rfl ?_
  refine sim_iload dL_law_2075 rfl ?_
  refine sim_iconst (1) dL_law_2077 (by decide +kernel) ?_
  refine sim_iadd dL_law_2078 ?_
  refine sim_scr dL_law_2079 (fun v134 => ?_)
  refine sim_aload_n dL_law_2080 rfl ?_
  refine sim_staticX (d - 1) dL_law_2081 (k_L_match (d - 1) (by omega) _ _ _ _) q_L_match wm_RL_238 rfl rfl (by omega) (Nat.le_of_ble_eq_true rfl) am_nI (am_rI fun h135 v136 => ?_) am_eI
  refine sim_istore dL_law_2084 (Nat.le_of_ble_eq_true rfl) ?_
  refine sim_aload_n dL_law_2086 rfl ?_
  refine sim_aload_n dL_law_2087 rfl ?_
  refine sim_iload dL_law_2088 rfl ?_
  refine sim_iconst (1) dL_law_2090 (by decide +kernel) ?_
  refine sim_iadd dL_law_2091 ?_
  refine sim_scr dL_law_2092 (fun v137 => ?_)
  refine sim_ao1 (fun a140 e => ?_)
  refine sim_virt (d - 1) e dL_law_2093 (k_X11_match (d - 1) (by omega) _ _ _) q_X11_match rfl rfl wm_RL_240 rfl rfl (by omega) (Nat.le_of_ble_eq_true rfl) am_nI (am_rI fun h138 v139 => ?_) am_eI
  refine sim_istore dL_law_2096 (Nat.le_of_ble_eq_true rfl) ?_
  refine sim_aload_n dL_law_2098 rfl ?_
  refine sim_ao0 (fun a143 e => ?_)
  refine sim_virt (d - 1) e dL_law_2099 (k_X11_thrown (d - 1) (by omega) _  _) q_X11_thrown rfl rfl wm_RL_142 rfl rfl (by omega) (Nat.le_of_ble_eq_true rfl) am_nI (am_rI fun h141 v142 => ?_) am_eI
  refine sim_iload dL_law_2102 rfl ?_
  refine sim_ic_eq 2109 dL_law_2104 (by decide) (fun c => ?_) (fun c => ?_)
  · refine sim_iload dL_law_2109 rfl ?_
    refine sim_if_ne 2126 dL_law_2111 (by decide) (fun c => ?_) (fun c => ?_)
    · exact sim_lv (am_leS (am_leS (am_leS (am_leS (am_leS (am_leN (am_leN am_leT))))))) (t_L_law_2126 d (by omega) _ hrc23 _ _ _ _ _)
    · refine sim_aload_n dL_law_2114 rfl ?_
      refine sim_iconst (0) dL_law_2115 (by decide +kernel) ?_
      refine sim_aL dL_law_2116 (fun v144 => ?_)
      refine sim_iload dL_law_2117 rfl ?_
      refine sim_i2l dL_law_2119 ?_
      refine sim_lcmp dL_law_2120 ?_
      refine sim_if_eq 2126 dL_law_2121 (by decide) (fun c => ?_) (fun c => ?_)
      · exact sim_lv (am_leS (am_leS (am_leS (am_leS (am_leS (am_leN (am_leN am_leT))))))) (t_L_law_2126 d (by omega) _ hrc23 _ _ _ _ _)
      · refine sim_iconst (0) dL_law_2124 (by decide +kernel) ?_
        exact sim_zret dL_law_2125 rfl
  · refine sim_iconst (0) dL_law_2107 (by decide +kernel) ?_
    exact sim_zret dL_law_2108 rfl
def f_L_law_2070 (rc23 : Nat × Nat → Option (Nat × Nat) → Option (Nat × Nat) → Option (Nat × Nat) → Int32 → am_H → am_R) (_ : Nat × Nat) (x1 : Option (Nat × Nat)) (x2 : Option (Nat × Nat)) (x3 : Option (Nat × Nat)) (x4 : Int32) (h : am_H) : am_R := f_L_law_2795 rc23 (1, 0) x1 x2 x3 x4 h
theorem t_L_law_2070 (d : Nat) (hd : 10 ≤ d) (rc23 : Nat × Nat → Option (Nat × Nat) → Option (Nat × Nat) → Option (Nat × Nat) → Int32 → am_H → am_R) (hrc23 : ∀ x1 x2 x3 x4 h, Sim m_L_law d 23 [some (.inr (.inr (some (1, 0)))), some (.inr (.inr x1)), some (.inr (.inr x2)), some (.inr (.inr x3)), some (.inl x4), none, none] [] h (rc23 (1, 0) x1 x2 x3 x4 h)) (x1 : Option (Nat × Nat)) (x2 : Option (Nat × Nat)) (x3 : Option (Nat × Nat)) (x4 : Int32) (h : am_H) : Sim m_L_law d 2070 [some (.inr (.inr (some (1, 0)))), some (.inr (.inr x1)), some (.inr (.inr x2)), some (.inr (.inr x3)), some (.inl x4), none, none] [] h (f_L_law_2070 rc23 (1, 0) x1 x2 x3 x4 h) := by
  unfold f_L_law_2070
  refine sim_goto 2795 dL_law_2070 (by decide) ?_
  exact sim_lv (am_leS (am_leS (am_leS (am_leS (am_leS (am_leN (am_leN am_leT))))))) (t_L_law_2795 d (by omega) _ hrc23 _ _ _ _ _)
def f_L_law_1981 (rc23 : Nat × Nat → Option (Nat × Nat) → Option (Nat × Nat) → Option (Nat × Nat) → Int32 → am_H → am_R) (_ : Nat × Nat) (x1 : Option (Nat × Nat)) (x2 : Option (Nat × Nat)) (x3 : Option (Nat × Nat)) (x4 : Int32) (h : am_H) : am_R := m_scr (x4 + (1 : Int32)) h fun v145 => m_scr (x4 + (2 : Int32)) h fun v146 => m_scr (x4 + (3 : Int32)) h fun v147 => m_scr (x4 + (4 : Int32)) h fun v148 => m_bI (f_L_sign x1 v145 v146 v147 v148 x3 h) fun h149 v150 => m_scr (x4 + (1 : Int32)) h149 fun v151 => m_scr (x4 + (2 : Int32)) h149 fun v152 => m_scr (x4 + (3 : Int32)) h149 fun v153 => m_scr (x4 + (4 : Int32)) h149 fun v154 => m_ao x2 11 fun a157 => m_bI (f_X11_sign a157 v151 v152 v153 v154 h149) fun h155 v156 => m_ao x2 11 fun a160 => m_bI (f_X11_thrown a160 h155) fun h158 v159 => if v159 = v150 then (if v150 = 0 then (m_aL x3 (0 : Int32) h158 fun v161 => if (lg_cmp v161 (Int32.toInt64 v156)) = 0 then (f_L_law_2070 rc23 (1, 0) x1 x2 x3 x4 h158) else (m_rz h158 (0 : Int32))) else (f_L_law_2070 rc23 (1, 0) x1 x2 x3 x4 h158)) else (m_rz h158 (0 : Int32))
theorem t_L_law_1981 (d : Nat) (hd : 10 ≤ d) (rc23 : Nat × Nat → Option (Nat × Nat) → Option (Nat × Nat) → Option (Nat × Nat) → Int32 → am_H → am_R) (hrc23 : ∀ x1 x2 x3 x4 h, Sim m_L_law d 23 [some (.inr (.inr (some (1, 0)))), some (.inr (.inr x1)), some (.inr (.inr x2)), some (.inr (.inr x3)), some (.inl x4), none, none] [] h (rc23 (1, 0) x1 x2 x3 x4 h)) (x1 : Option (Nat × Nat)) (x2 : Option (Nat × Nat)) (x3 : Option (Nat × Nat)) (x4 : Int32) (h : am_H) : Sim m_L_law d 1981 [some (.inr (.inr (some (1, 0)))), some (.inr (.inr x1)), some (.inr (.inr x2)), some (.inr (.inr x3)), some (.inl x4), none, none] [] h (f_L_law_1981 rc23 (1, 0) x1 x2 x3 x4 h) := by
  unfold f_L_law_1981
  refine sim_aload_n dL_law_1981 rfl ?_
  refine sim_aload_n dL_law_1982 rfl ?_
  refine sim_iload dL_law_1983 rfl ?_
  refine sim_iconst (1) dL_law_1985 (by decide +kernel) ?_
  refine sim_iadd dL_law_1986 ?_
  refine sim_scr dL_law_1987 (fun v145 => ?_)
  refine sim_aload_n dL_law_1988 rfl ?_
  refine sim_iload dL_law_1989 rfl ?_
  refine sim_iconst (2) dL_law_1991 (by decide +kernel) ?_
  refine sim_iadd dL_law_1992 ?_
  refine sim_scr dL_law_1993 (fun v146 => ?_)
  refine sim_aload_n dL_law_1994 rfl ?_
  refine sim_iload dL_law_1995 rfl ?_
  refine sim_iconst (3) dL_law_1997 (by decide +kernel) ?_
  refine sim_iadd dL_law_1998 ?_
  refine sim_scr dL_law_1999 (fun v147 => ?_)
  refine sim_aload_n dL_law_2000 rfl ?_
  refine sim_iload dL_law_2001 rfl ?_
  refine sim_iconst (4) dL_law_2003 (by decide +kernel) ?_
  refine sim_iadd dL_law_2004 ?_
  refine sim_scr dL_law_2005 (fun v148 => ?_)
  refine sim_aload_n dL_law_2006 rfl ?_
  refine sim_staticX (d - 1) dL_law_2007 (k_L_sign (d - 1) (by omega) _ _ _ _ _ _ _) q_L_sign wm_RL_234 rfl rfl (by omega) (Nat.le_of_ble_eq_true rfl) am_nI (am_rI fun h149 v150 => ?_) am_eI
  refine sim_istore dL_law_2010 (Nat.le_of_ble_eq_true rfl) ?_
  refine sim_aload_n dL_law_2012 rfl ?_
  refine sim_aload_n dL_law_2013 rfl ?_
  refine sim_iload dL_law_2014 rfl ?_
  refine sim_iconst (1) dL_law_2016 (by decide +kernel) ?_
  refine sim_iadd dL_law_2017 ?_
  refine sim_scr dL_law_2018 (fun v151 => ?_)
  refine sim_aload_n dL_law_2019 rfl ?_
  refine sim_iload dL_law_2020 rfl ?_
  refine sim_iconst (2) dL_law_2022 (by decide +kernel) ?_
  refine sim_iadd dL_law_2023 ?_
  refine sim_scr dL_law_2024 (fun v152 => ?_)
  refine sim_aload_n dL_law_2025 rfl ?_
  refine sim_iload dL_law_2026 rfl ?_
  refine sim_iconst (3) dL_law_2028 (by decide +kernel) ?_
  refine sim_iadd dL_law_2029 ?_
  refine sim_scr dL_law_2030 (fun v153 => ?_)
  refine sim_aload_n dL_law_2031 rfl ?_
  refine sim_iload dL_law_2032 rfl ?_
  refine sim_iconst (4) dL_law_2034 (by decide +kernel) ?_
  refine sim_iadd dL_law_2035 ?_
  refine sim_scr dL_law_2036 (fun v154 => ?_)
  refine sim_ao4 (fun a157 e => ?_)
  refine sim_virt (d - 1) e dL_law_2037 (k_X11_sign (d - 1) (by omega) _ _ _ _ _ _) q_X11_sign rfl rfl wm_RL_237 rfl rfl (by omega) (Nat.le_of_ble_eq_true rfl) am_nI (am_rI fun h155 v156 => ?_) am_eI
  refine sim_istore dL_law_2040 (Nat.le_of_ble_eq_true rfl) ?_
  refine sim_aload_n dL_law_2042 rfl ?_
  refine sim_ao0 (fun a160 e => ?_)
  refine sim_virt (d - 1) e dL_law_2043 (k_X11_thrown (d - 1) (by omega) _  _) q_X11_thrown rfl rfl wm_RL_142 rfl rfl (by omega) (Nat.le_of_ble_eq_true rfl) am_nI (am_rI fun h158 v159 => ?_) am_eI
  refine sim_iload dL_law_2046 rfl ?_
  refine sim_ic_eq 2053 dL_law_2048 (by decide) (fun c => ?_) (fun c => ?_)
  · refine sim_iload dL_law_2053 rfl ?_
    refine sim_if_ne 2070 dL_law_2055 (by decide) (fun c => ?_) (fun c => ?_)
    · exact sim_lv (am_leS (am_leS (am_leS (am_leS (am_leS (am_leN (am_leN am_leT))))))) (t_L_law_2070 d (by omega) _ hrc23 _ _ _ _ _)
    · refine sim_aload_n dL_law_2058 rfl ?_
      refine sim_iconst (0) dL_law_2059 (by decide +kernel) ?_
      refine sim_aL dL_law_2060 (fun v161 => ?_)
      refine sim_iload dL_law_2061 rfl ?_
      refine sim_i2l dL_law_2063 ?_
      refine sim_lcmp dL_law_2064 ?_
      refine sim_if_eq 2070 dL_law_2065 (by decide) (fun c => ?_) (fun c => ?_)
      · exact sim_lv (am_leS (am_leS (am_leS (am_leS (am_leS (am_leN (am_leN am_leT))))))) (t_L_law_2070 d (by omega) _ hrc23 _ _ _ _ _)
      · refine sim_iconst (0) dL_law_2068 (by decide +kernel) ?_
        exact sim_zret dL_law_2069 rfl
  · refine sim_iconst (0) dL_law_2051 (by decide +kernel) ?_
    exact sim_zret dL_law_2052 rfl
def f_L_law_1978 (rc23 : Nat × Nat → Option (Nat × Nat) → Option (Nat × Nat) → Option (Nat × Nat) → Int32 → am_H → am_R) (_ : Nat × Nat) (x1 : Option (Nat × Nat)) (x2 : Option (Nat × Nat)) (x3 : Option (Nat × Nat)) (x4 : Int32) (h : am_H) : am_R := f_L_law_2795 rc23 (1, 0) x1 x2 x3 x4 h
theorem t_L_law_1978 (d : Nat) (hd : 10 ≤ d) (rc23 : Nat × Nat → Option (Nat × Nat) → Option (Nat × Nat) → Option (Nat × Nat) → Int32 → am_H → am_R) (hrc23 : ∀ x1 x2 x3 x4 h, Sim m_L_law d 23 [some (.inr (.inr (some (1, 0)))), some (.inr (.inr x1)), some (.inr (.inr x2)), some (.inr (.inr x3)), some (.inl x4), none, none] [] h (rc23 (1, 0) x1 x2 x3 x4 h)) (x1 : Option (Nat × Nat)) (x2 : Option (Nat × Nat)) (x3 : Option (Nat × Nat)) (x4 : Int32) (h : am_H) : Sim m_L_law d 1978 [some (.inr (.inr (some (1, 0)))), some (.inr (.inr x1)), some (.inr (.inr x2)), some (.inr (.inr x3)), some (.inl x4), none, none] [] h (f_L_law_1978 rc23 (1, 0) x1 x2 x3 x4 h) := by
  unfold f_L_law_1978
  refine sim_goto 2795 dL_law_1978 (by decide) ?_
  exact sim_lv (am_leS (am_leS (am_leS (am_leS (am_leS (am_leN (am_leN am_leT))))))) (t_L_law_2795 d (by omega) _ hrc23 _ _ _ _ _)
def f_L_law_1913 (rc23 : Nat × Nat → Option (Nat × Nat) → Option (Nat × Nat) → Option (Nat × Nat) → Int32 → am_H → am_R) (_ : Nat × Nat) (x1 : Option (Nat × Nat)) (x2 : Option (Nat × Nat)) (x3 : Option (Nat × Nat)) (x4 : Int32) (h : am_H) : am_R := m_scr (x4 + (1 : Int32)) h fun v162 => m_scr (x4 + (2 : Int32)) h fun v163 => m_bI (f_L_result x1 v162 v163 x3 h) fun h164 v165 => m_scr (x4 + (1 : Int32)) h164 fun v166 => m_scr (x4 + (2 : Int32)) h164 fun v167 => m_ao x2 11 fun a170 => m_bI (f_X11_result a170 v166 v167 h164) fun h168 v169 => m_ao x2 11 fun a173 => m_bI (f_X11_thrown a173 h168) fun h171 v172 => if v172 = v165 then (if v165 = 0 then (m_aL x3 (0 : Int32) h171 fun v174 => if (lg_cmp v174 (Int32.toInt64 v169)) = 0 then (f_L_law_1978 rc23 (1, 0) x1 x2 x3 x4 h171) else (m_rz h171 (0 : Int32))) else (f_L_law_1978 rc23 (1, 0) x1 x2 x3 x4 h171)) else (m_rz h171 (0 : Int32))
theorem t_L_law_1913 (d : Nat) (hd : 10 ≤ d) (rc23 : Nat × Nat → Option (Nat × Nat) → Option (Nat × Nat) → Option (Nat × Nat) → Int32 → am_H → am_R) (hrc23 : ∀ x1 x2 x3 x4 h, Sim m_L_law d 23 [some (.inr (.inr (some (1, 0)))), some (.inr (.inr x1)), some (.inr (.inr x2)), some (.inr (.inr x3)), some (.inl x4), none, none] [] h (rc23 (1, 0) x1 x2 x3 x4 h)) (x1 : Option (Nat × Nat)) (x2 : Option (Nat × Nat)) (x3 : Option (Nat × Nat)) (x4 : Int32) (h : am_H) : Sim m_L_law d 1913 [some (.inr (.inr (some (1, 0)))), some (.inr (.inr x1)), some (.inr (.inr x2)), some (.inr (.inr x3)), some (.inl x4), none, none] [] h (f_L_law_1913 rc23 (1, 0) x1 x2 x3 x4 h) := by
  unfold f_L_law_1913
  refine sim_aload_n dL_law_1913 rfl ?_
  refine sim_aload_n dL_law_1914 rfl ?_
  refine sim_iload dL_law_1915 rfl ?_
  refine sim_iconst (1) dL_law_1917 (by decide +kernel) ?_
  refine sim_iadd dL_law_1918 ?_
  refine sim_scr dL_law_1919 (fun v162 => ?_)
  refine sim_aload_n dL_law_1920 rfl ?_
  refine sim_iload dL_law_1921 rfl ?_
  refine sim_iconst (2) dL_law_1923 (by decide +kernel) ?_
  refine sim_iadd dL_law_1924 ?_
  refine sim_scr dL_law_1925 (fun v163 => ?_)
  refine sim_aload_n dL_law_1926 rfl ?_
  refine sim_staticX (d - 1) dL_law_1927 (k_L_result (d - 1) (by omega) _ _ _ _ _) q_L_result wm_RL_231 rfl rfl (by omega) (Nat.le_of_ble_eq_true rfl) am_nI (am_rI fun h164 v165 => ?_) am_eI
  refine sim_istore dL_law_1930 (Nat.le_of_ble_eq_true rfl) ?_
  refine sim_aload_n dL_law_1932 rfl ?_
  refine sim_aload_n dL_law_1933 rfl ?_
  refine sim_iload dL_law_1934 rfl ?_
  refine sim_iconst (1) dL_law_1936 (by decide +kernel) ?_
  refine sim_iadd dL_law_1937 ?_
  refine sim_scr dL_law_1938 (fun v166 => ?_)
  refine sim_aload_n dL_law_1939 rfl ?_
  refine sim_iload dL_law_1940 rfl ?_
  refine sim_iconst (2) dL_law_1942 (by decide +kernel) ?_
  refine sim_iadd dL_law_1943 ?_
  refine sim_scr dL_law_1944 (fun v167 => ?_)
  refine sim_ao2 (fun a170 e => ?_)
  refine sim_virt (d - 1) e dL_law_1945 (k_X11_result (d - 1) (by omega) _ _ _ _) q_X11_result rfl rfl wm_RL_233 rfl rfl (by omega) (Nat.le_of_ble_eq_true rfl) am_nI (am_rI fun h168 v169 => ?_) am_eI
  refine sim_istore dL_law_1948 (Nat.le_of_ble_eq_true rfl) ?_
  refine sim_aload_n dL_law_1950 rfl ?_
  refine sim_ao0 (fun a173 e => ?_)
  refine sim_virt (d - 1) e dL_law_1951 (k_X11_thrown (d - 1) (by omega) _  _) q_X11_thrown rfl rfl wm_RL_142 rfl rfl (by omega) (Nat.le_of_ble_eq_true rfl) am_nI (am_rI fun h171 v172 => ?_) am_eI
  refine sim_iload dL_law_1954 rfl ?_
  refine sim_ic_eq 1961 dL_law_1956 (by decide) (fun c => ?_) (fun c => ?_)
  · refine sim_iload dL_law_1961 rfl ?_
    refine sim_if_ne 1978 dL_law_1963 (by decide) (fun c => ?_) (fun c => ?_)
    · exact sim_lv (am_leS (am_leS (am_leS (am_leS (am_leS (am_leN (am_leN am_leT))))))) (t_L_law_1978 d (by omega) _ hrc23 _ _ _ _ _)
    · refine sim_aload_n dL_law_1966 rfl ?_
      refine sim_iconst (0) dL_law_1967 (by decide +kernel) ?_
      refine sim_aL dL_law_1968 (fun v174 => ?_)
      refine sim_iload dL_law_1969 rfl ?_
      refine sim_i2l dL_law_1971 ?_
      refine sim_lcmp dL_law_1972 ?_
      refine sim_if_eq 1978 dL_law_1973 (by decide) (fun c => ?_) (fun c => ?_)
      · exact sim_lv (am_leS (am_leS (am_leS (am_leS (am_leS (am_leN (am_leN am_leT))))))) (t_L_law_1978 d (by omega) _ hrc23 _ _ _ _ _)
      · refine sim_iconst (0) dL_law_1976 (by decide +kernel) ?_
        exact sim_zret dL_law_1977 rfl
  · refine sim_iconst (0) dL_law_1959 (by decide +kernel) ?_
    exact sim_zret dL_law_1960 rfl
def f_L_law_1910 (rc23 : Nat × Nat → Option (Nat × Nat) → Option (Nat × Nat) → Option (Nat × Nat) → Int32 → am_H → am_R) (_ : Nat × Nat) (x1 : Option (Nat × Nat)) (x2 : Option (Nat × Nat)) (x3 : Option (Nat × Nat)) (x4 : Int32) (h : am_H) : am_R := f_L_law_2795 rc23 (1, 0) x1 x2 x3 x4 h
theorem t_L_law_1910 (d : Nat) (hd : 10 ≤ d) (rc23 : Nat × Nat → Option (Nat × Nat) → Option (Nat × Nat) → Option (Nat × Nat) → Int32 → am_H → am_R) (hrc23 : ∀ x1 x2 x3 x4 h, Sim m_L_law d 23 [some (.inr (.inr (some (1, 0)))), some (.inr (.inr x1)), some (.inr (.inr x2)), some (.inr (.inr x3)), some (.inl x4), none, none] [] h (rc23 (1, 0) x1 x2 x3 x4 h)) (x1 : Option (Nat × Nat)) (x2 : Option (Nat × Nat)) (x3 : Option (Nat × Nat)) (x4 : Int32) (h : am_H) : Sim m_L_law d 1910 [some (.inr (.inr (some (1, 0)))), some (.inr (.inr x1)), some (.inr (.inr x2)), some (.inr (.inr x3)), some (.inl x4), none, none] [] h (f_L_law_1910 rc23 (1, 0) x1 x2 x3 x4 h) := by
  unfold f_L_law_1910
  refine sim_goto 2795 dL_law_1910 (by decide) ?_
  exact sim_lv (am_leS (am_leS (am_leS (am_leS (am_leS (am_leN (am_leN am_leT))))))) (t_L_law_2795 d (by omega) _ hrc23 _ _ _ _ _)
def f_L_law_1877 (rc23 : Nat × Nat → Option (Nat × Nat) → Option (Nat × Nat) → Option (Nat × Nat) → Int32 → am_H → am_R) (_ : Nat × Nat) (x1 : Option (Nat × Nat)) (x2 : Option (Nat × Nat)) (x3 : Option (Nat × Nat)) (x4 : Int32) (x5 : Int32) (s0 : Int32) (s1 : Int32) (s2 : Option (Nat × Nat)) (h : am_H) : am_R := m_ao s2 11 fun a183 => m_bI (f_X11_search a183 s1 s0 h) fun h181 v182 => m_ao x2 11 fun a186 => m_bI (f_X11_thrown a186 h181) fun h184 v185 => if v185 = x5 then (if x5 = 0 then (m_aL x3 (0 : Int32) h184 fun v187 => if (lg_cmp v187 (Int32.toInt64 v182)) = 0 then (f_L_law_1910 rc23 (1, 0) x1 x2 x3 x4 h184) else (m_rz h184 (0 : Int32))) else (f_L_law_1910 rc23 (1, 0) x1 x2 x3 x4 h184)) else (m_rz h184 (0 : Int32))
theorem t_L_law_1877 (d : Nat) (hd : 10 ≤ d) (rc23 : Nat × Nat → Option (Nat × Nat) → Option (Nat × Nat) → Option (Nat × Nat) → Int32 → am_H → am_R) (hrc23 : ∀ x1 x2 x3 x4 h, Sim m_L_law d 23 [some (.inr (.inr (some (1, 0)))), some (.inr (.inr x1)), some (.inr (.inr x2)), some (.inr (.inr x3)), some (.inl x4), none, none] [] h (rc23 (1, 0) x1 x2 x3 x4 h)) (x1 : Option (Nat × Nat)) (x2 : Option (Nat × Nat)) (x3 : Option (Nat × Nat)) (x4 : Int32) (x5 : Int32) (s0 : Int32) (s1 : Int32) (s2 : Option (Nat × Nat)) (h : am_H) : Sim m_L_law d 1877 [some (.inr (.inr (some (1, 0)))), some (.inr (.inr x1)), some (.inr (.inr x2)), some (.inr (.inr x3)), some (.inl x4), some (.inl x5), none] [.inl s0, .inl s1, .inr (.inr s2)] h (f_L_law_1877 rc23 (1, 0) x1 x2 x3 x4 x5 s0 s1 s2 h) := by
  unfold f_L_law_1877
  refine sim_ao2 (fun a183 e => ?_)
  refine sim_virt (d - 1) e dL_law_1877 (k_X11_search (d - 1) (by omega) _ _ _ _) q_X11_search rfl rfl wm_RL_230 rfl rfl (by omega) (Nat.le_of_ble_eq_true rfl) am_nI (am_rI fun h181 v182 => ?_) am_eI
  refine sim_istore dL_law_1880 (Nat.le_of_ble_eq_true rfl) ?_
  refine sim_aload_n dL_law_1882 rfl ?_
  refine sim_ao0 (fun a186 e => ?_)
  refine sim_virt (d - 1) e dL_law_1883 (k_X11_thrown (d - 1) (by omega) _  _) q_X11_thrown rfl rfl wm_RL_142 rfl rfl (by omega) (Nat.le_of_ble_eq_true rfl) am_nI (am_rI fun h184 v185 => ?_) am_eI
  refine sim_iload dL_law_1886 rfl ?_
  refine sim_ic_eq 1893 dL_law_1888 (by decide) (fun c => ?_) (fun c => ?_)
  · refine sim_iload dL_law_1893 rfl ?_
    refine sim_if_ne 1910 dL_law_1895 (by decide) (fun c => ?_) (fun c => ?_)
    · exact sim_lv (am_leS (am_leS (am_leS (am_leS (am_leS (am_leN (am_leN am_leT))))))) (t_L_law_1910 d (by omega) _ hrc23 _ _ _ _ _)
    · refine sim_aload_n dL_law_1898 rfl ?_
      refine sim_iconst (0) dL_law_1899 (by decide +kernel) ?_
      refine sim_aL dL_law_1900 (fun v187 => ?_)
      refine sim_iload dL_law_1901 rfl ?_
      refine sim_i2l dL_law_1903 ?_
      refine sim_lcmp dL_law_1904 ?_
      refine sim_if_eq 1910 dL_law_1905 (by decide) (fun c => ?_) (fun c => ?_)
      · exact sim_lv (am_leS (am_leS (am_leS (am_leS (am_leS (am_leN (am_leN am_leT))))))) (t_L_law_1910 d (by omega) _ hrc23 _ _ _ _ _)
      · refine sim_iconst (0) dL_law_1908 (by decide +kernel) ?_
        exact sim_zret dL_law_1909 rfl
  · refine sim_iconst (0) dL_law_1891 (by decide +kernel) ?_
    exact sim_zret dL_law_1892 rfl
def f_L_law_1850 (rc23 : Nat × Nat → Option (Nat × Nat) → Option (Nat × Nat) → Option (Nat × Nat) → Int32 → am_H → am_R) (_ : Nat × Nat) (x1 : Option (Nat × Nat)) (x2 : Option (Nat × Nat)) (x3 : Option (Nat × Nat)) (x4 : Int32) (s0 : Int32) (s1 : Int32) (s2 : Option (Nat × Nat)) (h : am_H) : am_R := m_bI (f_L_search s2 s1 s0 x3 h) fun h177 v178 => m_scr (x4 + (1 : Int32)) h177 fun v179 => m_scr (x4 + (2 : Int32)) h177 fun v180 => if v180 = 0 then (f_L_law_1877 rc23 (1, 0) x1 x2 x3 x4 v178 (0 : Int32) v179 x2 h177) else (f_L_law_1877 rc23 (1, 0) x1 x2 x3 x4 v178 (1 : Int32) v179 x2 h177)
theorem t_L_law_1850 (d : Nat) (hd : 10 ≤ d) (rc23 : Nat × Nat → Option (Nat × Nat) → Option (Nat × Nat) → Option (Nat × Nat) → Int32 → am_H → am_R) (hrc23 : ∀ x1 x2 x3 x4 h, Sim m_L_law d 23 [some (.inr (.inr (some (1, 0)))), some (.inr (.inr x1)), some (.inr (.inr x2)), some (.inr (.inr x3)), some (.inl x4), none, none] [] h (rc23 (1, 0) x1 x2 x3 x4 h)) (x1 : Option (Nat × Nat)) (x2 : Option (Nat × Nat)) (x3 : Option (Nat × Nat)) (x4 : Int32) (s0 : Int32) (s1 : Int32) (s2 : Option (Nat × Nat)) (h : am_H) : Sim m_L_law d 1850 [some (.inr (.inr (some (1, 0)))), some (.inr (.inr x1)), some (.inr (.inr x2)), some (.inr (.inr x3)), some (.inl x4), none, none] [.inl s0, .inl s1, .inr (.inr s2)] h (f_L_law_1850 rc23 (1, 0) x1 x2 x3 x4 s0 s1 s2 h) := by
  unfold f_L_law_1850
  refine sim_aload_n dL_law_1850 rfl ?_
  refine sim_staticX (d - 1) dL_law_1851 (k_L_search (d - 1) (by omega) _ _ _ _ _) q_L_search wm_RL_228 rfl rfl (by omega) (Nat.le_of_ble_eq_true rfl) am_nI (am_rI fun h177 v178 => ?_) am_eI
  refine sim_istore dL_law_1854 (Nat.le_of_ble_eq_true rfl) ?_
  refine sim_aload_n dL_law_1856 rfl ?_
  refine sim_aload_n dL_law_1857 rfl ?_
  refine sim_iload dL_law_1858 rfl ?_
  refine sim_iconst (1) dL_law_1860 (by decide +kernel) ?_
  refine sim_iadd dL_law_1861 ?_
  refine sim_scr dL_law_1862 (fun v179 => ?_)
  refine sim_aload_n dL_law_1863 rfl ?_
  refine sim_iload dL_law_1864 rfl ?_
  refine sim_iconst (2) dL_law_1866 (by decide +kernel) ?_
  refine sim_iadd dL_law_1867 ?_
  refine sim_scr dL_law_1868 (fun v180 => ?_)
  refine sim_if_eq 1876 dL_law_1869 (by decide) (fun c => ?_) (fun c => ?_)
  · refine sim_iconst (0) dL_law_1876 (by decide +kernel) ?_
    exact sim_lv (am_leS (am_leS (am_leS (am_leS (am_leS (am_leS (am_leN am_leT))))))) (t_L_law_1877 d (by omega) _ hrc23 _ _ _ _ _ _ _ _ _)
  · refine sim_iconst (1) dL_law_1872 (by decide +kernel) ?_
    refine sim_goto 1877 dL_law_1873 (by decide) ?_
    exact sim_lv (am_leS (am_leS (am_leS (am_leS (am_leS (am_leS (am_leN am_leT))))))) (t_L_law_1877 d (by omega) _ hrc23 _ _ _ _ _ _ _ _ _)
def f_L_law_1829 (rc23 : Nat × Nat → Option (Nat × Nat) → Option (Nat × Nat) → Option (Nat × Nat) → Int32 → am_H → am_R) (_ : Nat × Nat) (x1 : Option (Nat × Nat)) (x2 : Option (Nat × Nat)) (x3 : Option (Nat × Nat)) (x4 : Int32) (h : am_H) : am_R := m_scr (x4 + (1 : Int32)) h fun v175 => m_scr (x4 + (2 : Int32)) h fun v176 => if v176 = 0 then (f_L_law_1850 rc23 (1, 0) x1 x2 x3 x4 (0 : Int32) v175 x1 h) else (f_L_law_1850 rc23 (1, 0) x1 x2 x3 x4 (1 : Int32) v175 x1 h)
theorem t_L_law_1829 (d : Nat) (hd : 10 ≤ d) (rc23 : Nat × Nat → Option (Nat × Nat) → Option (Nat × Nat) → Option (Nat × Nat) → Int32 → am_H → am_R) (hrc23 : ∀ x1 x2 x3 x4 h, Sim m_L_law d 23 [some (.inr (.inr (some (1, 0)))), some (.inr (.inr x1)), some (.inr (.inr x2)), some (.inr (.inr x3)), some (.inl x4), none, none] [] h (rc23 (1, 0) x1 x2 x3 x4 h)) (x1 : Option (Nat × Nat)) (x2 : Option (Nat × Nat)) (x3 : Option (Nat × Nat)) (x4 : Int32) (h : am_H) : Sim m_L_law d 1829 [some (.inr (.inr (some (1, 0)))), some (.inr (.inr x1)), some (.inr (.inr x2)), some (.inr (.inr x3)), some (.inl x4), none, none] [] h (f_L_law_1829 rc23 (1, 0) x1 x2 x3 x4 h) := by
  unfold f_L_law_1829
  refine sim_aload_n dL_law_1829 rfl ?_
  refine sim_aload_n dL_law_1830 rfl ?_
  refine sim_iload dL_law_1831 rfl ?_
  refine sim_iconst (1) dL_law_1833 (by decide +kernel) ?_
  refine sim_iadd dL_law_1834 ?_
  refine sim_scr dL_law_1835 (fun v175 => ?_)
  refine sim_aload_n dL_law_1836 rfl ?_
  refine sim_iload dL_law_1837 rfl ?_
  refine sim_iconst (2) dL_law_1839 (by decide +kernel) ?_
  refine sim_iadd dL_law_1840 ?_
  refine sim_scr dL_law_1841 (fun v176 => ?_)
  refine sim_if_eq 1849 dL_law_1842 (by decide) (fun c => ?_) (fun c => ?_)
  · refine sim_iconst (0) dL_law_1849 (by decide +kernel) ?_
    exact sim_lv (am_leS (am_leS (am_leS (am_leS (am_leS (am_leN (am_leN am_leT))))))) (t_L_law_1850 d (by omega) _ hrc23 _ _ _ _ _ _ _ _)
  · refine sim_iconst (1) dL_law_1845 (by decide +kernel) ?_
    refine sim_goto 1850 dL_law_1846 (by decide) ?_
    exact sim_lv (am_leS (am_leS (am_leS (am_leS (am_leS (am_leN (am_leN am_leT))))))) (t_L_law_1850 d (by omega) _ hrc23 _ _ _ _ _ _ _ _)
def f_L_law_1816 (rc23 : Nat × Nat → Option (Nat × Nat) → Option (Nat × Nat) → Option (Nat × Nat) → Int32 → am_H → am_R) (_ : Nat × Nat) (x1 : Option (Nat × Nat)) (x2 : Option (Nat × Nat)) (x3 : Option (Nat × Nat)) (x4 : Int32) (h : am_H) : am_R := m_ao x1 10 fun a190 => m_bI (f_X10_fault a190 h) fun h188 v189 => m_ao x2 11 fun a193 => m_bI (f_X11_fault a193 h188) fun h191 v192 => if v189 = v192 then (f_L_law_2795 rc23 (1, 0) x1 x2 x3 x4 h191) else (m_rz h191 (0 : Int32))
theorem t_L_law_1816 (d : Nat) (hd : 10 ≤ d) (rc23 : Nat × Nat → Option (Nat × Nat) → Option (Nat × Nat) → Option (Nat × Nat) → Int32 → am_H → am_R) (hrc23 : ∀ x1 x2 x3 x4 h, Sim m_L_law d 23 [some (.inr (.inr (some (1, 0)))), some (.inr (.inr x1)), some (.inr (.inr x2)), some (.inr (.inr x3)), some (.inl x4), none, none] [] h (rc23 (1, 0) x1 x2 x3 x4 h)) (x1 : Option (Nat × Nat)) (x2 : Option (Nat × Nat)) (x3 : Option (Nat × Nat)) (x4 : Int32) (h : am_H) : Sim m_L_law d 1816 [some (.inr (.inr (some (1, 0)))), some (.inr (.inr x1)), some (.inr (.inr x2)), some (.inr (.inr x3)), some (.inl x4), none, none] [] h (f_L_law_1816 rc23 (1, 0) x1 x2 x3 x4 h) := by
  unfold f_L_law_1816
  refine sim_aload_n dL_law_1816 rfl ?_
  refine sim_ao0 (fun a190 e => ?_)
  refine sim_virt (d - 1) e dL_law_1817 (k_X10_fault (d - 1) (by omega) _  _) q_X10_fault rfl rfl wm_RL_224 rfl rfl (by omega) (Nat.le_of_ble_eq_true rfl) am_nI (am_rI fun h188 v189 => ?_) am_eI
  refine sim_aload_n dL_law_1820 rfl ?_
  refine sim_ao0 (fun a193 e => ?_)
  refine sim_virt (d - 1) e dL_law_1821 (k_X11_fault (d - 1) (by omega) _  _) q_X11_fault rfl rfl wm_RL_227 rfl rfl (by omega) (Nat.le_of_ble_eq_true rfl) am_nI (am_rI fun h191 v192 => ?_) am_eI
  refine sim_ic_eq 2795 dL_law_1824 (by decide) (fun c => ?_) (fun c => ?_)
  · exact sim_lv (am_leS (am_leS (am_leS (am_leS (am_leS (am_leN (am_leN am_leT))))))) (t_L_law_2795 d (by omega) _ hrc23 _ _ _ _ _)
  · refine sim_iconst (0) dL_law_1827 (by decide +kernel) ?_
    exact sim_zret dL_law_1828 rfl
def f_L_law_1803 (rc23 : Nat × Nat → Option (Nat × Nat) → Option (Nat × Nat) → Option (Nat × Nat) → Int32 → am_H → am_R) (_ : Nat × Nat) (x1 : Option (Nat × Nat)) (x2 : Option (Nat × Nat)) (x3 : Option (Nat × Nat)) (x4 : Int32) (h : am_H) : am_R := m_ao x1 10 fun a196 => m_bI (f_X10_wipe a196 h) fun h194 v195 => m_ao x2 11 fun a199 => m_bI (f_X11_wipe a199 h194) fun h197 v198 => if v195 = v198 then (f_L_law_2795 rc23 (1, 0) x1 x2 x3 x4 h197) else (m_rz h197 (0 : Int32))
theorem t_L_law_1803 (d : Nat) (hd : 10 ≤ d) (rc23 : Nat × Nat → Option (Nat × Nat) → Option (Nat × Nat) → Option (Nat × Nat) → Int32 → am_H → am_R) (hrc23 : ∀ x1 x2 x3 x4 h, Sim m_L_law d 23 [some (.inr (.inr (some (1, 0)))), some (.inr (.inr x1)), some (.inr (.inr x2)), some (.inr (.inr x3)), some (.inl x4), none, none] [] h (rc23 (1, 0) x1 x2 x3 x4 h)) (x1 : Option (Nat × Nat)) (x2 : Option (Nat × Nat)) (x3 : Option (Nat × Nat)) (x4 : Int32) (h : am_H) : Sim m_L_law d 1803 [some (.inr (.inr (some (1, 0)))), some (.inr (.inr x1)), some (.inr (.inr x2)), some (.inr (.inr x3)), some (.inl x4), none, none] [] h (f_L_law_1803 rc23 (1, 0) x1 x2 x3 x4 h) := by
  unfold f_L_law_1803
  refine sim_aload_n dL_law_1803 rfl ?_
  refine sim_ao0 (fun a196 e => ?_)
  refine sim_virt (d - 1) e dL_law_1804 (k_X10_wipe (d - 1) (by omega) _  _) q_X10_wipe rfl rfl wm_RL_220 rfl rfl (by omega) (Nat.le_of_ble_eq_true rfl) am_nI (am_rI fun h194 v195 => ?_) am_eI
  refine sim_aload_n dL_law_1807 rfl ?_
  refine sim_ao0 (fun a199 e => ?_)
  refine sim_virt (d - 1) e dL_law_1808 (k_X11_wipe (d - 1) (by omega) _  _) q_X11_wipe rfl rfl wm_RL_223 rfl rfl (by omega) (Nat.le_of_ble_eq_true rfl) am_nI (am_rI fun h197 v198 => ?_) am_eI
  refine sim_ic_eq 2795 dL_law_1811 (by decide) (fun c => ?_) (fun c => ?_)
  · exact sim_lv (am_leS (am_leS (am_leS (am_leS (am_leS (am_leN (am_leN am_leT))))))) (t_L_law_2795 d (by omega) _ hrc23 _ _ _ _ _)
  · refine sim_iconst (0) dL_law_1814 (by decide +kernel) ?_
    exact sim_zret dL_law_1815 rfl
def f_L_law_1800 (rc23 : Nat × Nat → Option (Nat × Nat) → Option (Nat × Nat) → Option (Nat × Nat) → Int32 → am_H → am_R) (_ : Nat × Nat) (x1 : Option (Nat × Nat)) (x2 : Option (Nat × Nat)) (x3 : Option (Nat × Nat)) (x4 : Int32) (h : am_H) : am_R := f_L_law_2795 rc23 (1, 0) x1 x2 x3 x4 h
theorem t_L_law_1800 (d : Nat) (hd : 10 ≤ d) (rc23 : Nat × Nat → Option (Nat × Nat) → Option (Nat × Nat) → Option (Nat × Nat) → Int32 → am_H → am_R) (hrc23 : ∀ x1 x2 x3 x4 h, Sim m_L_law d 23 [some (.inr (.inr (some (1, 0)))), some (.inr (.inr x1)), some (.inr (.inr x2)), some (.inr (.inr x3)), some (.inl x4), none, none] [] h (rc23 (1, 0) x1 x2 x3 x4 h)) (x1 : Option (Nat × Nat)) (x2 : Option (Nat × Nat)) (x3 : Option (Nat × Nat)) (x4 : Int32) (h : am_H) : Sim m_L_law d 1800 [some (.inr (.inr (some (1, 0)))), some (.inr (.inr x1)), some (.inr (.inr x2)), some (.inr (.inr x3)), some (.inl x4), none, none] [] h (f_L_law_1800 rc23 (1, 0) x1 x2 x3 x4 h) := by
  unfold f_L_law_1800
  refine sim_goto 2795 dL_law_1800 (by decide) ?_
  exact sim_lv (am_leS (am_leS (am_leS (am_leS (am_leS (am_leN (am_leN am_leT))))))) (t_L_law_2795 d (by omega) _ hrc23 _ _ _ _ _)
def f_L_law_1703 (rc23 : Nat × Nat → Option (Nat × Nat) → Option (Nat × Nat) → Option (Nat × Nat) → Int32 → am_H → am_R) (_ : Nat × Nat) (x1 : Option (Nat × Nat)) (x2 : Option (Nat × Nat)) (x3 : Option (Nat × Nat)) (x4 : Int32) (h : am_H) : am_R := m_scr (x4 + (1 : Int32)) h fun v200 => m_scr (x4 + (2 : Int32)) h fun v201 => m_scr (x4 + (3 : Int32)) h fun v202 => m_bI (f_L_type x1 (((Int32.toInt64 v200) <<< (((32 : Int32)).toInt64 &&& 63)) ||| ((Int32.toInt64 v201) &&& (4294967295 : Int64))) v202 x3 h) fun h203 v204 => m_scr (x4 + (1 : Int32)) h203 fun v205 => m_scr (x4 + (2 : Int32)) h203 fun v206 => m_scr (x4 + (3 : Int32)) h203 fun v207 => m_ao x2 11 fun a210 => m_bI (f_X11_type a210 (((Int32.toInt64 v205) <<< (((32 : Int32)).toInt64 &&& 63)) ||| ((Int32.toInt64 v206) &&& (4294967295 : Int64))) v207 h203) fun h208 v209 => m_ao x2 11 fun a213 => m_bI (f_X11_thrown a213 h208) fun h211 v212 => if v212 = v204 then (if v204 = 0 then (m_aL x3 (0 : Int32) h211 fun v214 => if (lg_cmp v214 (Int32.toInt64 v209)) = 0 then (f_L_law_1800 rc23 (1, 0) x1 x2 x3 x4 h211) else (m_rz h211 (0 : Int32))) else (f_L_law_1800 rc23 (1, 0) x1 x2 x3 x4 h211)) else (m_rz h211 (0 : Int32))
theorem t_L_law_1703 (d : Nat) (hd : 10 ≤ d) (rc23 : Nat × Nat → Option (Nat × Nat) → Option (Nat × Nat) → Option (Nat × Nat) → Int32 → am_H → am_R) (hrc23 : ∀ x1 x2 x3 x4 h, Sim m_L_law d 23 [some (.inr (.inr (some (1, 0)))), some (.inr (.inr x1)), some (.inr (.inr x2)), some (.inr (.inr x3)), some (.inl x4), none, none] [] h (rc23 (1, 0) x1 x2 x3 x4 h)) (x1 : Option (Nat × Nat)) (x2 : Option (Nat × Nat)) (x3 : Option (Nat × Nat)) (x4 : Int32) (h : am_H) : Sim m_L_law d 1703 [some (.inr (.inr (some (1, 0)))), some (.inr (.inr x1)), some (.inr (.inr x2)), some (.inr (.inr x3)), some (.inl x4), none, none] [] h (f_L_law_1703 rc23 (1, 0) x1 x2 x3 x4 h) := by
  unfold f_L_law_1703
  refine sim_aload_n dL_law_1703 rfl ?_
  refine sim_aload_n dL_law_1704 rfl ?_
  refine sim_iload dL_law_1705 rfl ?_
  refine sim_iconst (1) dL_law_1707 (by decide +kernel) ?_
  refine sim_iadd dL_law_1708 ?_
  refine sim_scr dL_law_1709 (fun v200 => ?_)
  refine sim_i2l dL_law_1710 ?_
  refine sim_bipush (32) dL_law_1711 (by decide +kernel) ?_
  refine sim_lshl dL_law_1713 ?_
  refine sim_aload_n dL_law_1714 rfl ?_
  refine sim_iload dL_law_1715 rfl ?_
  refine sim_iconst (2) dL_law_1717 (by decide +kernel) ?_
  refine sim_iadd dL_law_1718 ?_
  refine sim_scr dL_law_1719 (fun v201 => ?_)
  refine sim_i2l dL_law_1720 ?_
  refine sim_ldc2 (4294967295) dL_law_1721 wl_RL_214 ?_
  refine sim_land dL_law_1724 ?_
  refine sim_lor dL_law_1725 ?_
  refine sim_aload_n dL_law_1726 rfl ?_
  refine sim_iload dL_law_1727 rfl ?_
  refine sim_iconst (3) dL_law_1729 (by decide +kernel) ?_
  refine sim_iadd dL_law_1730 ?_
  refine sim_scr dL_law_1731 (fun v202 => ?_)
  refine sim_aload_n dL_law_1732 rfl ?_
  refine sim_staticX (d - 1) dL_law_1733 (k_L_type (d - 1) (by omega) _ _ _ _ _) q_L_type wm_RL_216 rfl rfl (by omega) (Nat.le_of_ble_eq_true rfl) am_nI (am_rI fun h203 v204 => ?_) am_eI
  refine sim_istore dL_law_1736 (Nat.le_of_ble_eq_true rfl) ?_
  refine sim_aload_n dL_law_1738 rfl ?_
  refine sim_aload_n dL_law_1739 rfl ?_
  refine sim_iload dL_law_1740 rfl ?_
  refine sim_iconst (1) dL_law_1742 (by decide +kernel) ?_
  refine sim_iadd dL_law_1743 ?_
  refine sim_scr dL_law_1744 (fun v205 => ?_)
  refine sim_i2l dL_law_1745 ?_
  refine sim_bipush (32) dL_law_1746 (by decide +kernel) ?_
  refine sim_lshl dL_law_1748 ?_
  refine sim_aload_n dL_law_1749 rfl ?_
  refine sim_iload dL_law_1750 rfl ?_
  refine sim_iconst (2) dL_law_1752 (by decide +kernel) ?_
  refine sim_iadd dL_law_1753 ?_
  refine sim_scr dL_law_1754 (fun v206 => ?_)
  refine sim_i2l dL_law_1755 ?_
  refine sim_ldc2 (4294967295) dL_law_1756 wl_RL_214 ?_
  refine sim_land dL_law_1759 ?_
  refine sim_lor dL_law_1760 ?_
  refine sim_aload_n dL_law_1761 rfl ?_
  refine sim_iload dL_law_1762 rfl ?_
  refine sim_iconst (3) dL_law_1764 (by decide +kernel) ?_
  refine sim_iadd dL_law_1765 ?_
  refine sim_scr dL_law_1766 (fun v207 => ?_)
  refine sim_ao2 (fun a210 e => ?_)
  refine sim_virt (d - 1) e dL_law_1767 (k_X11_type (d - 1) (by omega) _ _ _ _) q_X11_type rfl rfl wm_RL_219 rfl rfl (by omega) (Nat.le_of_ble_eq_true rfl) am_nI (am_rI fun h208 v209 => ?_) am_eI
  refine sim_istore dL_law_1770 (Nat.le_of_ble_eq_true rfl) ?_
  refine sim_aload_n dL_law_1772 rfl ?_
  refine sim_ao0 (fun a213 e => ?_)
  refine sim_virt (d - 1) e dL_law_1773 (k_X11_thrown (d - 1) (by omega) _  _) q_X11_thrown rfl rfl wm_RL_142 rfl rfl (by omega) (Nat.le_of_ble_eq_true rfl) am_nI (am_rI fun h211 v212 => ?_) am_eI
  refine sim_iload dL_law_1776 rfl ?_
  refine sim_ic_eq 1783 dL_law_1778 (by decide) (fun c => ?_) (fun c => ?_)
  · refine sim_iload dL_law_1783 rfl ?_
    refine sim_if_ne 1800 dL_law_1785 (by decide) (fun c => ?_) (fun c => ?_)
    · exact sim_lv (am_leS (am_leS (am_leS (am_leS (am_leS (am_leN (am_leN am_leT))))))) (t_L_law_1800 d (by omega) _ hrc23 _ _ _ _ _)
    · refine sim_aload_n dL_law_1788 rfl ?_
      refine sim_iconst (0) dL_law_1789 (by decide +kernel) ?_
      refine sim_aL dL_law_1790 (fun v214 => ?_)
      refine sim_iload dL_law_1791 rfl ?_
      refine sim_i2l dL_law_1793 ?_
      refine sim_lcmp dL_law_1794 ?_
      refine sim_if_eq 1800 dL_law_1795 (by decide) (fun c => ?_) (fun c => ?_)
      · exact sim_lv (am_leS (am_leS (am_leS (am_leS (am_leS (am_leN (am_leN am_leT))))))) (t_L_law_1800 d (by omega) _ hrc23 _ _ _ _ _)
      · refine sim_iconst (0) dL_law_1798 (by decide +kernel) ?_
        exact sim_zret dL_law_1799 rfl
  · refine sim_iconst (0) dL_law_1781 (by decide +kernel) ?_
    exact sim_zret dL_law_1782 rfl
def f_L_law_1700 (rc23 : Nat × Nat → Option (Nat × Nat) → Option (Nat × Nat) → Option (Nat × Nat) → Int32 → am_H → am_R) (_ : Nat × Nat) (x1 : Option (Nat × Nat)) (x2 : Option (Nat × Nat)) (x3 : Option (Nat × Nat)) (x4 : Int32) (h : am_H) : am_R := f_L_law_2795 rc23 (1, 0) x1 x2 x3 x4 h
theorem t_L_law_1700 (d : Nat) (hd : 10 ≤ d) (rc23 : Nat × Nat → Option (Nat × Nat) → Option (Nat × Nat) → Option (Nat × Nat) → Int32 → am_H → am_R) (hrc23 : ∀ x1 x2 x3 x4 h, Sim m_L_law d 23 [some (.inr (.inr (some (1, 0)))), some (.inr (.inr x1)), some (.inr (.inr x2)), some (.inr (.inr x3)), some (.inl x4), none, none] [] h (rc23 (1, 0) x1 x2 x3 x4 h)) (x1 : Option (Nat × Nat)) (x2 : Option (Nat × Nat)) (x3 : Option (Nat × Nat)) (x4 : Int32) (h : am_H) : Sim m_L_law d 1700 [some (.inr (.inr (some (1, 0)))), some (.inr (.inr x1)), some (.inr (.inr x2)), some (.inr (.inr x3)), some (.inl x4), none, none] [] h (f_L_law_1700 rc23 (1, 0) x1 x2 x3 x4 h) := by
  unfold f_L_law_1700
  refine sim_goto 2795 dL_law_1700 (by decide) ?_
  exact sim_lv (am_leS (am_leS (am_leS (am_leS (am_leS (am_leN (am_leN am_leT))))))) (t_L_law_2795 d (by omega) _ hrc23 _ _ _ _ _)
def f_L_law_1667 (rc23 : Nat × Nat → Option (Nat × Nat) → Option (Nat × Nat) → Option (Nat × Nat) → Int32 → am_H → am_R) (_ : Nat × Nat) (x1 : Option (Nat × Nat)) (x2 : Option (Nat × Nat)) (x3 : Option (Nat × Nat)) (x4 : Int32) (x5 : Int32) (s0 : Int32) (s1 : Int32) (s2 : Option (Nat × Nat)) (h : am_H) : am_R := m_ao s2 11 fun a223 => m_bI (f_X11_under a223 s1 s0 h) fun h221 v222 => m_ao x2 11 fun a226 => m_bI (f_X11_thrown a226 h221) fun h224 v225 => if v225 = x5 then (if x5 = 0 then (m_aL x3 (0 : Int32) h224 fun v227 => if (lg_cmp v227 (Int32.toInt64 v222)) = 0 then (f_L_law_1700 rc23 (1, 0) x1 x2 x3 x4 h224) else (m_rz h224 (0 : Int32))) else (f_L_law_1700 rc23 (1, 0) x1 x2 x3 x4 h224)) else (m_rz h224 (0 : Int32))
theorem t_L_law_1667 (d : Nat) (hd : 10 ≤ d) (rc23 : Nat × Nat → Option (Nat × Nat) → Option (Nat × Nat) → Option (Nat × Nat) → Int32 → am_H → am_R) (hrc23 : ∀ x1 x2 x3 x4 h, Sim m_L_law d 23 [some (.inr (.inr (some (1, 0)))), some (.inr (.inr x1)), some (.inr (.inr x2)), some (.inr (.inr x3)), some (.inl x4), none, none] [] h (rc23 (1, 0) x1 x2 x3 x4 h)) (x1 : Option (Nat × Nat)) (x2 : Option (Nat × Nat)) (x3 : Option (Nat × Nat)) (x4 : Int32) (x5 : Int32) (s0 : Int32) (s1 : Int32) (s2 : Option (Nat × Nat)) (h : am_H) : Sim m_L_law d 1667 [some (.inr (.inr (some (1, 0)))), some (.inr (.inr x1)), some (.inr (.inr x2)), some (.inr (.inr x3)), some (.inl x4), some (.inl x5), none] [.inl s0, .inl s1, .inr (.inr s2)] h (f_L_law_1667 rc23 (1, 0) x1 x2 x3 x4 x5 s0 s1 s2 h) := by
  unfold f_L_law_1667
  refine sim_ao2 (fun a223 e => ?_)
  refine sim_virt (d - 1) e dL_law_1667 (k_X11_under (d - 1) (by omega) _ _ _ _) q_X11_under rfl rfl wm_RL_213 rfl rfl (by omega) (Nat.le_of_ble_eq_true rfl) am_nI (am_rI fun h221 v222 => ?_) am_eI
  refine sim_istore dL_law_1670 (Nat.le_of_ble_eq_true rfl) ?_
  refine sim_aload_n dL_law_1672 rfl ?_
  refine sim_ao0 (fun a226 e => ?_)
  refine sim_virt (d - 1) e dL_law_1673 (k_X11_thrown (d - 1) (by omega) _  _) q_X11_thrown rfl rfl wm_RL_142 rfl rfl (by omega) (Nat.le_of_ble_eq_true rfl) am_nI (am_rI fun h224 v225 => ?_) am_eI
  refine sim_iload dL_law_1676 rfl ?_
  refine sim_ic_eq 1683 dL_law_1678 (by decide) (fun c => ?_) (fun c => ?_)
  · refine sim_iload dL_law_1683 rfl ?_
    refine sim_if_ne 1700 dL_law_1685 (by decide) (fun c => ?_) (fun c => ?_)
    · exact sim_lv (am_leS (am_leS (am_leS (am_leS (am_leS (am_leN (am_leN am_leT))))))) (t_L_law_1700 d (by omega) _ hrc23 _ _ _ _ _)
    · refine sim_aload_n dL_law_1688 rfl ?_
      refine sim_iconst (0) dL_law_1689 (by decide +kernel) ?_
      refine sim_aL dL_law_1690 (fun v227 => ?_)
      refine sim_iload dL_law_1691 rfl ?_
      refine sim_i2l dL_law_1693 ?_
      refine sim_lcmp dL_law_1694 ?_
      refine sim_if_eq 1700 dL_law_1695 (by decide) (fun c => ?_) (fun c => ?_)
      · exact sim_lv (am_leS (am_leS (am_leS (am_leS (am_leS (am_leN (am_leN am_leT))))))) (t_L_law_1700 d (by omega) _ hrc23 _ _ _ _ _)
      · refine sim_iconst (0) dL_law_1698 (by decide +kernel) ?_
        exact sim_zret dL_law_1699 rfl
  · refine sim_iconst (0) dL_law_1681 (by decide +kernel) ?_
    exact sim_zret dL_law_1682 rfl
def f_L_law_1640 (rc23 : Nat × Nat → Option (Nat × Nat) → Option (Nat × Nat) → Option (Nat × Nat) → Int32 → am_H → am_R) (_ : Nat × Nat) (x1 : Option (Nat × Nat)) (x2 : Option (Nat × Nat)) (x3 : Option (Nat × Nat)) (x4 : Int32) (s0 : Int32) (s1 : Int32) (s2 : Option (Nat × Nat)) (h : am_H) : am_R := m_bI (f_L_under s2 s1 s0 x3 h) fun h217 v218 => m_scr (x4 + (1 : Int32)) h217 fun v219 => m_scr (x4 + (2 : Int32)) h217 fun v220 => if v220 = 0 then (f_L_law_1667 rc23 (1, 0) x1 x2 x3 x4 v218 (0 : Int32) v219 x2 h217) else (f_L_law_1667 rc23 (1, 0) x1 x2 x3 x4 v218 (1 : Int32) v219 x2 h217)
theorem t_L_law_1640 (d : Nat) (hd : 10 ≤ d) (rc23 : Nat × Nat → Option (Nat × Nat) → Option (Nat × Nat) → Option (Nat × Nat) → Int32 → am_H → am_R) (hrc23 : ∀ x1 x2 x3 x4 h, Sim m_L_law d 23 [some (.inr (.inr (some (1, 0)))), some (.inr (.inr x1)), some (.inr (.inr x2)), some (.inr (.inr x3)), some (.inl x4), none, none] [] h (rc23 (1, 0) x1 x2 x3 x4 h)) (x1 : Option (Nat × Nat)) (x2 : Option (Nat × Nat)) (x3 : Option (Nat × Nat)) (x4 : Int32) (s0 : Int32) (s1 : Int32) (s2 : Option (Nat × Nat)) (h : am_H) : Sim m_L_law d 1640 [some (.inr (.inr (some (1, 0)))), some (.inr (.inr x1)), some (.inr (.inr x2)), some (.inr (.inr x3)), some (.inl x4), none, none] [.inl s0, .inl s1, .inr (.inr s2)] h (f_L_law_1640 rc23 (1, 0) x1 x2 x3 x4 s0 s1 s2 h) := by
  unfold f_L_law_1640
  refine sim_aload_n dL_law_1640 rfl ?_
  refine sim_staticX (d - 1) dL_law_1641 (k_L_under (d - 1) (by omega) _ _ _ _ _) q_L_under wm_RL_211 rfl rfl (by omega) (Nat.le_of_ble_eq_true rfl) am_nI (am_rI fun h217 v218 => ?_) am_eI
  refine sim_istore dL_law_1644 (Nat.le_of_ble_eq_true rfl) ?_
  refine sim_aload_n dL_law_1646 rfl ?_
  refine sim_aload_n dL_law_1647 rfl ?_
  refine sim_iload dL_law_1648 rfl ?_
  refine sim_iconst (1) dL_law_1650 (by decide +kernel) ?_
  refine sim_iadd dL_law_1651 ?_
  refine sim_scr dL_law_1652 (fun v219 => ?_)
  refine sim_aload_n dL_law_1653 rfl ?_
  refine sim_iload dL_law_1654 rfl ?_
  refine sim_iconst (2) dL_law_1656 (by decide +kernel) ?_
  refine sim_iadd dL_law_1657 ?_
  refine sim_scr dL_law_1658 (fun v220 => ?_)
  refine sim_if_eq 1666 dL_law_1659 (by decide) (fun c => ?_) (fun c => ?_)
  · refine sim_iconst (0) dL_law_1666 (by decide +kernel) ?_
    exact sim_lv (am_leS (am_leS (am_leS (am_leS (am_leS (am_leS (am_leN am_leT))))))) (t_L_law_1667 d (by omega) _ hrc23 _ _ _ _ _ _ _ _ _)
  · refine sim_iconst (1) dL_law_1662 (by decide +kernel) ?_
    refine sim_goto 1667 dL_law_1663 (by decide) ?_
    exact sim_lv (am_leS (am_leS (am_leS (am_leS (am_leS (am_leS (am_leN am_leT))))))) (t_L_law_1667 d (by omega) _ hrc23 _ _ _ _ _ _ _ _ _)
def f_L_law_1619 (rc23 : Nat × Nat → Option (Nat × Nat) → Option (Nat × Nat) → Option (Nat × Nat) → Int32 → am_H → am_R) (_ : Nat × Nat) (x1 : Option (Nat × Nat)) (x2 : Option (Nat × Nat)) (x3 : Option (Nat × Nat)) (x4 : Int32) (h : am_H) : am_R := m_scr (x4 + (1 : Int32)) h fun v215 => m_scr (x4 + (2 : Int32)) h fun v216 => if v216 = 0 then (f_L_law_1640 rc23 (1, 0) x1 x2 x3 x4 (0 : Int32) v215 x1 h) else (f_L_law_1640 rc23 (1, 0) x1 x2 x3 x4 (1 : Int32) v215 x1 h)
theorem t_L_law_1619 (d : Nat) (hd : 10 ≤ d) (rc23 : Nat × Nat → Option (Nat × Nat) → Option (Nat × Nat) → Option (Nat × Nat) → Int32 → am_H → am_R) (hrc23 : ∀ x1 x2 x3 x4 h, Sim m_L_law d 23 [some (.inr (.inr (some (1, 0)))), some (.inr (.inr x1)), some (.inr (.inr x2)), some (.inr (.inr x3)), some (.inl x4), none, none] [] h (rc23 (1, 0) x1 x2 x3 x4 h)) (x1 : Option (Nat × Nat)) (x2 : Option (Nat × Nat)) (x3 : Option (Nat × Nat)) (x4 : Int32) (h : am_H) : Sim m_L_law d 1619 [some (.inr (.inr (some (1, 0)))), some (.inr (.inr x1)), some (.inr (.inr x2)), some (.inr (.inr x3)), some (.inl x4), none, none] [] h (f_L_law_1619 rc23 (1, 0) x1 x2 x3 x4 h) := by
  unfold f_L_law_1619
  refine sim_aload_n dL_law_1619 rfl ?_
  refine sim_aload_n dL_law_1620 rfl ?_
  refine sim_iload dL_law_1621 rfl ?_
  refine sim_iconst (1) dL_law_1623 (by decide +kernel) ?_
  refine sim_iadd dL_law_1624 ?_
  refine sim_scr dL_law_1625 (fun v215 => ?_)
  refine sim_aload_n dL_law_1626 rfl ?_
  refine sim_iload dL_law_1627 rfl ?_
  refine sim_iconst (2) dL_law_1629 (by decide +kernel) ?_
  refine sim_iadd dL_law_1630 ?_
  refine sim_scr dL_law_1631 (fun v216 => ?_)
  refine sim_if_eq 1639 dL_law_1632 (by decide) (fun c => ?_) (fun c => ?_)
  · refine sim_iconst (0) dL_law_1639 (by decide +kernel) ?_
    exact sim_lv (am_leS (am_leS (am_leS (am_leS (am_leS (am_leN (am_leN am_leT))))))) (t_L_law_1640 d (by omega) _ hrc23 _ _ _ _ _ _ _ _)
  · refine sim_iconst (1) dL_law_1635 (by decide +kernel) ?_
    refine sim_goto 1640 dL_law_1636 (by decide) ?_
    exact sim_lv (am_leS (am_leS (am_leS (am_leS (am_leS (am_leN (am_leN am_leT))))))) (t_L_law_1640 d (by omega) _ hrc23 _ _ _ _ _ _ _ _)
def f_L_law_1606 (rc23 : Nat × Nat → Option (Nat × Nat) → Option (Nat × Nat) → Option (Nat × Nat) → Int32 → am_H → am_R) (_ : Nat × Nat) (x1 : Option (Nat × Nat)) (x2 : Option (Nat × Nat)) (x3 : Option (Nat × Nat)) (x4 : Int32) (h : am_H) : am_R := m_ao x1 10 fun a230 => m_bI (f_X10_waiting a230 h) fun h228 v229 => m_ao x2 11 fun a233 => m_bI (f_X11_waiting a233 h228) fun h231 v232 => if v229 = v232 then (f_L_law_2795 rc23 (1, 0) x1 x2 x3 x4 h231) else (m_rz h231 (0 : Int32))
theorem t_L_law_1606 (d : Nat) (hd : 10 ≤ d) (rc23 : Nat × Nat → Option (Nat × Nat) → Option (Nat × Nat) → Option (Nat × Nat) → Int32 → am_H → am_R) (hrc23 : ∀ x1 x2 x3 x4 h, Sim m_L_law d 23 [some (.inr (.inr (some (1, 0)))), some (.inr (.inr x1)), some (.inr (.inr x2)), some (.inr (.inr x3)), some (.inl x4), none, none] [] h (rc23 (1, 0) x1 x2 x3 x4 h)) (x1 : Option (Nat × Nat)) (x2 : Option (Nat × Nat)) (x3 : Option (Nat × Nat)) (x4 : Int32) (h : am_H) : Sim m_L_law d 1606 [some (.inr (.inr (some (1, 0)))), some (.inr (.inr x1)), some (.inr (.inr x2)), some (.inr (.inr x3)), some (.inl x4), none, none] [] h (f_L_law_1606 rc23 (1, 0) x1 x2 x3 x4 h) := by
  unfold f_L_law_1606
  refine sim_aload_n dL_law_1606 rfl ?_
  refine sim_ao0 (fun a230 e => ?_)
  refine sim_virt (d - 1) e dL_law_1607 (k_X10_waiting (d - 1) (by omega) _  _) q_X10_waiting rfl rfl wm_RL_207 rfl rfl (by omega) (Nat.le_of_ble_eq_true rfl) am_nI (am_rI fun h228 v229 => ?_) am_eI
  refine sim_aload_n dL_law_1610 rfl ?_
  refine sim_ao0 (fun a233 e => ?_)
  refine sim_virt (d - 1) e dL_law_1611 (k_X11_waiting (d - 1) (by omega) _  _) q_X11_waiting rfl rfl wm_RL_210 rfl rfl (by omega) (Nat.le_of_ble_eq_true rfl) am_nI (am_rI fun h231 v232 => ?_) am_eI
  refine sim_ic_eq 2795 dL_law_1614 (by decide) (fun c => ?_) (fun c => ?_)
  · exact sim_lv (am_leS (am_leS (am_leS (am_leS (am_leS (am_leN (am_leN am_leT))))))) (t_L_law_2795 d (by omega) _ hrc23 _ _ _ _ _)
  · refine sim_iconst (0) dL_law_1617 (by decide +kernel) ?_
    exact sim_zret dL_law_1618 rfl
def f_L_law_1603 (rc23 : Nat × Nat → Option (Nat × Nat) → Option (Nat × Nat) → Option (Nat × Nat) → Int32 → am_H → am_R) (_ : Nat × Nat) (x1 : Option (Nat × Nat)) (x2 : Option (Nat × Nat)) (x3 : Option (Nat × Nat)) (x4 : Int32) (h : am_H) : am_R := f_L_law_2795 rc23 (1, 0) x1 x2 x3 x4 h
theorem t_L_law_1603 (d : Nat) (hd : 10 ≤ d) (rc23 : Nat × Nat → Option (Nat × Nat) → Option (Nat × Nat) → Option (Nat × Nat) → Int32 → am_H → am_R) (hrc23 : ∀ x1 x2 x3 x4 h, Sim m_L_law d 23 [some (.inr (.inr (some (1, 0)))), some (.inr (.inr x1)), some (.inr (.inr x2)), some (.inr (.inr x3)), some (.inl x4), none, none] [] h (rc23 (1, 0) x1 x2 x3 x4 h)) (x1 : Option (Nat × Nat)) (x2 : Option (Nat × Nat)) (x3 : Option (Nat × Nat)) (x4 : Int32) (h : am_H) : Sim m_L_law d 1603 [some (.inr (.inr (some (1, 0)))), some (.inr (.inr x1)), some (.inr (.inr x2)), some (.inr (.inr x3)), some (.inl x4), none, none] [] h (f_L_law_1603 rc23 (1, 0) x1 x2 x3 x4 h) := by
  unfold f_L_law_1603
  refine sim_goto 2795 dL_law_1603 (by decide) ?_
  exact sim_lv (am_leS (am_leS (am_leS (am_leS (am_leS (am_leN (am_leN am_leT))))))) (t_L_law_2795 d (by omega) _ hrc23 _ _ _ _ _)
def f_L_law_1550 (rc23 : Nat × Nat → Option (Nat × Nat) → Option (Nat × Nat) → Option (Nat × Nat) → Int32 → am_H → am_R) (_ : Nat × Nat) (x1 : Option (Nat × Nat)) (x2 : Option (Nat × Nat)) (x3 : Option (Nat × Nat)) (x4 : Int32) (h : am_H) : am_R := m_scr (x4 + (1 : Int32)) h fun v234 => m_bI (f_L_wave x1 v234 x3 h) fun h235 v236 => m_scr (x4 + (1 : Int32)) h235 fun v237 => m_ao x2 11 fun a240 => m_bI (f_X11_wave a240 v237 h235) fun h238 v239 => m_ao x2 11 fun a243 => m_bI (f_X11_thrown a243 h238) fun h241 v242 => if v242 = v236 then (if v236 = 0 then (m_aL x3 (0 : Int32) h241 fun v244 => if (lg_cmp v244 (Int32.toInt64 v239)) = 0 then (f_L_law_1603 rc23 (1, 0) x1 x2 x3 x4 h241) else (m_rz h241 (0 : Int32))) else (f_L_law_1603 rc23 (1, 0) x1 x2 x3 x4 h241)) else (m_rz h241 (0 : Int32))
theorem t_L_law_1550 (d : Nat) (hd : 10 ≤ d) (rc23 : Nat × Nat → Option (Nat × Nat) → Option (Nat × Nat) → Option (Nat × Nat) → Int32 → am_H → am_R) (hrc23 : ∀ x1 x2 x3 x4 h, Sim m_L_law d 23 [some (.inr (.inr (some (1, 0)))), some (.inr (.inr x1)), some (.inr (.inr x2)), some (.inr (.inr x3)), some (.inl x4), none, none] [] h (rc23 (1, 0) x1 x2 x3 x4 h)) (x1 : Option (Nat × Nat)) (x2 : Option (Nat × Nat)) (x3 : Option (Nat × Nat)) (x4 : Int32) (h : am_H) : Sim m_L_law d 1550 [some (.inr (.inr (some (1, 0)))), some (.inr (.inr x1)), some (.inr (.inr x2)), some (.inr (.inr x3)), some (.inl x4), none, none] [] h (f_L_law_1550 rc23 (1, 0) x1 x2 x3 x4 h) := by
  unfold f_L_law_1550
  refine sim_aload_n dL_law_1550 rfl ?_
  refine sim_aload_n dL_law_1551 rfl ?_
  refine sim_iload dL_law_1552 rfl ?_
  refine sim_iconst (1) dL_law_1554 (by decide +kernel) ?_
  refine sim_iadd dL_law_1555 ?_
  refine sim_scr dL_law_1556 (fun v234 => ?_)
  refine sim_aload_n dL_law_1557 rfl ?_
  refine sim_staticX (d - 1) dL_law_1558 (k_L_wave (d - 1) (by omega) _ _ _ _) q_L_wave wm_RL_204 rfl rfl (by omega) (Nat.le_of_ble_eq_true rfl) am_nI (am_rI fun h235 v236 => ?_) am_eI
  refine sim_istore dL_law_1561 (Nat.le_of_ble_eq_true rfl) ?_
  refine sim_aload_n dL_law_1563 rfl ?_
  refine sim_aload_n dL_law_1564 rfl ?_
  refine sim_iload dL_law_1565 rfl ?_
  refine sim_iconst (1) dL_law_1567 (by decide +kernel) ?_
  refine sim_iadd dL_law_1568 ?_
  refine sim_scr dL_law_1569 (fun v237 => ?_)
  refine sim_ao1 (fun a240 e => ?_)
  refine sim_virt (d - 1) e dL_law_1570 (k_X11_wave (d - 1) (by omega) _ _ _) q_X11_wave rfl rfl wm_RL_206 rfl rfl (by omega) (Nat.le_of_ble_eq_true rfl) am_nI (am_rI fun h238 v239 => ?_) am_eI
  refine sim_istore dL_law_1573 (Nat.le_of_ble_eq_true rfl) ?_
  refine sim_aload_n dL_law_1575 rfl ?_
  refine sim_ao0 (fun a243 e => ?_)
  refine sim_virt (d - 1) e dL_law_1576 (k_X11_thrown (d - 1) (by omega) _  _) q_X11_thrown rfl rfl wm_RL_142 rfl rfl (by omega) (Nat.le_of_ble_eq_true rfl) am_nI (am_rI fun h241 v242 => ?_) am_eI
  refine sim_iload dL_law_1579 rfl ?_
  refine sim_ic_eq 1586 dL_law_1581 (by decide) (fun c => ?_) (fun c => ?_)
  · refine sim_iload dL_law_1586 rfl ?_
    refine sim_if_ne 1603 dL_law_1588 (by decide) (fun c => ?_) (fun c => ?_)
    · exact sim_lv (am_leS (am_leS (am_leS (am_leS (am_leS (am_leN (am_leN am_leT))))))) (t_L_law_1603 d (by omega) _ hrc23 _ _ _ _ _)
    · refine sim_aload_n dL_law_1591 rfl ?_
      refine sim_iconst (0) dL_law_1592 (by decide +kernel) ?_
      refine sim_aL dL_law_1593 (fun v244 => ?_)
      refine sim_iload dL_law_1594 rfl ?_
      refine sim_i2l dL_law_1596 ?_
      refine sim_lcmp dL_law_1597 ?_
      refine sim_if_eq 1603 dL_law_1598 (by decide) (fun c => ?_) (fun c => ?_)
      · exact sim_lv (am_leS (am_leS (am_leS (am_leS (am_leS (am_leN (am_leN am_leT))))))) (t_L_law_1603 d (by omega) _ hrc23 _ _ _ _ _)
      · refine sim_iconst (0) dL_law_1601 (by decide +kernel) ?_
        exact sim_zret dL_law_1602 rfl
  · refine sim_iconst (0) dL_law_1584 (by decide +kernel) ?_
    exact sim_zret dL_law_1585 rfl
def f_L_law_1547 (rc23 : Nat × Nat → Option (Nat × Nat) → Option (Nat × Nat) → Option (Nat × Nat) → Int32 → am_H → am_R) (_ : Nat × Nat) (x1 : Option (Nat × Nat)) (x2 : Option (Nat × Nat)) (x3 : Option (Nat × Nat)) (x4 : Int32) (h : am_H) : am_R := f_L_law_2795 rc23 (1, 0) x1 x2 x3 x4 h
theorem t_L_law_1547 (d : Nat) (hd : 10 ≤ d) (rc23 : Nat × Nat → Option (Nat × Nat) → Option (Nat × Nat) → Option (Nat × Nat) → Int32 → am_H → am_R) (hrc23 : ∀ x1 x2 x3 x4 h, Sim m_L_law d 23 [some (.inr (.inr (some (1, 0)))), some (.inr (.inr x1)), some (.inr (.inr x2)), some (.inr (.inr x3)), some (.inl x4), none, none] [] h (rc23 (1, 0) x1 x2 x3 x4 h)) (x1 : Option (Nat × Nat)) (x2 : Option (Nat × Nat)) (x3 : Option (Nat × Nat)) (x4 : Int32) (h : am_H) : Sim m_L_law d 1547 [some (.inr (.inr (some (1, 0)))), some (.inr (.inr x1)), some (.inr (.inr x2)), some (.inr (.inr x3)), some (.inl x4), none, none] [] h (f_L_law_1547 rc23 (1, 0) x1 x2 x3 x4 h) := by
  unfold f_L_law_1547
  refine sim_goto 2795 dL_law_1547 (by decide) ?_
  exact sim_lv (am_leS (am_leS (am_leS (am_leS (am_leS (am_leN (am_leN am_leT))))))) (t_L_law_2795 d (by omega) _ hrc23 _ _ _ _ _)
def f_L_law_1541 (rc23 : Nat × Nat → Option (Nat × Nat) → Option (Nat × Nat) → Option (Nat × Nat) → Int32 → am_H → am_R) (_ : Nat × Nat) (x1 : Option (Nat × Nat)) (x2 : Option (Nat × Nat)) (x3 : Option (Nat × Nat)) (x4 : Int32) (s0 : Int64) (s1 : Int64) (h : am_H) : am_R := if (lg_cmp s1 s0) = 0 then (f_L_law_1547 rc23 (1, 0) x1 x2 x3 x4 h) else (m_rz h (0 : Int32))
theorem t_L_law_1541 (d : Nat) (hd : 10 ≤ d) (rc23 : Nat × Nat → Option (Nat × Nat) → Option (Nat × Nat) → Option (Nat × Nat) → Int32 → am_H → am_R) (hrc23 : ∀ x1 x2 x3 x4 h, Sim m_L_law d 23 [some (.inr (.inr (some (1, 0)))), some (.inr (.inr x1)), some (.inr (.inr x2)), some (.inr (.inr x3)), some (.inl x4), none, none] [] h (rc23 (1, 0) x1 x2 x3 x4 h)) (x1 : Option (Nat × Nat)) (x2 : Option (Nat × Nat)) (x3 : Option (Nat × Nat)) (x4 : Int32) (s0 : Int64) (s1 : Int64) (h : am_H) : Sim m_L_law d 1541 [some (.inr (.inr (some (1, 0)))), some (.inr (.inr x1)), some (.inr (.inr x2)), some (.inr (.inr x3)), some (.inl x4), none, none] [.inr (.inl s0), .inr (.inl s1)] h (f_L_law_1541 rc23 (1, 0) x1 x2 x3 x4 s0 s1 h) := by
  unfold f_L_law_1541
  refine sim_lcmp dL_law_1541 ?_
  refine sim_if_eq 1547 dL_law_1542 (by decide) (fun c => ?_) (fun c => ?_)
  · exact sim_lv (am_leS (am_leS (am_leS (am_leS (am_leS (am_leN (am_leN am_leT))))))) (t_L_law_1547 d (by omega) _ hrc23 _ _ _ _ _)
  · refine sim_iconst (0) dL_law_1545 (by decide +kernel) ?_
    exact sim_zret dL_law_1546 rfl
def f_L_law_1507 (rc23 : Nat × Nat → Option (Nat × Nat) → Option (Nat × Nat) → Option (Nat × Nat) → Int32 → am_H → am_R) (_ : Nat × Nat) (x1 : Option (Nat × Nat)) (x2 : Option (Nat × Nat)) (x3 : Option (Nat × Nat)) (x4 : Int32) (x5 : Int32) (s0 : Int32) (s1 : Int32) (s2 : Int32) (s3 : Option (Nat × Nat)) (h : am_H) : am_R := m_ao s3 11 fun a255 => m_bI (f_X11_put a255 s2 s1 s0 h) fun h253 v254 => m_ao x2 11 fun a258 => m_bI (f_X11_thrown a258 h253) fun h256 v257 => if v257 = x5 then (if x5 = 0 then (m_aL x3 (0 : Int32) h256 fun v259 => if v254 = 0 then (f_L_law_1541 rc23 (1, 0) x1 x2 x3 x4 (0 : Int64) v259 h256) else (f_L_law_1541 rc23 (1, 0) x1 x2 x3 x4 (1 : Int64) v259 h256)) else (f_L_law_1547 rc23 (1, 0) x1 x2 x3 x4 h256)) else (m_rz h256 (0 : Int32))
theorem t_L_law_1507 (d : Nat) (hd : 10 ≤ d) (rc23 : Nat × Nat → Option (Nat × Nat) → Option (Nat × Nat) → Option (Nat × Nat) → Int32 → am_H → am_R) (hrc23 : ∀ x1 x2 x3 x4 h, Sim m_L_law d 23 [some (.inr (.inr (some (1, 0)))), some (.inr (.inr x1)), some (.inr (.inr x2)), some (.inr (.inr x3)), some (.inl x4), none, none] [] h (rc23 (1, 0) x1 x2 x3 x4 h)) (x1 : Option (Nat × Nat)) (x2 : Option (Nat × Nat)) (x3 : Option (Nat × Nat)) (x4 : Int32) (x5 : Int32) (s0 : Int32) (s1 : Int32) (s2 : Int32) (s3 : Option (Nat × Nat)) (h : am_H) : Sim m_L_law d 1507 [some (.inr (.inr (some (1, 0)))), some (.inr (.inr x1)), some (.inr (.inr x2)), some (.inr (.inr x3)), some (.inl x4), some (.inl x5), none] [.inl s0, .inl s1, .inl s2, .inr (.inr s3)] h (f_L_law_1507 rc23 (1, 0) x1 x2 x3 x4 x5 s0 s1 s2 s3 h) := by
  unfold f_L_law_1507
  refine sim_ao3 (fun a255 e => ?_)
  refine sim_virt (d - 1) e dL_law_1507 (k_X11_put (d - 1) (by omega) _ _ _ _ _) q_X11_put rfl rfl wm_RL_203 rfl rfl (by omega) (Nat.le_of_ble_eq_true rfl) am_nI (am_rI fun h253 v254 => ?_) am_eI
  refine sim_istore dL_law_1510 (Nat.le_of_ble_eq_true rfl) ?_
  refine sim_aload_n dL_law_1512 rfl ?_
  refine sim_ao0 (fun a258 e => ?_)
  refine sim_virt (d - 1) e dL_law_1513 (k_X11_thrown (d - 1) (by omega) _  _) q_X11_thrown rfl rfl wm_RL_142 rfl rfl (by omega) (Nat.le_of_ble_eq_true rfl) am_nI (am_rI fun h256 v257 => ?_) am_eI
  refine sim_iload dL_law_1516 rfl ?_
  refine sim_ic_eq 1523 dL_law_1518 (by decide) (fun c => ?_) (fun c => ?_)
  · refine sim_iload dL_law_1523 rfl ?_
    refine sim_if_ne 1547 dL_law_1525 (by decide) (fun c => ?_) (fun c => ?_)
    · exact sim_lv (am_leS (am_leS (am_leS (am_leS (am_leS (am_leN (am_leN am_leT))))))) (t_L_law_1547 d (by omega) _ hrc23 _ _ _ _ _)
    · refine sim_aload_n dL_law_1528 rfl ?_
      refine sim_iconst (0) dL_law_1529 (by decide +kernel) ?_
      refine sim_aL dL_law_1530 (fun v259 => ?_)
      refine sim_iload dL_law_1531 rfl ?_
      refine sim_if_eq 1540 dL_law_1533 (by decide) (fun c => ?_) (fun c => ?_)
      · refine sim_lconst (0) dL_law_1540 (by decide +kernel) ?_
        exact sim_lv (am_leS (am_leS (am_leS (am_leS (am_leS (am_leN (am_leN am_leT))))))) (t_L_law_1541 d (by omega) _ hrc23 _ _ _ _ _ _ _)
      · refine sim_lconst (1) dL_law_1536 (by decide +kernel) ?_
        refine sim_goto 1541 dL_law_1537 (by decide) ?_
        exact sim_lv (am_leS (am_leS (am_leS (am_leS (am_leS (am_leN (am_leN am_leT))))))) (t_L_law_1541 d (by omega) _ hrc23 _ _ _ _ _ _ _)
  · refine sim_iconst (0) dL_law_1521 (by decide +kernel) ?_
    exact sim_zret dL_law_1522 rfl
def f_L_law_1474 (rc23 : Nat × Nat → Option (Nat × Nat) → Option (Nat × Nat) → Option (Nat × Nat) → Int32 → am_H → am_R) (_ : Nat × Nat) (x1 : Option (Nat × Nat)) (x2 : Option (Nat × Nat)) (x3 : Option (Nat × Nat)) (x4 : Int32) (s0 : Int32) (s1 : Int32) (s2 : Int32) (s3 : Option (Nat × Nat)) (h : am_H) : am_R := m_bI (f_L_put s3 s2 s1 s0 x3 h) fun h248 v249 => m_scr (x4 + (1 : Int32)) h248 fun v250 => m_scr (x4 + (2 : Int32)) h248 fun v251 => m_scr (x4 + (3 : Int32)) h248 fun v252 => if v252 = 0 then (f_L_law_1507 rc23 (1, 0) x1 x2 x3 x4 v249 (0 : Int32) v251 v250 x2 h248) else (f_L_law_1507 rc23 (1, 0) x1 x2 x3 x4 v249 (1 : Int32) v251 v250 x2 h248)
theorem t_L_law_1474 (d : Nat) (hd : 10 ≤ d) (rc23 : Nat × Nat → Option (Nat × Nat) → Option (Nat × Nat) → Option (Nat × Nat) → Int32 → am_H → am_R) (hrc23 : ∀ x1 x2 x3 x4 h, Sim m_L_law d 23 [some (.inr (.inr (some (1, 0)))), some (.inr (.inr x1)), some (.inr (.inr x2)), some (.inr (.inr x3)), some (.inl x4), none, none] [] h (rc23 (1, 0) x1 x2 x3 x4 h)) (x1 : Option (Nat × Nat)) (x2 : Option (Nat × Nat)) (x3 : Option (Nat × Nat)) (x4 : Int32) (s0 : Int32) (s1 : Int32) (s2 : Int32) (s3 : Option (Nat × Nat)) (h : am_H) : Sim m_L_law d 1474 [some (.inr (.inr (some (1, 0)))), some (.inr (.inr x1)), some (.inr (.inr x2)), some (.inr (.inr x3)), some (.inl x4), none, none] [.inl s0, .inl s1, .inl s2, .inr (.inr s3)] h (f_L_law_1474 rc23 (1, 0) x1 x2 x3 x4 s0 s1 s2 s3 h) := by
  unfold f_L_law_1474
  refine sim_aload_n dL_law_1474 rfl ?_
  refine sim_staticX (d - 1) dL_law_1475 (k_L_put (d - 1) (by omega) _ _ _ _ _ _) q_L_put wm_RL_201 rfl rfl (by omega) (Nat.le_of_ble_eq_true rfl) am_nI (am_rI fun h248 v249 => ?_) am_eI
  refine sim_istore dL_law_1478 (Nat.le_of_ble_eq_true rfl) ?_
  refine sim_aload_n dL_law_1480 rfl ?_
  refine sim_aload_n dL_law_1481 rfl ?_
  refine sim_iload dL_law_1482 rfl ?_
  refine sim_iconst (1) dL_law_1484 (by decide +kernel) ?_
  refine sim_iadd dL_law_1485 ?_
  refine sim_scr dL_law_1486 (fun v250 => ?_)
  refine sim_aload_n dL_law_1487 rfl ?_
  refine sim_iload dL_law_1488 rfl ?_
  refine sim_iconst (2) dL_law_1490 (by decide +kernel) ?_
  refine sim_iadd dL_law_1491 ?_
  refine sim_scr dL_law_1492 (fun v251 => ?_)
  refine sim_aload_n dL_law_1493 rfl ?_
  refine sim_iload dL_law_1494 rfl ?_
  refine sim_iconst (3) dL_law_1496 (by decide +kernel) ?_
  refine sim_iadd dL_law_1497 ?_
  refine sim_scr dL_law_1498 (fun v252 => ?_)
  refine sim_if_eq 1506 dL_law_1499 (by decide) (fun c => ?_) (fun c => ?_)
  · refine sim_iconst (0) dL_law_1506 (by decide +kernel) ?_
    exact sim_lv (am_leS (am_leS (am_leS (am_leS (am_leS (am_leS (am_leN am_leT))))))) (t_L_law_1507 d (by omega) _ hrc23 _ _ _ _ _ _ _ _ _ _)
  · refine sim_iconst (1) dL_law_1502 (by decide +kernel) ?_
    refine sim_goto 1507 dL_law_1503 (by decide) ?_
    exact sim_lv (am_leS (am_leS (am_leS (am_leS (am_leS (am_leS (am_leN am_leT))))))) (t_L_law_1507 d (by omega) _ hrc23 _ _ _ _ _ _ _ _ _ _)
def f_L_law_1447 (rc23 : Nat × Nat → Option (Nat × Nat) → Option (Nat × Nat) → Option (Nat × Nat) → Int32 → am_H → am_R) (_ : Nat × Nat) (x1 : Option (Nat × Nat)) (x2 : Option (Nat × Nat)) (x3 : Option (Nat × Nat)) (x4 : Int32) (h : am_H) : am_R := m_scr (x4 + (1 : Int32)) h fun v245 => m_scr (x4 + (2 : Int32)) h fun v246 => m_scr (x4 + (3 : Int32)) h fun v247 => if v247 = 0 then (f_L_law_1474 rc23 (1, 0) x1 x2 x3 x4 (0 : Int32) v246 v245 x1 h) else (f_L_law_1474 rc23 (1, 0) x1 x2 x3 x4 (1 : Int32) v246 v245 x1 h)
theorem t_L_law_1447 (d : Nat) (hd : 10 ≤ d) (rc23 : Nat × Nat → Option (Nat × Nat) → Option (Nat × Nat) → Option (Nat × Nat) → Int32 → am_H → am_R) (hrc23 : ∀ x1 x2 x3 x4 h, Sim m_L_law d 23 [some (.inr (.inr (some (1, 0)))), some (.inr (.inr x1)), some (.inr (.inr x2)), some (.inr (.inr x3)), some (.inl x4), none, none] [] h (rc23 (1, 0) x1 x2 x3 x4 h)) (x1 : Option (Nat × Nat)) (x2 : Option (Nat × Nat)) (x3 : Option (Nat × Nat)) (x4 : Int32) (h : am_H) : Sim m_L_law d 1447 [some (.inr (.inr (some (1, 0)))), some (.inr (.inr x1)), some (.inr (.inr x2)), some (.inr (.inr x3)), some (.inl x4), none, none] [] h (f_L_law_1447 rc23 (1, 0) x1 x2 x3 x4 h) := by
  unfold f_L_law_1447
  refine sim_aload_n dL_law_1447 rfl ?_
  refine sim_aload_n dL_law_1448 rfl ?_
  refine sim_iload dL_law_1449 rfl ?_
  refine sim_iconst (1) dL_law_1451 (by decide +kernel) ?_
  refine sim_iadd dL_law_1452 ?_
  refine sim_scr dL_law_1453 (fun v245 => ?_)
  refine sim_aload_n dL_law_1454 rfl ?_
  refine sim_iload dL_law_1455 rfl ?_
  refine sim_iconst (2) dL_law_1457 (by decide +kernel) ?_
  refine sim_iadd dL_law_1458 ?_
  refine sim_scr dL_law_1459 (fun v246 => ?_)
  refine sim_aload_n dL_law_1460 rfl ?_
  refine sim_iload dL_law_1461 rfl ?_
  refine sim_iconst (3) dL_law_1463 (by decide +kernel) ?_
  refine sim_iadd dL_law_1464 ?_
  refine sim_scr dL_law_1465 (fun v247 => ?_)
  refine sim_if_eq 1473 dL_law_1466 (by decide) (fun c => ?_) (fun c => ?_)
  · refine sim_iconst (0) dL_law_1473 (by decide +kernel) ?_
    exact sim_lv (am_leS (am_leS (am_leS (am_leS (am_leS (am_leN (am_leN am_leT))))))) (t_L_law_1474 d (by omega) _ hrc23 _ _ _ _ _ _ _ _ _)
  · refine sim_iconst (1) dL_law_1469 (by decide +kernel) ?_
    refine sim_goto 1474 dL_law_1470 (by decide) ?_
    exact sim_lv (am_leS (am_leS (am_leS (am_leS (am_leS (am_leN (am_leN am_leT))))))) (t_L_law_1474 d (by omega) _ hrc23 _ _ _ _ _ _ _ _ _)
def f_L_law_1444 (rc23 : Nat × Nat → Option (Nat × Nat) → Option (Nat × Nat) → Option (Nat × Nat) → Int32 → am_H → am_R) (_ : Nat × Nat) (x1 : Option (Nat × Nat)) (x2 : Option (Nat × Nat)) (x3 : Option (Nat × Nat)) (x4 : Int32) (h : am_H) : am_R := f_L_law_2795 rc23 (1, 0) x1 x2 x3 x4 h
theorem t_L_law_1444 (d : Nat) (hd : 10 ≤ d) (rc23 : Nat × Nat → Option (Nat × Nat) → Option (Nat × Nat) → Option (Nat × Nat) → Int32 → am_H → am_R) (hrc23 : ∀ x1 x2 x3 x4 h, Sim m_L_law d 23 [some (.inr (.inr (some (1, 0)))), some (.inr (.inr x1)), some (.inr (.inr x2)), some (.inr (.inr x3)), some (.inl x4), none, none] [] h (rc23 (1, 0) x1 x2 x3 x4 h)) (x1 : Option (Nat × Nat)) (x2 : Option (Nat × Nat)) (x3 : Option (Nat × Nat)) (x4 : Int32) (h : am_H) : Sim m_L_law d 1444 [some (.inr (.inr (some (1, 0)))), some (.inr (.inr x1)), some (.inr (.inr x2)), some (.inr (.inr x3)), some (.inl x4), none, none] [] h (f_L_law_1444 rc23 (1, 0) x1 x2 x3 x4 h) := by
  unfold f_L_law_1444
  refine sim_goto 2795 dL_law_1444 (by decide) ?_
  exact sim_lv (am_leS (am_leS (am_leS (am_leS (am_leS (am_leN (am_leN am_leT))))))) (t_L_law_2795 d (by omega) _ hrc23 _ _ _ _ _)
def f_L_law_1379 (rc23 : Nat × Nat → Option (Nat × Nat) → Option (Nat × Nat) → Option (Nat × Nat) → Int32 → am_H → am_R) (_ : Nat × Nat) (x1 : Option (Nat × Nat)) (x2 : Option (Nat × Nat)) (x3 : Option (Nat × Nat)) (x4 : Int32) (h : am_H) : am_R := m_scr (x4 + (1 : Int32)) h fun v260 => m_scr (x4 + (2 : Int32)) h fun v261 => m_bI (f_L_ofTag x1 v260 v261 x3 h) fun h262 v263 => m_scr (x4 + (1 : Int32)) h262 fun v264 => m_scr (x4 + (2 : Int32)) h262 fun v265 => m_ao x2 11 fun a268 => m_bI (f_X11_ofTag a268 v264 v265 h262) fun h266 v267 => m_ao x2 11 fun a271 => m_bI (f_X11_thrown a271 h266) fun h269 v270 => if v270 = v263 then (if v263 = 0 then (m_aL x3 (0 : Int32) h269 fun v272 => if (lg_cmp v272 (Int32.toInt64 v267)) = 0 then (f_L_law_1444 rc23 (1, 0) x1 x2 x3 x4 h269) else (m_rz h269 (0 : Int32))) else (f_L_law_1444 rc23 (1, 0) x1 x2 x3 x4 h269)) else (m_rz h269 (0 : Int32))
theorem t_L_law_1379 (d : Nat) (hd : 10 ≤ d) (rc23 : Nat × Nat → Option (Nat × Nat) → Option (Nat × Nat) → Option (Nat × Nat) → Int32 → am_H → am_R) (hrc23 : ∀ x1 x2 x3 x4 h, Sim m_L_law d 23 [some (.inr (.inr (some (1, 0)))), some (.inr (.inr x1)), some (.inr (.inr x2)), some (.inr (.inr x3)), some (.inl x4), none, none] [] h (rc23 (1, 0) x1 x2 x3 x4 h)) (x1 : Option (Nat × Nat)) (x2 : Option (Nat × Nat)) (x3 : Option (Nat × Nat)) (x4 : Int32) (h : am_H) : Sim m_L_law d 1379 [some (.inr (.inr (some (1, 0)))), some (.inr (.inr x1)), some (.inr (.inr x2)), some (.inr (.inr x3)), some (.inl x4), none, none] [] h (f_L_law_1379 rc23 (1, 0) x1 x2 x3 x4 h) := by
  unfold f_L_law_1379
  refine sim_aload_n dL_law_1379 rfl ?_
  refine sim_aload_n dL_law_1380 rfl ?_
  refine sim_iload dL_law_1381 rfl ?_
  refine sim_iconst (1) dL_law_1383 (by decide +kernel) ?_
  refine sim_iadd dL_law_1384 ?_
  refine sim_scr dL_law_1385 (fun v260 => ?_)
  refine sim_aload_n dL_law_1386 rfl ?_
  refine sim_iload dL_law_1387 rfl ?_
  refine sim_iconst (2) dL_law_1389 (by decide +kernel) ?_
  refine sim_iadd dL_law_1390 ?_
  refine sim_scr dL_law_1391 (fun v261 => ?_)
  refine sim_aload_n dL_law_1392 rfl ?_
  refine sim_staticX (d - 1) dL_law_1393 (k_L_ofTag (d - 1) (by omega) _ _ _ _ _) q_L_ofTag wm_RL_198 rfl rfl (by omega) (Nat.le_of_ble_eq_true rfl) am_nI (am_rI fun h262 v263 => ?_) am_eI
  refine sim_istore dL_law_1396 (Nat.le_of_ble_eq_true rfl) ?_
  refine sim_aload_n dL_law_1398 rfl ?_
  refine sim_aload_n dL_law_1399 rfl ?_
  refine sim_iload dL_law_1400 rfl ?_
  refine sim_iconst (1) dL_law_1402 (by decide +kernel) ?_
  refine sim_iadd dL_law_1403 ?_
  refine sim_scr dL_law_1404 (fun v264 => ?_)
  refine sim_aload_n dL_law_1405 rfl ?_
  refine sim_iload dL_law_1406 rfl ?_
  refine sim_iconst (2) dL_law_1408 (by decide +kernel) ?_
  refine sim_iadd dL_law_1409 ?_
  refine sim_scr dL_law_1410 (fun v265 => ?_)
  refine sim_ao2 (fun a268 e => ?_)
  refine sim_virt (d - 1) e dL_law_1411 (k_X11_ofTag (d - 1) (by omega) _ _ _ _) q_X11_ofTag rfl rfl wm_RL_200 rfl rfl (by omega) (Nat.le_of_ble_eq_true rfl) am_nI (am_rI fun h266 v267 => ?_) am_eI
  refine sim_istore dL_law_1414 (Nat.le_of_ble_eq_true rfl) ?_
  refine sim_aload_n dL_law_1416 rfl ?_
  refine sim_ao0 (fun a271 e => ?_)
  refine sim_virt (d - 1) e dL_law_1417 (k_X11_thrown (d - 1) (by omega) _  _) q_X11_thrown rfl rfl wm_RL_142 rfl rfl (by omega) (Nat.le_of_ble_eq_true rfl) am_nI (am_rI fun h269 v270 => ?_) am_eI
  refine sim_iload dL_law_1420 rfl ?_
  refine sim_ic_eq 1427 dL_law_1422 (by decide) (fun c => ?_) (fun c => ?_)
  · refine sim_iload dL_law_1427 rfl ?_
    refine sim_if_ne 1444 dL_law_1429 (by decide) (fun c => ?_) (fun c => ?_)
    · exact sim_lv (am_leS (am_leS (am_leS (am_leS (am_leS (am_leN (am_leN am_leT))))))) (t_L_law_1444 d (by omega) _ hrc23 _ _ _ _ _)
    · refine sim_aload_n dL_law_1432 rfl ?_
      refine sim_iconst (0) dL_law_1433 (by decide +kernel) ?_
      refine sim_aL dL_law_1434 (fun v272 => ?_)
      refine sim_iload dL_law_1435 rfl ?_
      refine sim_i2l dL_law_1437 ?_
      refine sim_lcmp dL_law_1438 ?_
      refine sim_if_eq 1444 dL_law_1439 (by decide) (fun c => ?_) (fun c => ?_)
      · exact sim_lv (am_leS (am_leS (am_leS (am_leS (am_leS (am_leN (am_leN am_leT))))))) (t_L_law_1444 d (by omega) _ hrc23 _ _ _ _ _)
      · refine sim_iconst (0) dL_law_1442 (by decide +kernel) ?_
        exact sim_zret dL_law_1443 rfl
  · refine sim_iconst (0) dL_law_1425 (by decide +kernel) ?_
    exact sim_zret dL_law_1426 rfl
def f_L_law_1376 (rc23 : Nat × Nat → Option (Nat × Nat) → Option (Nat × Nat) → Option (Nat × Nat) → Int32 → am_H → am_R) (_ : Nat × Nat) (x1 : Option (Nat × Nat)) (x2 : Option (Nat × Nat)) (x3 : Option (Nat × Nat)) (x4 : Int32) (h : am_H) : am_R := f_L_law_2795 rc23 (1, 0) x1 x2 x3 x4 h
theorem t_L_law_1376 (d : Nat) (hd : 10 ≤ d) (rc23 : Nat × Nat → Option (Nat × Nat) → Option (Nat × Nat) → Option (Nat × Nat) → Int32 → am_H → am_R) (hrc23 : ∀ x1 x2 x3 x4 h, Sim m_L_law d 23 [some (.inr (.inr (some (1, 0)))), some (.inr (.inr x1)), some (.inr (.inr x2)), some (.inr (.inr x3)), some (.inl x4), none, none] [] h (rc23 (1, 0) x1 x2 x3 x4 h)) (x1 : Option (Nat × Nat)) (x2 : Option (Nat × Nat)) (x3 : Option (Nat × Nat)) (x4 : Int32) (h : am_H) : Sim m_L_law d 1376 [some (.inr (.inr (some (1, 0)))), some (.inr (.inr x1)), some (.inr (.inr x2)), some (.inr (.inr x3)), some (.inl x4), none, none] [] h (f_L_law_1376 rc23 (1, 0) x1 x2 x3 x4 h) := by
  unfold f_L_law_1376
  refine sim_goto 2795 dL_law_1376 (by decide) ?_
  exact sim_lv (am_leS (am_leS (am_leS (am_leS (am_leS (am_leN (am_leN am_leT))))))) (t_L_law_2795 d (by omega) _ hrc23 _ _ _ _ _)
def f_L_law_1370 (rc23 : Nat × Nat → Option (Nat × Nat) → Option (Nat × Nat) → Option (Nat × Nat) → Int32 → am_H → am_R) (_ : Nat × Nat) (x1 : Option (Nat × Nat)) (x2 : Option (Nat × Nat)) (x3 : Option (Nat × Nat)) (x4 : Int32) (s0 : Int64) (s1 : Int64) (h : am_H) : am_R := if (lg_cmp s1 s0) = 0 then (f_L_law_1376 rc23 (1, 0) x1 x2 x3 x4 h) else (m_rz h (0 : Int32))
theorem t_L_law_1370 (d : Nat) (hd : 10 ≤ d) (rc23 : Nat × Nat → Option (Nat × Nat) → Option (Nat × Nat) → Option (Nat × Nat) → Int32 → am_H → am_R) (hrc23 : ∀ x1 x2 x3 x4 h, Sim m_L_law d 23 [some (.inr (.inr (some (1, 0)))), some (.inr (.inr x1)), some (.inr (.inr x2)), some (.inr (.inr x3)), some (.inl x4), none, none] [] h (rc23 (1, 0) x1 x2 x3 x4 h)) (x1 : Option (Nat × Nat)) (x2 : Option (Nat × Nat)) (x3 : Option (Nat × Nat)) (x4 : Int32) (s0 : Int64) (s1 : Int64) (h : am_H) : Sim m_L_law d 1370 [some (.inr (.inr (some (1, 0)))), some (.inr (.inr x1)), some (.inr (.inr x2)), some (.inr (.inr x3)), some (.inl x4), none, none] [.inr (.inl s0), .inr (.inl s1)] h (f_L_law_1370 rc23 (1, 0) x1 x2 x3 x4 s0 s1 h) := by
  unfold f_L_law_1370
  refine sim_lcmp dL_law_1370 ?_
  refine sim_if_eq 1376 dL_law_1371 (by decide) (fun c => ?_) (fun c => ?_)
  · exact sim_lv (am_leS (am_leS (am_leS (am_leS (am_leS (am_leN (am_leN am_leT))))))) (t_L_law_1376 d (by omega) _ hrc23 _ _ _ _ _)
  · refine sim_iconst (0) dL_law_1374 (by decide +kernel) ?_
    exact sim_zret dL_law_1375 rfl
def f_L_law_1336 (rc23 : Nat × Nat → Option (Nat × Nat) → Option (Nat × Nat) → Option (Nat × Nat) → Int32 → am_H → am_R) (_ : Nat × Nat) (x1 : Option (Nat × Nat)) (x2 : Option (Nat × Nat)) (x3 : Option (Nat × Nat)) (x4 : Int32) (x5 : Int32) (s0 : Int32) (s1 : Int32) (s2 : Int32) (s3 : Option (Nat × Nat)) (h : am_H) : am_R := m_ao s3 11 fun a283 => m_bI (f_X11_parent a283 s2 s1 s0 h) fun h281 v282 => m_ao x2 11 fun a286 => m_bI (f_X11_thrown a286 h281) fun h284 v285 => if v285 = x5 then (if x5 = 0 then (m_aL x3 (0 : Int32) h284 fun v287 => if v282 = 0 then (f_L_law_1370 rc23 (1, 0) x1 x2 x3 x4 (0 : Int64) v287 h284) else (f_L_law_1370 rc23 (1, 0) x1 x2 x3 x4 (1 : Int64) v287 h284)) else (f_L_law_1376 rc23 (1, 0) x1 x2 x3 x4 h284)) else (m_rz h284 (0 : Int32))
theorem t_L_law_1336 (d : Nat) (hd : 10 ≤ d) (rc23 : Nat × Nat → Option (Nat × Nat) → Option (Nat × Nat) → Option (Nat × Nat) → Int32 → am_H → am_R) (hrc23 : ∀ x1 x2 x3 x4 h, Sim m_L_law d 23 [some (.inr (.inr (some (1, 0)))), some (.inr (.inr x1)), some (.inr (.inr x2)), some (.inr (.inr x3)), some (.inl x4), none, none] [] h (rc23 (1, 0) x1 x2 x3 x4 h)) (x1 : Option (Nat × Nat)) (x2 : Option (Nat × Nat)) (x3 : Option (Nat × Nat)) (x4 : Int32) (x5 : Int32) (s0 : Int32) (s1 : Int32) (s2 : Int32) (s3 : Option (Nat × Nat)) (h : am_H) : Sim m_L_law d 1336 [some (.inr (.inr (some (1, 0)))), some (.inr (.inr x1)), some (.inr (.inr x2)), some (.inr (.inr x3)), some (.inl x4), some (.inl x5), none] [.inl s0, .inl s1, .inl s2, .inr (.inr s3)] h (f_L_law_1336 rc23 (1, 0) x1 x2 x3 x4 x5 s0 s1 s2 s3 h) := by
  unfold f_L_law_1336
  refine sim_ao3 (fun a283 e => ?_)
  refine sim_virt (d - 1) e dL_law_1336 (k_X11_parent (d - 1) (by omega) _ _ _ _ _) q_X11_parent rfl rfl wm_RL_197 rfl rfl (by omega) (Nat.le_of_ble_eq_true rfl) am_nI (am_rI fun h281 v282 => ?_) am_eI
  refine sim_istore dL_law_1339 (Nat.le_of_ble_eq_true rfl) ?_
  refine sim_aload_n dL_law_1341 rfl ?_
  refine sim_ao0 (fun a286 e => ?_)
  refine sim_virt (d - 1) e dL_law_1342 (k_X11_thrown (d - 1) (by omega) _  _) q_X11_thrown rfl rfl wm_RL_142 rfl rfl (by omega) (Nat.le_of_ble_eq_true rfl) am_nI (am_rI fun h284 v285 => ?_) am_eI
  refine sim_iload dL_law_1345 rfl ?_
  refine sim_ic_eq 1352 dL_law_1347 (by decide) (fun c => ?_) (fun c => ?_)
  · refine sim_iload dL_law_1352 rfl ?_
    refine sim_if_ne 1376 dL_law_1354 (by decide) (fun c => ?_) (fun c => ?_)
    · exact sim_lv (am_leS (am_leS (am_leS (am_leS (am_leS (am_leN (am_leN am_leT))))))) (t_L_law_1376 d (by omega) _ hrc23 _ _ _ _ _)
    · refine sim_aload_n dL_law_1357 rfl ?_
      refine sim_iconst (0) dL_law_1358 (by decide +kernel) ?_
      refine sim_aL dL_law_1359 (fun v287 => ?_)
      refine sim_iload dL_law_1360 rfl ?_
      refine sim_if_eq 1369 dL_law_1362 (by decide) (fun c => ?_) (fun c => ?_)
      · refine sim_lconst (0) dL_law_1369 (by decide +kernel) ?_
        exact sim_lv (am_leS (am_leS (am_leS (am_leS (am_leS (am_leN (am_leN am_leT))))))) (t_L_law_1370 d (by omega) _ hrc23 _ _ _ _ _ _ _)
      · refine sim_lconst (1) dL_law_1365 (by decide +kernel) ?_
        refine sim_goto 1370 dL_law_1366 (by decide) ?_
        exact sim_lv (am_leS (am_leS (am_leS (am_leS (am_leS (am_leN (am_leN am_leT))))))) (t_L_law_1370 d (by omega) _ hrc23 _ _ _ _ _ _ _)
  · refine sim_iconst (0) dL_law_1350 (by decide +kernel) ?_
    exact sim_zret dL_law_1351 rfl
def f_L_law_1303 (rc23 : Nat × Nat → Option (Nat × Nat) → Option (Nat × Nat) → Option (Nat × Nat) → Int32 → am_H → am_R) (_ : Nat × Nat) (x1 : Option (Nat × Nat)) (x2 : Option (Nat × Nat)) (x3 : Option (Nat × Nat)) (x4 : Int32) (s0 : Int32) (s1 : Int32) (s2 : Int32) (s3 : Option (Nat × Nat)) (h : am_H) : am_R := m_bI (f_L_parent s3 s2 s1 s0 x3 h) fun h276 v277 => m_scr (x4 + (1 : Int32)) h276 fun v278 => m_scr (x4 + (2 : Int32)) h276 fun v279 => m_scr (x4 + (3 : Int32)) h276 fun v280 => if v280 = 0 then (f_L_law_1336 rc23 (1, 0) x1 x2 x3 x4 v277 (0 : Int32) v279 v278 x2 h276) else (f_L_law_1336 rc23 (1, 0) x1 x2 x3 x4 v277 (1 : Int32) v279 v278 x2 h276)
theorem t_L_law_1303 (d : Nat) (hd : 10 ≤ d) (rc23 : Nat × Nat → Option (Nat × Nat) → Option (Nat × Nat) → Option (Nat × Nat) → Int32 → am_H → am_R) (hrc23 : ∀ x1 x2 x3 x4 h, Sim m_L_law d 23 [some (.inr (.inr (some (1, 0)))), some (.inr (.inr x1)), some (.inr (.inr x2)), some (.inr (.inr x3)), some (.inl x4), none, none] [] h (rc23 (1, 0) x1 x2 x3 x4 h)) (x1 : Option (Nat × Nat)) (x2 : Option (Nat × Nat)) (x3 : Option (Nat × Nat)) (x4 : Int32) (s0 : Int32) (s1 : Int32) (s2 : Int32) (s3 : Option (Nat × Nat)) (h : am_H) : Sim m_L_law d 1303 [some (.inr (.inr (some (1, 0)))), some (.inr (.inr x1)), some (.inr (.inr x2)), some (.inr (.inr x3)), some (.inl x4), none, none] [.inl s0, .inl s1, .inl s2, .inr (.inr s3)] h (f_L_law_1303 rc23 (1, 0) x1 x2 x3 x4 s0 s1 s2 s3 h) := by
  unfold f_L_law_1303
  refine sim_aload_n dL_law_1303 rfl ?_
  refine sim_staticX (d - 1) dL_law_1304 (k_L_parent (d - 1) (by omega) _ _ _ _ _ _) q_L_parent wm_RL_195 rfl rfl (by omega) (Nat.le_of_ble_eq_true rfl) am_nI (am_rI fun h276 v277 => ?_) am_eI
  refine sim_istore dL_law_1307 (Nat.le_of_ble_eq_true rfl) ?_
  refine sim_aload_n dL_law_1309 rfl ?_
  refine sim_aload_n dL_law_1310 rfl ?_
  refine sim_iload dL_law_1311 rfl ?_
  refine sim_iconst (1) dL_law_1313 (by decide +kernel) ?_
  refine sim_iadd dL_law_1314 ?_
  refine sim_scr dL_law_1315 (fun v278 => ?_)
  refine sim_aload_n dL_law_1316 rfl ?_
  refine sim_iload dL_law_1317 rfl ?_
  refine sim_iconst (2) dL_law_1319 (by decide +kernel) ?_
  refine sim_iadd dL_law_1320 ?_
  refine sim_scr dL_law_1321 (fun v279 => ?_)
  refine sim_aload_n dL_law_1322 rfl ?_
  refine sim_iload dL_law_1323 rfl ?_
  refine sim_iconst (3) dL_law_1325 (by decide +kernel) ?_
  refine sim_iadd dL_law_1326 ?_
  refine sim_scr dL_law_1327 (fun v280 => ?_)
  refine sim_if_eq 1335 dL_law_1328 (by decide) (fun c => ?_) (fun c => ?_)
  · refine sim_iconst (0) dL_law_1335 (by decide +kernel) ?_
    exact sim_lv (am_leS (am_leS (am_leS (am_leS (am_leS (am_leS (am_leN am_leT))))))) (t_L_law_1336 d (by omega) _ hrc23 _ _ _ _ _ _ _ _ _ _)
  · refine sim_iconst (1) dL_law_1331 (by decide +kernel) ?_
    refine sim_goto 1336 dL_law_1332 (by decide) ?_
    exact sim_lv (am_leS (am_leS (am_leS (am_leS (am_leS (am_leS (am_leN am_leT))))))) (t_L_law_1336 d (by omega) _ hrc23 _ _ _ _ _ _ _ _ _ _)
def f_L_law_1276 (rc23 : Nat × Nat → Option (Nat × Nat) → Option (Nat × Nat) → Option (Nat × Nat) → Int32 → am_H → am_R) (_ : Nat × Nat) (x1 : Option (Nat × Nat)) (x2 : Option (Nat × Nat)) (x3 : Option (Nat × Nat)) (x4 : Int32) (h : am_H) : am_R := m_scr (x4 + (1 : Int32)) h fun v273 => m_scr (x4 + (2 : Int32)) h fun v274 => m_scr (x4 + (3 : Int32)) h fun v275 => if v275 = 0 then (f_L_law_1303 rc23 (1, 0) x1 x2 x3 x4 (0 : Int32) v274 v273 x1 h) else (f_L_law_1303 rc23 (1, 0) x1 x2 x3 x4 (1 : Int32) v274 v273 x1 h)
theorem t_L_law_1276 (d : Nat) (hd : 10 ≤ d) (rc23 : Nat × Nat → Option (Nat × Nat) → Option (Nat × Nat) → Option (Nat × Nat) → Int32 → am_H → am_R) (hrc23 : ∀ x1 x2 x3 x4 h, Sim m_L_law d 23 [some (.inr (.inr (some (1, 0)))), some (.inr (.inr x1)), some (.inr (.inr x2)), some (.inr (.inr x3)), some (.inl x4), none, none] [] h (rc23 (1, 0) x1 x2 x3 x4 h)) (x1 : Option (Nat × Nat)) (x2 : Option (Nat × Nat)) (x3 : Option (Nat × Nat)) (x4 : Int32) (h : am_H) : Sim m_L_law d 1276 [some (.inr (.inr (some (1, 0)))), some (.inr (.inr x1)), some (.inr (.inr x2)), some (.inr (.inr x3)), some (.inl x4), none, none] [] h (f_L_law_1276 rc23 (1, 0) x1 x2 x3 x4 h) := by
  unfold f_L_law_1276
  refine sim_aload_n dL_law_1276 rfl ?_
  refine sim_aload_n dL_law_1277 rfl ?_
  refine sim_iload dL_law_1278 rfl ?_
  refine sim_iconst (1) dL_law_1280 (by decide +kernel) ?_
  refine sim_iadd dL_law_1281 ?_
  refine sim_scr dL_law_1282 (fun v273 => ?_)
  refine sim_aload_n dL_law_1283 rfl ?_
  refine sim_iload dL_law_1284 rfl ?_
  refine sim_iconst (2) dL_law_1286 (by decide +kernel) ?_
  refine sim_iadd dL_law_1287 ?_
  refine sim_scr dL_law_1288 (fun v274 => ?_)
  refine sim_aload_n dL_law_1289 rfl ?_
  refine sim_iload dL_law_1290 rfl ?_
  refine sim_iconst (3) dL_law_1292 (by decide +kernel) ?_
  refine sim_iadd dL_law_1293 ?_
  refine sim_scr dL_law_1294 (fun v275 => ?_)
  refine sim_if_eq 1302 dL_law_1295 (by decide) (fun c => ?_) (fun c => ?_)
  · refine sim_iconst (0) dL_law_1302 (by decide +kernel) ?_
    exact sim_lv (am_leS (am_leS (am_leS (am_leS (am_leS (am_leN (am_leN am_leT))))))) (t_L_law_1303 d (by omega) _ hrc23 _ _ _ _ _ _ _ _ _)
  · refine sim_iconst (1) dL_law_1298 (by decide +kernel) ?_
    refine sim_goto 1303 dL_law_1299 (by decide) ?_
    exact sim_lv (am_leS (am_leS (am_leS (am_leS (am_leS (am_leN (am_leN am_leT))))))) (t_L_law_1303 d (by omega) _ hrc23 _ _ _ _ _ _ _ _ _)
def f_L_law_1273 (rc23 : Nat × Nat → Option (Nat × Nat) → Option (Nat × Nat) → Option (Nat × Nat) → Int32 → am_H → am_R) (_ : Nat × Nat) (x1 : Option (Nat × Nat)) (x2 : Option (Nat × Nat)) (x3 : Option (Nat × Nat)) (x4 : Int32) (h : am_H) : am_R := f_L_law_2795 rc23 (1, 0) x1 x2 x3 x4 h
theorem t_L_law_1273 (d : Nat) (hd : 10 ≤ d) (rc23 : Nat × Nat → Option (Nat × Nat) → Option (Nat × Nat) → Option (Nat × Nat) → Int32 → am_H → am_R) (hrc23 : ∀ x1 x2 x3 x4 h, Sim m_L_law d 23 [some (.inr (.inr (some (1, 0)))), some (.inr (.inr x1)), some (.inr (.inr x2)), some (.inr (.inr x3)), some (.inl x4), none, none] [] h (rc23 (1, 0) x1 x2 x3 x4 h)) (x1 : Option (Nat × Nat)) (x2 : Option (Nat × Nat)) (x3 : Option (Nat × Nat)) (x4 : Int32) (h : am_H) : Sim m_L_law d 1273 [some (.inr (.inr (some (1, 0)))), some (.inr (.inr x1)), some (.inr (.inr x2)), some (.inr (.inr x3)), some (.inl x4), none, none] [] h (f_L_law_1273 rc23 (1, 0) x1 x2 x3 x4 h) := by
  unfold f_L_law_1273
  refine sim_goto 2795 dL_law_1273 (by decide) ?_
  exact sim_lv (am_leS (am_leS (am_leS (am_leS (am_leS (am_leN (am_leN am_leT))))))) (t_L_law_2795 d (by omega) _ hrc23 _ _ _ _ _)
def f_L_law_1208 (rc23 : Nat × Nat → Option (Nat × Nat) → Option (Nat × Nat) → Option (Nat × Nat) → Int32 → am_H → am_R) (_ : Nat × Nat) (x1 : Option (Nat × Nat)) (x2 : Option (Nat × Nat)) (x3 : Option (Nat × Nat)) (x4 : Int32) (h : am_H) : am_R := m_scr (x4 + (1 : Int32)) h fun v288 => m_scr (x4 + (2 : Int32)) h fun v289 => m_bI (f_L_merge x1 v288 v289 x3 h) fun h290 v291 => m_scr (x4 + (1 : Int32)) h290 fun v292 => m_scr (x4 + (2 : Int32)) h290 fun v293 => m_ao x2 11 fun a296 => m_bI (f_X11_merge a296 v292 v293 h290) fun h294 v295 => m_ao x2 11 fun a299 => m_bI (f_X11_thrown a299 h294) fun h297 v298 => if v298 = v291 then (if v291 = 0 then (m_aL x3 (0 : Int32) h297 fun v300 => if (lg_cmp v300 (Int32.toInt64 v295)) = 0 then (f_L_law_1273 rc23 (1, 0) x1 x2 x3 x4 h297) else (m_rz h297 (0 : Int32))) else (f_L_law_1273 rc23 (1, 0) x1 x2 x3 x4 h297)) else (m_rz h297 (0 : Int32))
theorem t_L_law_1208 (d : Nat) (hd : 10 ≤ d) (rc23 : Nat × Nat → Option (Nat × Nat) → Option (Nat × Nat) → Option (Nat × Nat) → Int32 → am_H → am_R) (hrc23 : ∀ x1 x2 x3 x4 h, Sim m_L_law d 23 [some (.inr (.inr (some (1, 0)))), some (.inr (.inr x1)), some (.inr (.inr x2)), some (.inr (.inr x3)), some (.inl x4), none, none] [] h (rc23 (1, 0) x1 x2 x3 x4 h)) (x1 : Option (Nat × Nat)) (x2 : Option (Nat × Nat)) (x3 : Option (Nat × Nat)) (x4 : Int32) (h : am_H) : Sim m_L_law d 1208 [some (.inr (.inr (some (1, 0)))), some (.inr (.inr x1)), some (.inr (.inr x2)), some (.inr (.inr x3)), some (.inl x4), none, none] [] h (f_L_law_1208 rc23 (1, 0) x1 x2 x3 x4 h) := by
  unfold f_L_law_1208
  refine sim_aload_n dL_law_1208 rfl ?_
  refine sim_aload_n dL_law_1209 rfl ?_
  refine sim_iload dL_law_1210 rfl ?_
  refine sim_iconst (1) dL_law_1212 (by decide +kernel) ?_
  refine sim_iadd dL_law_1213 ?_
  refine sim_scr dL_law_1214 (fun v288 => ?_)
  refine sim_aload_n dL_law_1215 rfl ?_
  refine sim_iload dL_law_1216 rfl ?_
  refine sim_iconst (2) dL_law_1218 (by decide +kernel) ?_
  refine sim_iadd dL_law_1219 ?_
  refine sim_scr dL_law_1220 (fun v289 => ?_)
  refine sim_aload_n dL_law_1221 rfl ?_
  refine sim_staticX (d - 1) dL_law_1222 (k_L_merge (d - 1) (by omega) _ _ _ _ _) q_L_merge wm_RL_192 rfl rfl (by omega) (Nat.le_of_ble_eq_true rfl) am_nI (am_rI fun h290 v291 => ?_) am_eI
  refine sim_istore dL_law_1225 (Nat.le_of_ble_eq_true rfl) ?_
  refine sim_aload_n dL_law_1227 rfl ?_
  refine sim_aload_n dL_law_1228 rfl ?_
  refine sim_iload dL_law_1229 rfl ?_
  refine sim_iconst (1) dL_law_1231 (by decide +kernel) ?_
  refine sim_iadd dL_law_1232 ?_
  refine sim_scr dL_law_1233 (fun v292 => ?_)
  refine sim_aload_n dL_law_1234 rfl ?_
  refine sim_iload dL_law_1235 rfl ?_
  refine sim_iconst (2) dL_law_1237 (by decide +kernel) ?_
  refine sim_iadd dL_law_1238 ?_
  refine sim_scr dL_law_1239 (fun v293 => ?_)
  refine sim_ao2 (fun a296 e => ?_)
  refine sim_virt (d - 1) e dL_law_1240 (k_X11_merge (d - 1) (by omega) _ _ _ _) q_X11_merge rfl rfl wm_RL_194 rfl rfl (by omega) (Nat.le_of_ble_eq_true rfl) am_nI (am_rI fun h294 v295 => ?_) am_eI
  refine sim_istore dL_law_1243 (Nat.le_of_ble_eq_true rfl) ?_
  refine sim_aload_n dL_law_1245 rfl ?_
  refine sim_ao0 (fun a299 e => ?_)
  refine sim_virt (d - 1) e dL_law_1246 (k_X11_thrown (d - 1) (by omega) _  _) q_X11_thrown rfl rfl wm_RL_142 rfl rfl (by omega) (Nat.le_of_ble_eq_true rfl) am_nI (am_rI fun h297 v298 => ?_) am_eI
  refine sim_iload dL_law_1249 rfl ?_
  refine sim_ic_eq 1256 dL_law_1251 (by decide) (fun c => ?_) (fun c => ?_)
  · refine sim_iload dL_law_1256 rfl ?_
    refine sim_if_ne 1273 dL_law_1258 (by decide) (fun c => ?_) (fun c => ?_)
    · exact sim_lv (am_leS (am_leS (am_leS (am_leS (am_leS (am_leN (am_leN am_leT))))))) (t_L_law_1273 d (by omega) _ hrc23 _ _ _ _ _)
    · refine sim_aload_n dL_law_1261 rfl ?_
      refine sim_iconst (0) dL_law_1262 (by decide +kernel) ?_
      refine sim_aL dL_law_1263 (fun v300 => ?_)
      refine sim_iload dL_law_1264 rfl ?_
      refine sim_i2l dL_law_1266 ?_
      refine sim_lcmp dL_law_1267 ?_
      refine sim_if_eq 1273 dL_law_1268 (by decide) (fun c => ?_) (fun c => ?_)
      · exact sim_lv (am_leS (am_leS (am_leS (am_leS (am_leS (am_leN (am_leN am_leT))))))) (t_L_law_1273 d (by omega) _ hrc23 _ _ _ _ _)
      · refine sim_iconst (0) dL_law_1271 (by decide +kernel) ?_
        exact sim_zret dL_law_1272 rfl
  · refine sim_iconst (0) dL_law_1254 (by decide +kernel) ?_
    exact sim_zret dL_law_1255 rfl
def f_L_law_1205 (rc23 : Nat × Nat → Option (Nat × Nat) → Option (Nat × Nat) → Option (Nat × Nat) → Int32 → am_H → am_R) (_ : Nat × Nat) (x1 : Option (Nat × Nat)) (x2 : Option (Nat × Nat)) (x3 : Option (Nat × Nat)) (x4 : Int32) (h : am_H) : am_R := f_L_law_2795 rc23 (1, 0) x1 x2 x3 x4 h
theorem t_L_law_1205 (d : Nat) (hd : 10 ≤ d) (rc23 : Nat × Nat → Option (Nat × Nat) → Option (Nat × Nat) → Option (Nat × Nat) → Int32 → am_H → am_R) (hrc23 : ∀ x1 x2 x3 x4 h, Sim m_L_law d 23 [some (.inr (.inr (some (1, 0)))), some (.inr (.inr x1)), some (.inr (.inr x2)), some (.inr (.inr x3)), some (.inl x4), none, none] [] h (rc23 (1, 0) x1 x2 x3 x4 h)) (x1 : Option (Nat × Nat)) (x2 : Option (Nat × Nat)) (x3 : Option (Nat × Nat)) (x4 : Int32) (h : am_H) : Sim m_L_law d 1205 [some (.inr (.inr (some (1, 0)))), some (.inr (.inr x1)), some (.inr (.inr x2)), some (.inr (.inr x3)), some (.inl x4), none, none] [] h (f_L_law_1205 rc23 (1, 0) x1 x2 x3 x4 h) := by
  unfold f_L_law_1205
  refine sim_goto 2795 dL_law_1205 (by decide) ?_
  exact sim_lv (am_leS (am_leS (am_leS (am_leS (am_leS (am_leN (am_leN am_leT))))))) (t_L_law_2795 d (by omega) _ hrc23 _ _ _ _ _)
def f_L_law_1152 (rc23 : Nat × Nat → Option (Nat × Nat) → Option (Nat × Nat) → Option (Nat × Nat) → Int32 → am_H → am_R) (_ : Nat × Nat) (x1 : Option (Nat × Nat)) (x2 : Option (Nat × Nat)) (x3 : Option (Nat × Nat)) (x4 : Int32) (h : am_H) : am_R := m_scr (x4 + (1 : Int32)) h fun v301 => m_bI (f_L_make x1 v301 x3 h) fun h302 v303 => m_scr (x4 + (1 : Int32)) h302 fun v304 => m_ao x2 11 fun a307 => m_bI (f_X11_make a307 v304 h302) fun h305 v306 => m_ao x2 11 fun a310 => m_bI (f_X11_thrown a310 h305) fun h308 v309 => if v309 = v303 then (if v303 = 0 then (m_aL x3 (0 : Int32) h308 fun v311 => if (lg_cmp v311 (Int32.toInt64 v306)) = 0 then (f_L_law_1205 rc23 (1, 0) x1 x2 x3 x4 h308) else (m_rz h308 (0 : Int32))) else (f_L_law_1205 rc23 (1, 0) x1 x2 x3 x4 h308)) else (m_rz h308 (0 : Int32))
theorem t_L_law_1152 (d : Nat) (hd : 10 ≤ d) (rc23 : Nat × Nat → Option (Nat × Nat) → Option (Nat × Nat) → Option (Nat × Nat) → Int32 → am_H → am_R) (hrc23 : ∀ x1 x2 x3 x4 h, Sim m_L_law d 23 [some (.inr (.inr (some (1, 0)))), some (.inr (.inr x1)), some (.inr (.inr x2)), some (.inr (.inr x3)), some (.inl x4), none, none] [] h (rc23 (1, 0) x1 x2 x3 x4 h)) (x1 : Option (Nat × Nat)) (x2 : Option (Nat × Nat)) (x3 : Option (Nat × Nat)) (x4 : Int32) (h : am_H) : Sim m_L_law d 1152 [some (.inr (.inr (some (1, 0)))), some (.inr (.inr x1)), some (.inr (.inr x2)), some (.inr (.inr x3)), some (.inl x4), none, none] [] h (f_L_law_1152 rc23 (1, 0) x1 x2 x3 x4 h) := by
  unfold f_L_law_1152
  refine sim_aload_n dL_law_1152 rfl ?_
  refine sim_aload_n dL_law_1153 rfl ?_
  refine sim_iload dL_law_1154 rfl ?_
  refine sim_iconst (1) dL_law_1156 (by decide +kernel) ?_
  refine sim_iadd dL_law_1157 ?_
  refine sim_scr dL_law_1158 (fun v301 => ?_)
  refine sim_aload_n dL_law_1159 rfl ?_
  refine sim_staticX (d - 1) dL_law_1160 (k_L_make (d - 1) (by omega) _ _ _ _) q_L_make wm_RL_189 rfl rfl (by omega) (Nat.le_of_ble_eq_true rfl) am_nI (am_rI fun h302 v303 => ?_) am_eI
  refine sim_istore dL_law_1163 (Nat.le_of_ble_eq_true rfl) ?_
  refine sim_aload_n dL_law_1165 rfl ?_
  refine sim_aload_n dL_law_1166 rfl ?_
  refine sim_iload dL_law_1167 rfl ?_
  refine sim_iconst (1) dL_law_1169 (by decide +kernel) ?_
  refine sim_iadd dL_law_1170 ?_
  refine sim_scr dL_law_1171 (fun v304 => ?_)
  refine sim_ao1 (fun a307 e => ?_)
  refine sim_virt (d - 1) e dL_law_1172 (k_X11_make (d - 1) (by omega) _ _ _) q_X11_make rfl rfl wm_RL_191 rfl rfl (by omega) (Nat.le_of_ble_eq_true rfl) am_nI (am_rI fun h305 v306 => ?_) am_eI
  refine sim_istore dL_law_1175 (Nat.le_of_ble_eq_true rfl) ?_
  refine sim_aload_n dL_law_1177 rfl ?_
  refine sim_ao0 (fun a310 e => ?_)
  refine sim_virt (d - 1) e dL_law_1178 (k_X11_thrown (d - 1) (by omega) _  _) q_X11_thrown rfl rfl wm_RL_142 rfl rfl (by omega) (Nat.le_of_ble_eq_true rfl) am_nI (am_rI fun h308 v309 => ?_) am_eI
  refine sim_iload dL_law_1181 rfl ?_
  refine sim_ic_eq 1188 dL_law_1183 (by decide) (fun c => ?_) (fun c => ?_)
  · refine sim_iload dL_law_1188 rfl ?_
    refine sim_if_ne 1205 dL_law_1190 (by decide) (fun c => ?_) (fun c => ?_)
    · exact sim_lv (am_leS (am_leS (am_leS (am_leS (am_leS (am_leN (am_leN am_leT))))))) (t_L_law_1205 d (by omega) _ hrc23 _ _ _ _ _)
    · refine sim_aload_n dL_law_1193 rfl ?_
      refine sim_iconst (0) dL_law_1194 (by decide +kernel) ?_
      refine sim_aL dL_law_1195 (fun v311 => ?_)
      refine sim_iload dL_law_1196 rfl ?_
      refine sim_i2l dL_law_1198 ?_
      refine sim_lcmp dL_law_1199 ?_
      refine sim_if_eq 1205 dL_law_1200 (by decide) (fun c => ?_) (fun c => ?_)
      · exact sim_lv (am_leS (am_leS (am_leS (am_leS (am_leS (am_leN (am_leN am_leT))))))) (t_L_law_1205 d (by omega) _ hrc23 _ _ _ _ _)
      · refine sim_iconst (0) dL_law_1203 (by decide +kernel) ?_
        exact sim_zret dL_law_1204 rfl
  · refine sim_iconst (0) dL_law_1186 (by decide +kernel) ?_
    exact sim_zret dL_law_1187 rfl
def f_L_law_1149 (rc23 : Nat × Nat → Option (Nat × Nat) → Option (Nat × Nat) → Option (Nat × Nat) → Int32 → am_H → am_R) (_ : Nat × Nat) (x1 : Option (Nat × Nat)) (x2 : Option (Nat × Nat)) (x3 : Option (Nat × Nat)) (x4 : Int32) (h : am_H) : am_R := f_L_law_2795 rc23 (1, 0) x1 x2 x3 x4 h
theorem t_L_law_1149 (d : Nat) (hd : 10 ≤ d) (rc23 : Nat × Nat → Option (Nat × Nat) → Option (Nat × Nat) → Option (Nat × Nat) → Int32 → am_H → am_R) (hrc23 : ∀ x1 x2 x3 x4 h, Sim m_L_law d 23 [some (.inr (.inr (some (1, 0)))), some (.inr (.inr x1)), some (.inr (.inr x2)), some (.inr (.inr x3)), some (.inl x4), none, none] [] h (rc23 (1, 0) x1 x2 x3 x4 h)) (x1 : Option (Nat × Nat)) (x2 : Option (Nat × Nat)) (x3 : Option (Nat × Nat)) (x4 : Int32) (h : am_H) : Sim m_L_law d 1149 [some (.inr (.inr (some (1, 0)))), some (.inr (.inr x1)), some (.inr (.inr x2)), some (.inr (.inr x3)), some (.inl x4), none, none] [] h (f_L_law_1149 rc23 (1, 0) x1 x2 x3 x4 h) := by
  unfold f_L_law_1149
  refine sim_goto 2795 dL_law_1149 (by decide) ?_
  exact sim_lv (am_leS (am_leS (am_leS (am_leS (am_leS (am_leN (am_leN am_leT))))))) (t_L_law_2795 d (by omega) _ hrc23 _ _ _ _ _)
def f_L_law_1108 (rc23 : Nat × Nat → Option (Nat × Nat) → Option (Nat × Nat) → Option (Nat × Nat) → Int32 → am_H → am_R) (_ : Nat × Nat) (x1 : Option (Nat × Nat)) (x2 : Option (Nat × Nat)) (x3 : Option (Nat × Nat)) (x4 : Int32) (h : am_H) : am_R := m_bI (f_L_tag x1 x3 h) fun h312 v313 => m_ao x2 11 fun a316 => m_bI (f_X11_tag a316 h312) fun h314 v315 => m_ao x2 11 fun a319 => m_bI (f_X11_thrown a319 h314) fun h317 v318 => if v318 = v313 then (if v313 = 0 then (m_aL x3 (0 : Int32) h317 fun v320 => if (lg_cmp v320 (Int32.toInt64 v315)) = 0 then (f_L_law_1149 rc23 (1, 0) x1 x2 x3 x4 h317) else (m_rz h317 (0 : Int32))) else (f_L_law_1149 rc23 (1, 0) x1 x2 x3 x4 h317)) else (m_rz h317 (0 : Int32))
theorem t_L_law_1108 (d : Nat) (hd : 10 ≤ d) (rc23 : Nat × Nat → Option (Nat × Nat) → Option (Nat × Nat) → Option (Nat × Nat) → Int32 → am_H → am_R) (hrc23 : ∀ x1 x2 x3 x4 h, Sim m_L_law d 23 [some (.inr (.inr (some (1, 0)))), some (.inr (.inr x1)), some (.inr (.inr x2)), some (.inr (.inr x3)), some (.inl x4), none, none] [] h (rc23 (1, 0) x1 x2 x3 x4 h)) (x1 : Option (Nat × Nat)) (x2 : Option (Nat × Nat)) (x3 : Option (Nat × Nat)) (x4 : Int32) (h : am_H) : Sim m_L_law d 1108 [some (.inr (.inr (some (1, 0)))), some (.inr (.inr x1)), some (.inr (.inr x2)), some (.inr (.inr x3)), some (.inl x4), none, none] [] h (f_L_law_1108 rc23 (1, 0) x1 x2 x3 x4 h) := by
  unfold f_L_law_1108
  refine sim_aload_n dL_law_1108 rfl ?_
  refine sim_aload_n dL_law_1109 rfl ?_
  refine sim_staticX (d - 1) dL_law_1110 (k_L_tag (d - 1) (by omega) _ _ _) q_L_tag wm_RL_185 rfl rfl (by omega) (Nat.le_of_ble_eq_true rfl) am_nI (am_rI fun h312 v313 => ?_) am_eI
  refine sim_istore dL_law_1113 (Nat.le_of_ble_eq_true rfl) ?_
  refine sim_aload_n dL_law_1115 rfl ?_
  refine sim_ao0 (fun a316 e => ?_)
  refine sim_virt (d - 1) e dL_law_1116 (k_X11_tag (d - 1) (by omega) _  _) q_X11_tag rfl rfl wm_RL_188 rfl rfl (by omega) (Nat.le_of_ble_eq_true rfl) am_nI (am_rI fun h314 v315 => ?_) am_eI
  refine sim_istore dL_law_1119 (Nat.le_of_ble_eq_true rfl) ?_
  refine sim_aload_n dL_law_1121 rfl ?_
  refine sim_ao0 (fun a319 e => ?_)
  refine sim_virt (d - 1) e dL_law_1122 (k_X11_thrown (d - 1) (by omega) _  _) q_X11_thrown rfl rfl wm_RL_142 rfl rfl (by omega) (Nat.le_of_ble_eq_true rfl) am_nI (am_rI fun h317 v318 => ?_) am_eI
  refine sim_iload dL_law_1125 rfl ?_
  refine sim_ic_eq 1132 dL_law_1127 (by decide) (fun c => ?_) (fun c => ?_)
  · refine sim_iload dL_law_1132 rfl ?_
    refine sim_if_ne 1149 dL_law_1134 (by decide) (fun c => ?_) (fun c => ?_)
    · exact sim_lv (am_leS (am_leS (am_leS (am_leS (am_leS (am_leN (am_leN am_leT))))))) (t_L_law_1149 d (by omega) _ hrc23 _ _ _ _ _)
    · refine sim_aload_n dL_law_1137 rfl ?_
      refine sim_iconst (0) dL_law_1138 (by decide +kernel) ?_
      refine sim_aL dL_law_1139 (fun v320 => ?_)
      refine sim_iload dL_law_1140 rfl ?_
      refine sim_i2l dL_law_1142 ?_
      refine sim_lcmp dL_law_1143 ?_
      refine sim_if_eq 1149 dL_law_1144 (by decide) (fun c => ?_) (fun c => ?_)
      · exact sim_lv (am_leS (am_leS (am_leS (am_leS (am_leS (am_leN (am_leN am_leT))))))) (t_L_law_1149 d (by omega) _ hrc23 _ _ _ _ _)
      · refine sim_iconst (0) dL_law_1147 (by decide +kernel) ?_
        exact sim_zret dL_law_1148 rfl
  · refine sim_iconst (0) dL_law_1130 (by decide +kernel) ?_
    exact sim_zret dL_law_1131 rfl
def f_L_law_1105 (rc23 : Nat × Nat → Option (Nat × Nat) → Option (Nat × Nat) → Option (Nat × Nat) → Int32 → am_H → am_R) (_ : Nat × Nat) (x1 : Option (Nat × Nat)) (x2 : Option (Nat × Nat)) (x3 : Option (Nat × Nat)) (x4 : Int32) (h : am_H) : am_R := f_L_law_2795 rc23 (1, 0) x1 x2 x3 x4 h
theorem t_L_law_1105 (d : Nat) (hd : 10 ≤ d) (rc23 : Nat × Nat → Option (Nat × Nat) → Option (Nat × Nat) → Option (Nat × Nat) → Int32 → am_H → am_R) (hrc23 : ∀ x1 x2 x3 x4 h, Sim m_L_law d 23 [some (.inr (.inr (some (1, 0)))), some (.inr (.inr x1)), some (.inr (.inr x2)), some (.inr (.inr x3)), some (.inl x4), none, none] [] h (rc23 (1, 0) x1 x2 x3 x4 h)) (x1 : Option (Nat × Nat)) (x2 : Option (Nat × Nat)) (x3 : Option (Nat × Nat)) (x4 : Int32) (h : am_H) : Sim m_L_law d 1105 [some (.inr (.inr (some (1, 0)))), some (.inr (.inr x1)), some (.inr (.inr x2)), some (.inr (.inr x3)), some (.inl x4), none, none] [] h (f_L_law_1105 rc23 (1, 0) x1 x2 x3 x4 h) := by
  unfold f_L_law_1105
  refine sim_goto 2795 dL_law_1105 (by decide) ?_
  exact sim_lv (am_leS (am_leS (am_leS (am_leS (am_leS (am_leN (am_leN am_leT))))))) (t_L_law_2795 d (by omega) _ hrc23 _ _ _ _ _)
def f_L_law_1040 (rc23 : Nat × Nat → Option (Nat × Nat) → Option (Nat × Nat) → Option (Nat × Nat) → Int32 → am_H → am_R) (_ : Nat × Nat) (x1 : Option (Nat × Nat)) (x2 : Option (Nat × Nat)) (x3 : Option (Nat × Nat)) (x4 : Int32) (h : am_H) : am_R := m_scr (x4 + (1 : Int32)) h fun v321 => m_scr (x4 + (2 : Int32)) h fun v322 => m_bI (f_L_owners x1 v321 v322 x3 h) fun h323 v324 => m_scr (x4 + (1 : Int32)) h323 fun v325 => m_scr (x4 + (2 : Int32)) h323 fun v326 => m_ao x2 11 fun a329 => m_bI (f_X11_owners a329 v325 v326 h323) fun h327 v328 => m_ao x2 11 fun a332 => m_bI (f_X11_thrown a332 h327) fun h330 v331 => if v331 = v324 then (if v324 = 0 then (m_aL x3 (0 : Int32) h330 fun v333 => if (lg_cmp v333 (Int32.toInt64 v328)) = 0 then (f_L_law_1105 rc23 (1, 0) x1 x2 x3 x4 h330) else (m_rz h330 (0 : Int32))) else (f_L_law_1105 rc23 (1, 0) x1 x2 x3 x4 h330)) else (m_rz h330 (0 : Int32))
theorem t_L_law_1040 (d : Nat) (hd : 10 ≤ d) (rc23 : Nat × Nat → Option (Nat × Nat) → Option (Nat × Nat) → Option (Nat × Nat) → Int32 → am_H → am_R) (hrc23 : ∀ x1 x2 x3 x4 h, Sim m_L_law d 23 [some (.inr (.inr (some (1, 0)))), some (.inr (.inr x1)), some (.inr (.inr x2)), some (.inr (.inr x3)), some (.inl x4), none, none] [] h (rc23 (1, 0) x1 x2 x3 x4 h)) (x1 : Option (Nat × Nat)) (x2 : Option (Nat × Nat)) (x3 : Option (Nat × Nat)) (x4 : Int32) (h : am_H) : Sim m_L_law d 1040 [some (.inr (.inr (some (1, 0)))), some (.inr (.inr x1)), some (.inr (.inr x2)), some (.inr (.inr x3)), some (.inl x4), none, none] [] h (f_L_law_1040 rc23 (1, 0) x1 x2 x3 x4 h) := by
  unfold f_L_law_1040
  refine sim_aload_n dL_law_1040 rfl ?_
  refine sim_aload_n dL_law_1041 rfl ?_
  refine sim_iload dL_law_1042 rfl ?_
  refine sim_iconst (1) dL_law_1044 (by decide +kernel) ?_
  refine sim_iadd dL_law_1045 ?_
  refine sim_scr dL_law_1046 (fun v321 => ?_)
  refine sim_aload_n dL_law_1047 rfl ?_
  refine sim_iload dL_law_1048 rfl ?_
  refine sim_iconst (2) dL_law_1050 (by decide +kernel) ?_
  refine sim_iadd dL_law_1051 ?_
  refine sim_scr dL_law_1052 (fun v322 => ?_)
  refine sim_aload_n dL_law_1053 rfl ?_
  refine sim_staticX (d - 1) dL_law_1054 (k_L_owners (d - 1) (by omega) _ _ _ _ _) q_L_owners wm_RL_182 rfl rfl (by omega) (Nat.le_of_ble_eq_true rfl) am_nI (am_rI fun h323 v324 => ?_) am_eI
  refine sim_istore dL_law_1057 (Nat.le_of_ble_eq_true rfl) ?_
  refine sim_aload_n dL_law_1059 rfl ?_
  refine sim_aload_n dL_law_1060 rfl ?_
  refine sim_iload dL_law_1061 rfl ?_
  refine sim_iconst (1) dL_law_1063 (by decide +kernel) ?_
  refine sim_iadd dL_law_1064 ?_
  refine sim_scr dL_law_1065 (fun v325 => ?_)
  refine sim_aload_n dL_law_1066 rfl ?_
  refine sim_iload dL_law_1067 rfl ?_
  refine sim_iconst (2) dL_law_1069 (by decide +kernel) ?_
  refine sim_iadd dL_law_1070 ?_
  refine sim_scr dL_law_1071 (fun v326 => ?_)
  refine sim_ao2 (fun a329 e => ?_)
  refine sim_virt (d - 1) e dL_law_1072 (k_X11_owners (d - 1) (by omega) _ _ _ _) q_X11_owners rfl rfl wm_RL_184 rfl rfl (by omega) (Nat.le_of_ble_eq_true rfl) am_nI (am_rI fun h327 v328 => ?_) am_eI
  refine sim_istore dL_law_1075 (Nat.le_of_ble_eq_true rfl) ?_
  refine sim_aload_n dL_law_1077 rfl ?_
  refine sim_ao0 (fun a332 e => ?_)
  refine sim_virt (d - 1) e dL_law_1078 (k_X11_thrown (d - 1) (by omega) _  _) q_X11_thrown rfl rfl wm_RL_142 rfl rfl (by omega) (Nat.le_of_ble_eq_true rfl) am_nI (am_rI fun h330 v331 => ?_) am_eI
  refine sim_iload dL_law_1081 rfl ?_
  refine sim_ic_eq 1088 dL_law_1083 (by decide) (fun c => ?_) (fun c => ?_)
  · refine sim_iload dL_law_1088 rfl ?_
    refine sim_if_ne 1105 dL_law_1090 (by decide) (fun c => ?_) (fun c => ?_)
    · exact sim_lv (am_leS (am_leS (am_leS (am_leS (am_leS (am_leN (am_leN am_leT))))))) (t_L_law_1105 d (by omega) _ hrc23 _ _ _ _ _)
    · refine sim_aload_n dL_law_1093 rfl ?_
      refine sim_iconst (0) dL_law_1094 (by decide +kernel) ?_
      refine sim_aL dL_law_1095 (fun v333 => ?_)
      refine sim_iload dL_law_1096 rfl ?_
      refine sim_i2l dL_law_1098 ?_
      refine sim_lcmp dL_law_1099 ?_
      refine sim_if_eq 1105 dL_law_1100 (by decide) (fun c => ?_) (fun c => ?_)
      · exact sim_lv (am_leS (am_leS (am_leS (am_leS (am_leS (am_leN (am_leN am_leT))))))) (t_L_law_1105 d (by omega) _ hrc23 _ _ _ _ _)
      · refine sim_iconst (0) dL_law_1103 (by decide +kernel) ?_
        exact sim_zret dL_law_1104 rfl
  · refine sim_iconst (0) dL_law_1086 (by decide +kernel) ?_
    exact sim_zret dL_law_1087 rfl
def f_L_law_1037 (rc23 : Nat × Nat → Option (Nat × Nat) → Option (Nat × Nat) → Option (Nat × Nat) → Int32 → am_H → am_R) (_ : Nat × Nat) (x1 : Option (Nat × Nat)) (x2 : Option (Nat × Nat)) (x3 : Option (Nat × Nat)) (x4 : Int32) (h : am_H) : am_R := f_L_law_2795 rc23 (1, 0) x1 x2 x3 x4 h
theorem t_L_law_1037 (d : Nat) (hd : 10 ≤ d) (rc23 : Nat × Nat → Option (Nat × Nat) → Option (Nat × Nat) → Option (Nat × Nat) → Int32 → am_H → am_R) (hrc23 : ∀ x1 x2 x3 x4 h, Sim m_L_law d 23 [some (.inr (.inr (some (1, 0)))), some (.inr (.inr x1)), some (.inr (.inr x2)), some (.inr (.inr x3)), some (.inl x4), none, none] [] h (rc23 (1, 0) x1 x2 x3 x4 h)) (x1 : Option (Nat × Nat)) (x2 : Option (Nat × Nat)) (x3 : Option (Nat × Nat)) (x4 : Int32) (h : am_H) : Sim m_L_law d 1037 [some (.inr (.inr (some (1, 0)))), some (.inr (.inr x1)), some (.inr (.inr x2)), some (.inr (.inr x3)), some (.inl x4), none, none] [] h (f_L_law_1037 rc23 (1, 0) x1 x2 x3 x4 h) := by
  unfold f_L_law_1037
  refine sim_goto 2795 dL_law_1037 (by decide) ?_
  exact sim_lv (am_leS (am_leS (am_leS (am_leS (am_leS (am_leN (am_leN am_leT))))))) (t_L_law_2795 d (by omega) _ hrc23 _ _ _ _ _)
def f_L_law_1031 (rc23 : Nat × Nat → Option (Nat × Nat) → Option (Nat × Nat) → Option (Nat × Nat) → Int32 → am_H → am_R) (_ : Nat × Nat) (x1 : Option (Nat × Nat)) (x2 : Option (Nat × Nat)) (x3 : Option (Nat × Nat)) (x4 : Int32) (s0 : Int64) (s1 : Int64) (h : am_H) : am_R := if (lg_cmp s1 s0) = 0 then (f_L_law_1037 rc23 (1, 0) x1 x2 x3 x4 h) else (m_rz h (0 : Int32))
theorem t_L_law_1031 (d : Nat) (hd : 10 ≤ d) (rc23 : Nat × Nat → Option (Nat × Nat) → Option (Nat × Nat) → Option (Nat × Nat) → Int32 → am_H → am_R) (hrc23 : ∀ x1 x2 x3 x4 h, Sim m_L_law d 23 [some (.inr (.inr (some (1, 0)))), some (.inr (.inr x1)), some (.inr (.inr x2)), some (.inr (.inr x3)), some (.inl x4), none, none] [] h (rc23 (1, 0) x1 x2 x3 x4 h)) (x1 : Option (Nat × Nat)) (x2 : Option (Nat × Nat)) (x3 : Option (Nat × Nat)) (x4 : Int32) (s0 : Int64) (s1 : Int64) (h : am_H) : Sim m_L_law d 1031 [some (.inr (.inr (some (1, 0)))), some (.inr (.inr x1)), some (.inr (.inr x2)), some (.inr (.inr x3)), some (.inl x4), none, none] [.inr (.inl s0), .inr (.inl s1)] h (f_L_law_1031 rc23 (1, 0) x1 x2 x3 x4 s0 s1 h) := by
  unfold f_L_law_1031
  refine sim_lcmp dL_law_1031 ?_
  refine sim_if_eq 1037 dL_law_1032 (by decide) (fun c => ?_) (fun c => ?_)
  · exact sim_lv (am_leS (am_leS (am_leS (am_leS (am_leS (am_leN (am_leN am_leT))))))) (t_L_law_1037 d (by omega) _ hrc23 _ _ _ _ _)
  · refine sim_iconst (0) dL_law_1035 (by decide +kernel) ?_
    exact sim_zret dL_law_1036 rfl
def f_L_law_965 (rc23 : Nat × Nat → Option (Nat × Nat) → Option (Nat × Nat) → Option (Nat × Nat) → Int32 → am_H → am_R) (_ : Nat × Nat) (x1 : Option (Nat × Nat)) (x2 : Option (Nat × Nat)) (x3 : Option (Nat × Nat)) (x4 : Int32) (h : am_H) : am_R := m_scr (x4 + (1 : Int32)) h fun v334 => m_scr (x4 + (2 : Int32)) h fun v335 => m_bI (f_L_sees x1 v334 v335 x3 h) fun h336 v337 => m_scr (x4 + (1 : Int32)) h336 fun v338 => m_scr (x4 + (2 : Int32)) h336 fun v339 => m_ao x2 11 fun a342 => m_bI (f_X11_sees a342 v338 v339 h336) fun h340 v341 => m_ao x2 11 fun a345 => m_bI (f_X11_thrown a345 h340) fun h343 v344 => if v344 = v337 then (if v337 = 0 then (m_aL x3 (0 : Int32) h343 fun v346 => if v341 = 0 then (f_L_law_1031 rc23 (1, 0) x1 x2 x3 x4 (0 : Int64) v346 h343) else (f_L_law_1031 rc23 (1, 0) x1 x2 x3 x4 (1 : Int64) v346 h343)) else (f_L_law_1037 rc23 (1, 0) x1 x2 x3 x4 h343)) else (m_rz h343 (0 : Int32))
theorem t_L_law_965 (d : Nat) (hd : 10 ≤ d) (rc23 : Nat × Nat → Option (Nat × Nat) → Option (Nat × Nat) → Option (Nat × Nat) → Int32 → am_H → am_R) (hrc23 : ∀ x1 x2 x3 x4 h, Sim m_L_law d 23 [some (.inr (.inr (some (1, 0)))), some (.inr (.inr x1)), some (.inr (.inr x2)), some (.inr (.inr x3)), some (.inl x4), none, none] [] h (rc23 (1, 0) x1 x2 x3 x4 h)) (x1 : Option (Nat × Nat)) (x2 : Option (Nat × Nat)) (x3 : Option (Nat × Nat)) (x4 : Int32) (h : am_H) : Sim m_L_law d 965 [some (.inr (.inr (some (1, 0)))), some (.inr (.inr x1)), some (.inr (.inr x2)), some (.inr (.inr x3)), some (.inl x4), none, none] [] h (f_L_law_965 rc23 (1, 0) x1 x2 x3 x4 h) := by
  unfold f_L_law_965
  refine sim_aload_n dL_law_965 rfl ?_
  refine sim_aload_n dL_law_966 rfl ?_
  refine sim_iload dL_law_967 rfl ?_
  refine sim_iconst (1) dL_law_969 (by decide +kernel) ?_
  refine sim_iadd dL_law_970 ?_
  refine sim_scr dL_law_971 (fun v334 => ?_)
  refine sim_aload_n dL_law_972 rfl ?_
  refine sim_iload dL_law_973 rfl ?_
  refine sim_iconst (2) dL_law_975 (by decide +kernel) ?_
  refine sim_iadd dL_law_976 ?_
  refine sim_scr dL_law_977 (fun v335 => ?_)
  refine sim_aload_n dL_law_978 rfl ?_
  refine sim_staticX (d - 1) dL_law_979 (k_L_sees (d - 1) (by omega) _ _ _ _ _) q_L_sees wm_RL_179 rfl rfl (by omega) (Nat.le_of_ble_eq_true rfl) am_nI (am_rI fun h336 v337 => ?_) am_eI
  refine sim_istore dL_law_982 (Nat.le_of_ble_eq_true rfl) ?_
  refine sim_aload_n dL_law_984 rfl ?_
  refine sim_aload_n dL_law_985 rfl ?_
  refine sim_iload dL_law_986 rfl ?_
  refine sim_iconst (1) dL_law_988 (by decide +kernel) ?_
  refine sim_iadd dL_law_989 ?_
  refine sim_scr dL_law_990 (fun v338 => ?_)
  refine sim_aload_n dL_law_991 rfl ?_
  refine sim_iload dL_law_992 rfl ?_
  refine sim_iconst (2) dL_law_994 (by decide +kernel) ?_
  refine sim_iadd dL_law_995 ?_
  refine sim_scr dL_law_996 (fun v339 => ?_)
  refine sim_ao2 (fun a342 e => ?_)
  refine sim_virt (d - 1) e dL_law_997 (k_X11_sees (d - 1) (by omega) _ _ _ _) q_X11_sees rfl rfl wm_RL_181 rfl rfl (by omega) (Nat.le_of_ble_eq_true rfl) am_nI (am_rI fun h340 v341 => ?_) am_eI
  refine sim_istore dL_law_1000 (Nat.le_of_ble_eq_true rfl) ?_
  refine sim_aload_n dL_law_1002 rfl ?_
  refine sim_ao0 (fun a345 e => ?_)
  refine sim_virt (d - 1) e dL_law_1003 (k_X11_thrown (d - 1) (by omega) _  _) q_X11_thrown rfl rfl wm_RL_142 rfl rfl (by omega) (Nat.le_of_ble_eq_true rfl) am_nI (am_rI fun h343 v344 => ?_) am_eI
  refine sim_iload dL_law_1006 rfl ?_
  refine sim_ic_eq 1013 dL_law_1008 (by decide) (fun c => ?_) (fun c => ?_)
  · refine sim_iload dL_law_1013 rfl ?_
    refine sim_if_ne 1037 dL_law_1015 (by decide) (fun c => ?_) (fun c => ?_)
    · exact sim_lv (am_leS (am_leS (am_leS (am_leS (am_leS (am_leN (am_leN am_leT))))))) (t_L_law_1037 d (by omega) _ hrc23 _ _ _ _ _)
    · refine sim_aload_n dL_law_1018 rfl ?_
      refine sim_iconst (0) dL_law_1019 (by decide +kernel) ?_
      refine sim_aL dL_law_1020 (fun v346 => ?_)
      refine sim_iload dL_law_1021 rfl ?_
      refine sim_if_eq 1030 dL_law_1023 (by decide) (fun c => ?_) (fun c => ?_)
      · refine sim_lconst (0) dL_law_1030 (by decide +kernel) ?_
        exact sim_lv (am_leS (am_leS (am_leS (am_leS (am_leS (am_leN (am_leN am_leT))))))) (t_L_law_1031 d (by omega) _ hrc23 _ _ _ _ _ _ _)
      · refine sim_lconst (1) dL_law_1026 (by decide +kernel) ?_
        refine sim_goto 1031 dL_law_1027 (by decide) ?_
        exact sim_lv (am_leS (am_leS (am_leS (am_leS (am_leS (am_leN (am_leN am_leT))))))) (t_L_law_1031 d (by omega) _ hrc23 _ _ _ _ _ _ _)
  · refine sim_iconst (0) dL_law_1011 (by decide +kernel) ?_
    exact sim_zret dL_law_1012 rfl
def f_L_law_917 (rc23 : Nat × Nat → Option (Nat × Nat) → Option (Nat × Nat) → Option (Nat × Nat) → Int32 → am_H → am_R) (_ : Nat × Nat) (x1 : Option (Nat × Nat)) (x2 : Option (Nat × Nat)) (x3 : Option (Nat × Nat)) (x4 : Int32) (h : am_H) : am_R := m_scr (x4 + (1 : Int32)) h fun v347 => m_scr (x4 + (2 : Int32)) h fun v348 => m_bI (f_L_collect x1 v347 v348 h) fun h349 v350 => m_scr (x4 + (1 : Int32)) h349 fun v351 => m_scr (x4 + (2 : Int32)) h349 fun v352 => m_ao x2 11 fun a355 => m_bV (f_X11_collect a355 v351 v352 h349) fun h353 => m_ao x2 11 fun a358 => m_bI (f_X11_thrown a358 h353) fun h356 v357 => if v357 = v350 then (f_L_law_2795 rc23 (1, 0) x1 x2 x3 x4 h356) else (m_rz h356 (0 : Int32))
theorem t_L_law_917 (d : Nat) (hd : 10 ≤ d) (rc23 : Nat × Nat → Option (Nat × Nat) → Option (Nat × Nat) → Option (Nat × Nat) → Int32 → am_H → am_R) (hrc23 : ∀ x1 x2 x3 x4 h, Sim m_L_law d 23 [some (.inr (.inr (some (1, 0)))), some (.inr (.inr x1)), some (.inr (.inr x2)), some (.inr (.inr x3)), some (.inl x4), none, none] [] h (rc23 (1, 0) x1 x2 x3 x4 h)) (x1 : Option (Nat × Nat)) (x2 : Option (Nat × Nat)) (x3 : Option (Nat × Nat)) (x4 : Int32) (h : am_H) : Sim m_L_law d 917 [some (.inr (.inr (some (1, 0)))), some (.inr (.inr x1)), some (.inr (.inr x2)), some (.inr (.inr x3)), some (.inl x4), none, none] [] h (f_L_law_917 rc23 (1, 0) x1 x2 x3 x4 h) := by
  unfold f_L_law_917
  refine sim_aload_n dL_law_917 rfl ?_
  refine sim_aload_n dL_law_918 rfl ?_
  refine sim_iload dL_law_919 rfl ?_
  refine sim_iconst (1) dL_law_921 (by decide +kernel) ?_
  refine sim_iadd dL_law_922 ?_
  refine sim_scr dL_law_923 (fun v347 => ?_)
  refine sim_aload_n dL_law_924 rfl ?_
  refine sim_iload dL_law_925 rfl ?_
  refine sim_iconst (2) dL_law_927 (by decide +kernel) ?_
  refine sim_iadd dL_law_928 ?_
  refine sim_scr dL_law_929 (fun v348 => ?_)
  refine sim_staticX (d - 1) dL_law_930 (k_L_collect (d - 1) (by omega) _ _ _ _) q_L_collect wm_RL_175 rfl rfl (by omega) (Nat.le_of_ble_eq_true rfl) am_nI (am_rI fun h349 v350 => ?_) am_eI
  refine sim_istore dL_law_933 (Nat.le_of_ble_eq_true rfl) ?_
  refine sim_aload_n dL_law_935 rfl ?_
  refine sim_aload_n dL_law_936 rfl ?_
  refine sim_iload dL_law_937 rfl ?_
  refine sim_iconst (1) dL_law_939 (by decide +kernel) ?_
  refine sim_iadd dL_law_940 ?_
  refine sim_scr dL_law_941 (fun v351 => ?_)
  refine sim_aload_n dL_law_942 rfl ?_
  refine sim_iload dL_law_943 rfl ?_
  refine sim_iconst (2) dL_law_945 (by decide +kernel) ?_
  refine sim_iadd dL_law_946 ?_
  refine sim_scr dL_law_947 (fun v352 => ?_)
  refine sim_ao2 (fun a355 e => ?_)
  refine sim_virt (d - 1) e dL_law_948 (k_X11_collect (d - 1) (by omega) _ _ _ _) q_X11_collect rfl rfl wm_RL_178 rfl rfl (by omega) (Nat.le_of_ble_eq_true rfl) am_nV (am_rV fun h353 => ?_) am_eV
  refine sim_aload_n dL_law_951 rfl ?_
  refine sim_ao0 (fun a358 e => ?_)
  refine sim_virt (d - 1) e dL_law_952 (k_X11_thrown (d - 1) (by omega) _  _) q_X11_thrown rfl rfl wm_RL_142 rfl rfl (by omega) (Nat.le_of_ble_eq_true rfl) am_nI (am_rI fun h356 v357 => ?_) am_eI
  refine sim_iload dL_law_955 rfl ?_
  refine sim_ic_eq 962 dL_law_957 (by decide) (fun c => ?_) (fun c => ?_)
  · refine sim_goto 2795 dL_law_962 (by decide) ?_
    exact sim_lv (am_leS (am_leS (am_leS (am_leS (am_leS (am_leN (am_leN am_leT))))))) (t_L_law_2795 d (by omega) _ hrc23 _ _ _ _ _)
  · refine sim_iconst (0) dL_law_960 (by decide +kernel) ?_
    exact sim_zret dL_law_961 rfl
def f_L_law_914 (rc23 : Nat × Nat → Option (Nat × Nat) → Option (Nat × Nat) → Option (Nat × Nat) → Int32 → am_H → am_R) (_ : Nat × Nat) (x1 : Option (Nat × Nat)) (x2 : Option (Nat × Nat)) (x3 : Option (Nat × Nat)) (x4 : Int32) (h : am_H) : am_R := f_L_law_2795 rc23 (1, 0) x1 x2 x3 x4 h
theorem t_L_law_914 (d : Nat) (hd : 10 ≤ d) (rc23 : Nat × Nat → Option (Nat × Nat) → Option (Nat × Nat) → Option (Nat × Nat) → Int32 → am_H → am_R) (hrc23 : ∀ x1 x2 x3 x4 h, Sim m_L_law d 23 [some (.inr (.inr (some (1, 0)))), some (.inr (.inr x1)), some (.inr (.inr x2)), some (.inr (.inr x3)), some (.inl x4), none, none] [] h (rc23 (1, 0) x1 x2 x3 x4 h)) (x1 : Option (Nat × Nat)) (x2 : Option (Nat × Nat)) (x3 : Option (Nat × Nat)) (x4 : Int32) (h : am_H) : Sim m_L_law d 914 [some (.inr (.inr (some (1, 0)))), some (.inr (.inr x1)), some (.inr (.inr x2)), some (.inr (.inr x3)), some (.inl x4), none, none] [] h (f_L_law_914 rc23 (1, 0) x1 x2 x3 x4 h) := by
  unfold f_L_law_914
  refine sim_goto 2795 dL_law_914 (by decide) ?_
  exact sim_lv (am_leS (am_leS (am_leS (am_leS (am_leS (am_leN (am_leN am_leT))))))) (t_L_law_2795 d (by omega) _ hrc23 _ _ _ _ _)
def f_L_law_849 (rc23 : Nat × Nat → Option (Nat × Nat) → Option (Nat × Nat) → Option (Nat × Nat) → Int32 → am_H → am_R) (_ : Nat × Nat) (x1 : Option (Nat × Nat)) (x2 : Option (Nat × Nat)) (x3 : Option (Nat × Nat)) (x4 : Int32) (h : am_H) : am_R := m_scr (x4 + (1 : Int32)) h fun v359 => m_scr (x4 + (2 : Int32)) h fun v360 => m_bI (f_L_collection x1 v359 v360 x3 h) fun h361 v362 => m_scr (x4 + (1 : Int32)) h361 fun v363 => m_scr (x4 + (2 : Int32)) h361 fun v364 => m_ao x2 11 fun a367 => m_bI (f_X11_collection a367 v363 v364 h361) fun h365 v366 => m_ao x2 11 fun a370 => m_bI (f_X11_thrown a370 h365) fun h368 v369 => if v369 = v362 then (if v362 = 0 then (m_aL x3 (0 : Int32) h368 fun v371 => if (lg_cmp v371 (Int32.toInt64 v366)) = 0 then (f_L_law_914 rc23 (1, 0) x1 x2 x3 x4 h368) else (m_rz h368 (0 : Int32))) else (f_L_law_914 rc23 (1, 0) x1 x2 x3 x4 h368)) else (m_rz h368 (0 : Int32))
theorem t_L_law_849 (d : Nat) (hd : 10 ≤ d) (rc23 : Nat × Nat → Option (Nat × Nat) → Option (Nat × Nat) → Option (Nat × Nat) → Int32 → am_H → am_R) (hrc23 : ∀ x1 x2 x3 x4 h, Sim m_L_law d 23 [some (.inr (.inr (some (1, 0)))), some (.inr (.inr x1)), some (.inr (.inr x2)), some (.inr (.inr x3)), some (.inl x4), none, none] [] h (rc23 (1, 0) x1 x2 x3 x4 h)) (x1 : Option (Nat × Nat)) (x2 : Option (Nat × Nat)) (x3 : Option (Nat × Nat)) (x4 : Int32) (h : am_H) : Sim m_L_law d 849 [some (.inr (.inr (some (1, 0)))), some (.inr (.inr x1)), some (.inr (.inr x2)), some (.inr (.inr x3)), some (.inl x4), none, none] [] h (f_L_law_849 rc23 (1, 0) x1 x2 x3 x4 h) := by
  unfold f_L_law_849
  refine sim_aload_n dL_law_849 rfl ?_
  refine sim_aload_n dL_law_850 rfl ?_
  refine sim_iload dL_law_851 rfl ?_
  refine sim_iconst (1) dL_law_853 (by decide +kernel) ?_
  refine sim_iadd dL_law_854 ?_
  refine sim_scr dL_law_855 (fun v359 => ?_)
  refine sim_aload_n dL_law_856 rfl ?_
  refine sim_iload dL_law_857 rfl ?_
  refine sim_iconst (2) dL_law_859 (by decide +kernel) ?_
  refine sim_iadd dL_law_860 ?_
  refine sim_scr dL_law_861 (fun v360 => ?_)
  refine sim_aload_n dL_law_862 rfl ?_
  refine sim_staticX (d - 1) dL_law_863 (k_L_collection (d - 1) (by omega) _ _ _ _ _) q_L_collection wm_RL_172 rfl rfl (by omega) (Nat.le_of_ble_eq_true rfl) am_nI (am_rI fun h361 v362 => ?_) am_eI
  refine sim_istore dL_law_866 (Nat.le_of_ble_eq_true rfl) ?_
  refine sim_aload_n dL_law_868 rfl ?_
  refine sim_aload_n dL_law_869 rfl ?_
  refine sim_iload dL_law_870 rfl ?_
  refine sim_iconst (1) dL_law_872 (by decide +kernel) ?_
  refine sim_iadd dL_law_873 ?_
  refine sim_scr dL_law_874 (fun v363 => ?_)
  refine sim_aload_n dL_law_875 rfl ?_
  refine sim_iload dL_law_876 rfl ?_
  refine sim_iconst (2) dL_law_878 (by decide +kernel) ?_
  refine sim_iadd dL_law_879 ?_
  refine sim_scr dL_law_880 (fun v364 => ?_)
  refine sim_ao2 (fun a367 e => ?_)
  refine sim_virt (d - 1) e dL_law_881 (k_X11_collection (d - 1) (by omega) _ _ _ _) q_X11_collection rfl rfl wm_RL_174 rfl rfl (by omega) (Nat.le_of_ble_eq_true rfl) am_nI (am_rI fun h365 v366 => ?_) am_eI
  refine sim_istore dL_law_884 (Nat.le_of_ble_eq_true rfl) ?_
  refine sim_aload_n dL_law_886 rfl ?_
  refine sim_ao0 (fun a370 e => ?_)
  refine sim_virt (d - 1) e dL_law_887 (k_X11_thrown (d - 1) (by omega) _  _) q_X11_thrown rfl rfl wm_RL_142 rfl rfl (by omega) (Nat.le_of_ble_eq_true rfl) am_nI (am_rI fun h368 v369 => ?_) am_eI
  refine sim_iload dL_law_890 rfl ?_
  refine sim_ic_eq 897 dL_law_892 (by decide) (fun c => ?_) (fun c => ?_)
  · refine sim_iload dL_law_897 rfl ?_
    refine sim_if_ne 914 dL_law_899 (by decide) (fun c => ?_) (fun c => ?_)
    · exact sim_lv (am_leS (am_leS (am_leS (am_leS (am_leS (am_leN (am_leN am_leT))))))) (t_L_law_914 d (by omega) _ hrc23 _ _ _ _ _)
    · refine sim_aload_n dL_law_902 rfl ?_
      refine sim_iconst (0) dL_law_903 (by decide +kernel) ?_
      refine sim_aL dL_law_904 (fun v371 => ?_)
      refine sim_iload dL_law_905 rfl ?_
      refine sim_i2l dL_law_907 ?_
      refine sim_lcmp dL_law_908 ?_
      refine sim_if_eq 914 dL_law_909 (by decide) (fun c => ?_) (fun c => ?_)
      · exact sim_lv (am_leS (am_leS (am_leS (am_leS (am_leS (am_leN (am_leN am_leT))))))) (t_L_law_914 d (by omega) _ hrc23 _ _ _ _ _)
      · refine sim_iconst (0) dL_law_912 (by decide +kernel) ?_
        exact sim_zret dL_law_913 rfl
  · refine sim_iconst (0) dL_law_895 (by decide +kernel) ?_
    exact sim_zret dL_law_896 rfl
def f_L_law_846 (rc23 : Nat × Nat → Option (Nat × Nat) → Option (Nat × Nat) → Option (Nat × Nat) → Int32 → am_H → am_R) (_ : Nat × Nat) (x1 : Option (Nat × Nat)) (x2 : Option (Nat × Nat)) (x3 : Option (Nat × Nat)) (x4 : Int32) (h : am_H) : am_R := f_L_law_2795 rc23 (1, 0) x1 x2 x3 x4 h
theorem t_L_law_846 (d : Nat) (hd : 10 ≤ d) (rc23 : Nat × Nat → Option (Nat × Nat) → Option (Nat × Nat) → Option (Nat × Nat) → Int32 → am_H → am_R) (hrc23 : ∀ x1 x2 x3 x4 h, Sim m_L_law d 23 [some (.inr (.inr (some (1, 0)))), some (.inr (.inr x1)), some (.inr (.inr x2)), some (.inr (.inr x3)), some (.inl x4), none, none] [] h (rc23 (1, 0) x1 x2 x3 x4 h)) (x1 : Option (Nat × Nat)) (x2 : Option (Nat × Nat)) (x3 : Option (Nat × Nat)) (x4 : Int32) (h : am_H) : Sim m_L_law d 846 [some (.inr (.inr (some (1, 0)))), some (.inr (.inr x1)), some (.inr (.inr x2)), some (.inr (.inr x3)), some (.inl x4), none, none] [] h (f_L_law_846 rc23 (1, 0) x1 x2 x3 x4 h) := by
  unfold f_L_law_846
  refine sim_goto 2795 dL_law_846 (by decide) ?_
  exact sim_lv (am_leS (am_leS (am_leS (am_leS (am_leS (am_leN (am_leN am_leT))))))) (t_L_law_2795 d (by omega) _ hrc23 _ _ _ _ _)
def f_L_law_840 (rc23 : Nat × Nat → Option (Nat × Nat) → Option (Nat × Nat) → Option (Nat × Nat) → Int32 → am_H → am_R) (_ : Nat × Nat) (x1 : Option (Nat × Nat)) (x2 : Option (Nat × Nat)) (x3 : Option (Nat × Nat)) (x4 : Int32) (s0 : Int64) (s1 : Int64) (h : am_H) : am_R := if (lg_cmp s1 s0) = 0 then (f_L_law_846 rc23 (1, 0) x1 x2 x3 x4 h) else (m_rz h (0 : Int32))
theorem t_L_law_840 (d : Nat) (hd : 10 ≤ d) (rc23 : Nat × Nat → Option (Nat × Nat) → Option (Nat × Nat) → Option (Nat × Nat) → Int32 → am_H → am_R) (hrc23 : ∀ x1 x2 x3 x4 h, Sim m_L_law d 23 [some (.inr (.inr (some (1, 0)))), some (.inr (.inr x1)), some (.inr (.inr x2)), some (.inr (.inr x3)), some (.inl x4), none, none] [] h (rc23 (1, 0) x1 x2 x3 x4 h)) (x1 : Option (Nat × Nat)) (x2 : Option (Nat × Nat)) (x3 : Option (Nat × Nat)) (x4 : Int32) (s0 : Int64) (s1 : Int64) (h : am_H) : Sim m_L_law d 840 [some (.inr (.inr (some (1, 0)))), some (.inr (.inr x1)), some (.inr (.inr x2)), some (.inr (.inr x3)), some (.inl x4), none, none] [.inr (.inl s0), .inr (.inl s1)] h (f_L_law_840 rc23 (1, 0) x1 x2 x3 x4 s0 s1 h) := by
  unfold f_L_law_840
  refine sim_lcmp dL_law_840 ?_
  refine sim_if_eq 846 dL_law_841 (by decide) (fun c => ?_) (fun c => ?_)
  · exact sim_lv (am_leS (am_leS (am_leS (am_leS (am_leS (am_leN (am_leN am_leT))))))) (t_L_law_846 d (by omega) _ hrc23 _ _ _ _ _)
  · refine sim_iconst (0) dL_law_844 (by decide +kernel) ?_
    exact sim_zret dL_law_845 rfl
def f_L_law_806 (rc23 : Nat × Nat → Option (Nat × Nat) → Option (Nat × Nat) → Option (Nat × Nat) → Int32 → am_H → am_R) (_ : Nat × Nat) (x1 : Option (Nat × Nat)) (x2 : Option (Nat × Nat)) (x3 : Option (Nat × Nat)) (x4 : Int32) (x5 : Int32) (s0 : Int32) (s1 : Int32) (s2 : Option (Nat × Nat)) (h : am_H) : am_R := m_ao s2 11 fun a380 => m_bI (f_X11_lock a380 s1 s0 h) fun h378 v379 => m_ao x2 11 fun a383 => m_bI (f_X11_thrown a383 h378) fun h381 v382 => if v382 = x5 then (if x5 = 0 then (m_aL x3 (0 : Int32) h381 fun v384 => if v379 = 0 then (f_L_law_840 rc23 (1, 0) x1 x2 x3 x4 (0 : Int64) v384 h381) else (f_L_law_840 rc23 (1, 0) x1 x2 x3 x4 (1 : Int64) v384 h381)) else (f_L_law_846 rc23 (1, 0) x1 x2 x3 x4 h381)) else (m_rz h381 (0 : Int32))
theorem t_L_law_806 (d : Nat) (hd : 10 ≤ d) (rc23 : Nat × Nat → Option (Nat × Nat) → Option (Nat × Nat) → Option (Nat × Nat) → Int32 → am_H → am_R) (hrc23 : ∀ x1 x2 x3 x4 h, Sim m_L_law d 23 [some (.inr (.inr (some (1, 0)))), some (.inr (.inr x1)), some (.inr (.inr x2)), some (.inr (.inr x3)), some (.inl x4), none, none] [] h (rc23 (1, 0) x1 x2 x3 x4 h)) (x1 : Option (Nat × Nat)) (x2 : Option (Nat × Nat)) (x3 : Option (Nat × Nat)) (x4 : Int32) (x5 : Int32) (s0 : Int32) (s1 : Int32) (s2 : Option (Nat × Nat)) (h : am_H) : Sim m_L_law d 806 [some (.inr (.inr (some (1, 0)))), some (.inr (.inr x1)), some (.inr (.inr x2)), some (.inr (.inr x3)), some (.inl x4), some (.inl x5), none] [.inl s0, .inl s1, .inr (.inr s2)] h (f_L_law_806 rc23 (1, 0) x1 x2 x3 x4 x5 s0 s1 s2 h) := by
  unfold f_L_law_806
  refine sim_ao2 (fun a380 e => ?_)
  refine sim_virt (d - 1) e dL_law_806 (k_X11_lock (d - 1) (by omega) _ _ _ _) q_X11_lock rfl rfl wm_RL_171 rfl rfl (by omega) (Nat.le_of_ble_eq_true rfl) am_nI (am_rI fun h378 v379 => ?_) am_eI
  refine sim_istore dL_law_809 (Nat.le_of_ble_eq_true rfl) ?_
  refine sim_aload_n dL_law_811 rfl ?_
  refine sim_ao0 (fun a383 e => ?_)
  refine sim_virt (d - 1) e dL_law_812 (k_X11_thrown (d - 1) (by omega) _  _) q_X11_thrown rfl rfl wm_RL_142 rfl rfl (by omega) (Nat.le_of_ble_eq_true rfl) am_nI (am_rI fun h381 v382 => ?_) am_eI
  refine sim_iload dL_law_815 rfl ?_
  refine sim_ic_eq 822 dL_law_817 (by decide) (fun c => ?_) (fun c => ?_)
  · refine sim_iload dL_law_822 rfl ?_
    refine sim_if_ne 846 dL_law_824 (by decide) (fun c => ?_) (fun c => ?_)
    · exact sim_lv (am_leS (am_leS (am_leS (am_leS (am_leS (am_leN (am_leN am_leT))))))) (t_L_law_846 d (by omega) _ hrc23 _ _ _ _ _)
    · refine sim_aload_n dL_law_827 rfl ?_
      refine sim_iconst (0) dL_law_828 (by decide +kernel) ?_
      refine sim_aL dL_law_829 (fun v384 => ?_)
      refine sim_iload dL_law_830 rfl ?_
      refine sim_if_eq 839 dL_law_832 (by decide) (fun c => ?_) (fun c => ?_)
      · refine sim_lconst (0) dL_law_839 (by decide +kernel) ?_
        exact sim_lv (am_leS (am_leS (am_leS (am_leS (am_leS (am_leN (am_leN am_leT))))))) (t_L_law_840 d (by omega) _ hrc23 _ _ _ _ _ _ _)
      · refine sim_lconst (1) dL_law_835 (by decide +kernel) ?_
        refine sim_goto 840 dL_law_836 (by decide) ?_
        exact sim_lv (am_leS (am_leS (am_leS (am_leS (am_leS (am_leN (am_leN am_leT))))))) (t_L_law_840 d (by omega) _ hrc23 _ _ _ _ _ _ _)
  · refine sim_iconst (0) dL_law_820 (by decide +kernel) ?_
    exact sim_zret dL_law_821 rfl
def f_L_law_779 (rc23 : Nat × Nat → Option (Nat × Nat) → Option (Nat × Nat) → Option (Nat × Nat) → Int32 → am_H → am_R) (_ : Nat × Nat) (x1 : Option (Nat × Nat)) (x2 : Option (Nat × Nat)) (x3 : Option (Nat × Nat)) (x4 : Int32) (s0 : Int32) (s1 : Int32) (s2 : Option (Nat × Nat)) (h : am_H) : am_R := m_bI (f_L_lock s2 s1 s0 x3 h) fun h374 v375 => m_scr (x4 + (1 : Int32)) h374 fun v376 => m_scr (x4 + (2 : Int32)) h374 fun v377 => if v377 = 0 then (f_L_law_806 rc23 (1, 0) x1 x2 x3 x4 v375 (0 : Int32) v376 x2 h374) else (f_L_law_806 rc23 (1, 0) x1 x2 x3 x4 v375 (1 : Int32) v376 x2 h374)
theorem t_L_law_779 (d : Nat) (hd : 10 ≤ d) (rc23 : Nat × Nat → Option (Nat × Nat) → Option (Nat × Nat) → Option (Nat × Nat) → Int32 → am_H → am_R) (hrc23 : ∀ x1 x2 x3 x4 h, Sim m_L_law d 23 [some (.inr (.inr (some (1, 0)))), some (.inr (.inr x1)), some (.inr (.inr x2)), some (.inr (.inr x3)), some (.inl x4), none, none] [] h (rc23 (1, 0) x1 x2 x3 x4 h)) (x1 : Option (Nat × Nat)) (x2 : Option (Nat × Nat)) (x3 : Option (Nat × Nat)) (x4 : Int32) (s0 : Int32) (s1 : Int32) (s2 : Option (Nat × Nat)) (h : am_H) : Sim m_L_law d 779 [some (.inr (.inr (some (1, 0)))), some (.inr (.inr x1)), some (.inr (.inr x2)), some (.inr (.inr x3)), some (.inl x4), none, none] [.inl s0, .inl s1, .inr (.inr s2)] h (f_L_law_779 rc23 (1, 0) x1 x2 x3 x4 s0 s1 s2 h) := by
  unfold f_L_law_779
  refine sim_aload_n dL_law_779 rfl ?_
  refine sim_staticX (d - 1) dL_law_780 (k_L_lock (d - 1) (by omega) _ _ _ _ _) q_L_lock wm_RL_168 rfl rfl (by omega) (Nat.le_of_ble_eq_true rfl) am_nI (am_rI fun h374 v375 => ?_) am_eI
  refine sim_istore dL_law_783 (Nat.le_of_ble_eq_true rfl) ?_
  refine sim_aload_n dL_law_785 rfl ?_
  refine sim_aload_n dL_law_786 rfl ?_
  refine sim_iload dL_law_787 rfl ?_
  refine sim_iconst (1) dL_law_789 (by decide +kernel) ?_
  refine sim_iadd dL_law_790 ?_
  refine sim_scr dL_law_791 (fun v376 => ?_)
  refine sim_aload_n dL_law_792 rfl ?_
  refine sim_iload dL_law_793 rfl ?_
  refine sim_iconst (2) dL_law_795 (by decide +kernel) ?_
  refine sim_iadd dL_law_796 ?_
  refine sim_scr dL_law_797 (fun v377 => ?_)
  refine sim_if_eq 805 dL_law_798 (by decide) (fun c => ?_) (fun c => ?_)
  · refine sim_iconst (0) dL_law_805 (by decide +kernel) ?_
    exact sim_lv (am_leS (am_leS (am_leS (am_leS (am_leS (am_leS (am_leN am_leT))))))) (t_L_law_806 d (by omega) _ hrc23 _ _ _ _ _ _ _ _ _)
  · refine sim_iconst (1) dL_law_801 (by decide +kernel) ?_
    refine sim_goto 806 dL_law_802 (by decide) ?_
    exact sim_lv (am_leS (am_leS (am_leS (am_leS (am_leS (am_leS (am_leN am_leT))))))) (t_L_law_806 d (by omega) _ hrc23 _ _ _ _ _ _ _ _ _)
def f_L_law_758 (rc23 : Nat × Nat → Option (Nat × Nat) → Option (Nat × Nat) → Option (Nat × Nat) → Int32 → am_H → am_R) (_ : Nat × Nat) (x1 : Option (Nat × Nat)) (x2 : Option (Nat × Nat)) (x3 : Option (Nat × Nat)) (x4 : Int32) (h : am_H) : am_R := m_scr (x4 + (1 : Int32)) h fun v372 => m_scr (x4 + (2 : Int32)) h fun v373 => if v373 = 0 then (f_L_law_779 rc23 (1, 0) x1 x2 x3 x4 (0 : Int32) v372 x1 h) else (f_L_law_779 rc23 (1, 0) x1 x2 x3 x4 (1 : Int32) v372 x1 h)
theorem t_L_law_758 (d : Nat) (hd : 10 ≤ d) (rc23 : Nat × Nat → Option (Nat × Nat) → Option (Nat × Nat) → Option (Nat × Nat) → Int32 → am_H → am_R) (hrc23 : ∀ x1 x2 x3 x4 h, Sim m_L_law d 23 [some (.inr (.inr (some (1, 0)))), some (.inr (.inr x1)), some (.inr (.inr x2)), some (.inr (.inr x3)), some (.inl x4), none, none] [] h (rc23 (1, 0) x1 x2 x3 x4 h)) (x1 : Option (Nat × Nat)) (x2 : Option (Nat × Nat)) (x3 : Option (Nat × Nat)) (x4 : Int32) (h : am_H) : Sim m_L_law d 758 [some (.inr (.inr (some (1, 0)))), some (.inr (.inr x1)), some (.inr (.inr x2)), some (.inr (.inr x3)), some (.inl x4), none, none] [] h (f_L_law_758 rc23 (1, 0) x1 x2 x3 x4 h) := by
  unfold f_L_law_758
  refine sim_aload_n dL_law_758 rfl ?_
  refine sim_aload_n dL_law_759 rfl ?_
  refine sim_iload dL_law_760 rfl ?_
  refine sim_iconst (1) dL_law_762 (by decide +kernel) ?_
  refine sim_iadd dL_law_763 ?_
  refine sim_scr dL_law_764 (fun v372 => ?_)
  refine sim_aload_n dL_law_765 rfl ?_
  refine sim_iload dL_law_766 rfl ?_
  refine sim_iconst (2) dL_law_768 (by decide +kernel) ?_
  refine sim_iadd dL_law_769 ?_
  refine sim_scr dL_law_770 (fun v373 => ?_)
  refine sim_if_eq 778 dL_law_771 (by decide) (fun c => ?_) (fun c => ?_)
  · refine sim_iconst (0) dL_law_778 (by decide +kernel) ?_
    exact sim_lv (am_leS (am_leS (am_leS (am_leS (am_leS (am_leN (am_leN am_leT))))))) (t_L_law_779 d (by omega) _ hrc23 _ _ _ _ _ _ _ _)
  · refine sim_iconst (1) dL_law_774 (by decide +kernel) ?_
    refine sim_goto 779 dL_law_775 (by decide) ?_
    exact sim_lv (am_leS (am_leS (am_leS (am_leS (am_leS (am_leN (am_leN am_leT))))))) (t_L_law_779 d (by omega) _ hrc23 _ _ _ _ _ _ _ _)
def f_L_law_755 (rc23 : Nat × Nat → Option (Nat × Nat) → Option (Nat × Nat) → Option (Nat × Nat) → Int32 → am_H → am_R) (_ : Nat × Nat) (x1 : Option (Nat × Nat)) (x2 : Option (Nat × Nat)) (x3 : Option (Nat × Nat)) (x4 : Int32) (h : am_H) : am_R := f_L_law_2795 rc23 (1, 0) x1 x2 x3 x4 h
theorem t_L_law_755 (d : Nat) (hd : 10 ≤ d) (rc23 : Nat × Nat → Option (Nat × Nat) → Option (Nat × Nat) → Option (Nat × Nat) → Int32 → am_H → am_R) (hrc23 : ∀ x1 x2 x3 x4 h, Sim m_L_law d 23 [some (.inr (.inr (some (1, 0)))), some (.inr (.inr x1)), some (.inr (.inr x2)), some (.inr (.inr x3)), some (.inl x4), none, none] [] h (rc23 (1, 0) x1 x2 x3 x4 h)) (x1 : Option (Nat × Nat)) (x2 : Option (Nat × Nat)) (x3 : Option (Nat × Nat)) (x4 : Int32) (h : am_H) : Sim m_L_law d 755 [some (.inr (.inr (some (1, 0)))), some (.inr (.inr x1)), some (.inr (.inr x2)), some (.inr (.inr x3)), some (.inl x4), none, none] [] h (f_L_law_755 rc23 (1, 0) x1 x2 x3 x4 h) := by
  unfold f_L_law_755
  refine sim_goto 2795 dL_law_755 (by decide) ?_
  exact sim_lv (am_leS (am_leS (am_leS (am_leS (am_leS (am_leN (am_leN am_leT))))))) (t_L_law_2795 d (by omega) _ hrc23 _ _ _ _ _)
def f_L_law_702 (rc23 : Nat × Nat → Option (Nat × Nat) → Option (Nat × Nat) → Option (Nat × Nat) → Int32 → am_H → am_R) (_ : Nat × Nat) (x1 : Option (Nat × Nat)) (x2 : Option (Nat × Nat)) (x3 : Option (Nat × Nat)) (x4 : Int32) (h : am_H) : am_R := m_scr (x4 + (1 : Int32)) h fun v385 => m_bI (f_L_post x1 v385 x3 h) fun h386 v387 => m_scr (x4 + (1 : Int32)) h386 fun v388 => m_ao x2 11 fun a391 => m_bI (f_X11_post a391 v388 h386) fun h389 v390 => m_ao x2 11 fun a394 => m_bI (f_X11_thrown a394 h389) fun h392 v393 => if v393 = v387 then (if v387 = 0 then (m_aL x3 (0 : Int32) h392 fun v395 => if (lg_cmp v395 (Int32.toInt64 v390)) = 0 then (f_L_law_755 rc23 (1, 0) x1 x2 x3 x4 h392) else (m_rz h392 (0 : Int32))) else (f_L_law_755 rc23 (1, 0) x1 x2 x3 x4 h392)) else (m_rz h392 (0 : Int32))
theorem t_L_law_702 (d : Nat) (hd : 10 ≤ d) (rc23 : Nat × Nat → Option (Nat × Nat) → Option (Nat × Nat) → Option (Nat × Nat) → Int32 → am_H → am_R) (hrc23 : ∀ x1 x2 x3 x4 h, Sim m_L_law d 23 [some (.inr (.inr (some (1, 0)))), some (.inr (.inr x1)), some (.inr (.inr x2)), some (.inr (.inr x3)), some (.inl x4), none, none] [] h (rc23 (1, 0) x1 x2 x3 x4 h)) (x1 : Option (Nat × Nat)) (x2 : Option (Nat × Nat)) (x3 : Option (Nat × Nat)) (x4 : Int32) (h : am_H) : Sim m_L_law d 702 [some (.inr (.inr (some (1, 0)))), some (.inr (.inr x1)), some (.inr (.inr x2)), some (.inr (.inr x3)), some (.inl x4), none, none] [] h (f_L_law_702 rc23 (1, 0) x1 x2 x3 x4 h) := by
  unfold f_L_law_702
  refine sim_aload_n dL_law_702 rfl ?_
  refine sim_aload_n dL_law_703 rfl ?_
  refine sim_iload dL_law_704 rfl ?_
  refine sim_iconst (1) dL_law_706 (by decide +kernel) ?_
  refine sim_iadd dL_law_707 ?_
  refine sim_scr dL_law_708 (fun v385 => ?_)
  refine sim_aload_n dL_law_709 rfl ?_
  refine sim_staticX (d - 1) dL_law_710 (k_L_post (d - 1) (by omega) _ _ _ _) q_L_post wm_RL_165 rfl rfl (by omega) (Nat.le_of_ble_eq_true rfl) am_nI (am_rI fun h386 v387 => ?_) am_eI
  refine sim_istore dL_law_713 (Nat.le_of_ble_eq_true rfl) ?_
  refine sim_aload_n dL_law_715 rfl ?_
  refine sim_aload_n dL_law_716 rfl ?_
  refine sim_iload dL_law_717 rfl ?_
  refine sim_iconst (1) dL_law_719 (by decide +kernel) ?_
  refine sim_iadd dL_law_720 ?_
  refine sim_scr dL_law_721 (fun v388 => ?_)
  refine sim_ao1 (fun a391 e => ?_)
  refine sim_virt (d - 1) e dL_law_722 (k_X11_post (d - 1) (by omega) _ _ _) q_X11_post rfl rfl wm_RL_167 rfl rfl (by omega) (Nat.le_of_ble_eq_true rfl) am_nI (am_rI fun h389 v390 => ?_) am_eI
  refine sim_istore dL_law_725 (Nat.le_of_ble_eq_true rfl) ?_
  refine sim_aload_n dL_law_727 rfl ?_
  refine sim_ao0 (fun a394 e => ?_)
  refine sim_virt (d - 1) e dL_law_728 (k_X11_thrown (d - 1) (by omega) _  _) q_X11_thrown rfl rfl wm_RL_142 rfl rfl (by omega) (Nat.le_of_ble_eq_true rfl) am_nI (am_rI fun h392 v393 => ?_) am_eI
  refine sim_iload dL_law_731 rfl ?_
  refine sim_ic_eq 738 dL_law_733 (by decide) (fun c => ?_) (fun c => ?_)
  · refine sim_iload dL_law_738 rfl ?_
    refine sim_if_ne 755 dL_law_740 (by decide) (fun c => ?_) (fun c => ?_)
    · exact sim_lv (am_leS (am_leS (am_leS (am_leS (am_leS (am_leN (am_leN am_leT))))))) (t_L_law_755 d (by omega) _ hrc23 _ _ _ _ _)
    · refine sim_aload_n dL_law_743 rfl ?_
      refine sim_iconst (0) dL_law_744 (by decide +kernel) ?_
      refine sim_aL dL_law_745 (fun v395 => ?_)
      refine sim_iload dL_law_746 rfl ?_
      refine sim_i2l dL_law_748 ?_
      refine sim_lcmp dL_law_749 ?_
      refine sim_if_eq 755 dL_law_750 (by decide) (fun c => ?_) (fun c => ?_)
      · exact sim_lv (am_leS (am_leS (am_leS (am_leS (am_leS (am_leN (am_leN am_leT))))))) (t_L_law_755 d (by omega) _ hrc23 _ _ _ _ _)
      · refine sim_iconst (0) dL_law_753 (by decide +kernel) ?_
        exact sim_zret dL_law_754 rfl
  · refine sim_iconst (0) dL_law_736 (by decide +kernel) ?_
    exact sim_zret dL_law_737 rfl
def f_L_law_699 (rc23 : Nat × Nat → Option (Nat × Nat) → Option (Nat × Nat) → Option (Nat × Nat) → Int32 → am_H → am_R) (_ : Nat × Nat) (x1 : Option (Nat × Nat)) (x2 : Option (Nat × Nat)) (x3 : Option (Nat × Nat)) (x4 : Int32) (h : am_H) : am_R := f_L_law_2795 rc23 (1, 0) x1 x2 x3 x4 h
theorem t_L_law_699 (d : Nat) (hd : 10 ≤ d) (rc23 : Nat × Nat → Option (Nat × Nat) → Option (Nat × Nat) → Option (Nat × Nat) → Int32 → am_H → am_R) (hrc23 : ∀ x1 x2 x3 x4 h, Sim m_L_law d 23 [some (.inr (.inr (some (1, 0)))), some (.inr (.inr x1)), some (.inr (.inr x2)), some (.inr (.inr x3)), some (.inl x4), none, none] [] h (rc23 (1, 0) x1 x2 x3 x4 h)) (x1 : Option (Nat × Nat)) (x2 : Option (Nat × Nat)) (x3 : Option (Nat × Nat)) (x4 : Int32) (h : am_H) : Sim m_L_law d 699 [some (.inr (.inr (some (1, 0)))), some (.inr (.inr x1)), some (.inr (.inr x2)), some (.inr (.inr x3)), some (.inl x4), none, none] [] h (f_L_law_699 rc23 (1, 0) x1 x2 x3 x4 h) := by
  unfold f_L_law_699
  refine sim_goto 2795 dL_law_699 (by decide) ?_
  exact sim_lv (am_leS (am_leS (am_leS (am_leS (am_leS (am_leN (am_leN am_leT))))))) (t_L_law_2795 d (by omega) _ hrc23 _ _ _ _ _)
def f_L_law_646 (rc23 : Nat × Nat → Option (Nat × Nat) → Option (Nat × Nat) → Option (Nat × Nat) → Int32 → am_H → am_R) (_ : Nat × Nat) (x1 : Option (Nat × Nat)) (x2 : Option (Nat × Nat)) (x3 : Option (Nat × Nat)) (x4 : Int32) (h : am_H) : am_R := m_scr (x4 + (1 : Int32)) h fun v396 => m_bI (f_L_chapter x1 v396 x3 h) fun h397 v398 => m_scr (x4 + (1 : Int32)) h397 fun v399 => m_ao x2 11 fun a402 => m_bI (f_X11_chapter a402 v399 h397) fun h400 v401 => m_ao x2 11 fun a405 => m_bI (f_X11_thrown a405 h400) fun h403 v404 => if v404 = v398 then (if v398 = 0 then (m_aL x3 (0 : Int32) h403 fun v406 => if (lg_cmp v406 (Int32.toInt64 v401)) = 0 then (f_L_law_699 rc23 (1, 0) x1 x2 x3 x4 h403) else (m_rz h403 (0 : Int32))) else (f_L_law_699 rc23 (1, 0) x1 x2 x3 x4 h403)) else (m_rz h403 (0 : Int32))
theorem t_L_law_646 (d : Nat) (hd : 10 ≤ d) (rc23 : Nat × Nat → Option (Nat × Nat) → Option (Nat × Nat) → Option (Nat × Nat) → Int32 → am_H → am_R) (hrc23 : ∀ x1 x2 x3 x4 h, Sim m_L_law d 23 [some (.inr (.inr (some (1, 0)))), some (.inr (.inr x1)), some (.inr (.inr x2)), some (.inr (.inr x3)), some (.inl x4), none, none] [] h (rc23 (1, 0) x1 x2 x3 x4 h)) (x1 : Option (Nat × Nat)) (x2 : Option (Nat × Nat)) (x3 : Option (Nat × Nat)) (x4 : Int32) (h : am_H) : Sim m_L_law d 646 [some (.inr (.inr (some (1, 0)))), some (.inr (.inr x1)), some (.inr (.inr x2)), some (.inr (.inr x3)), some (.inl x4), none, none] [] h (f_L_law_646 rc23 (1, 0) x1 x2 x3 x4 h) := by
  unfold f_L_law_646
  refine sim_aload_n dL_law_646 rfl ?_
  refine sim_aload_n dL_law_647 rfl ?_
  refine sim_iload dL_law_648 rfl ?_
  refine sim_iconst (1) dL_law_650 (by decide +kernel) ?_
  refine sim_iadd dL_law_651 ?_
  refine sim_scr dL_law_652 (fun v396 => ?_)
  refine sim_aload_n dL_law_653 rfl ?_
  refine sim_staticX (d - 1) dL_law_654 (k_L_chapter (d - 1) (by omega) _ _ _ _) q_L_chapter wm_RL_162 rfl rfl (by omega) (Nat.le_of_ble_eq_true rfl) am_nI (am_rI fun h397 v398 => ?_) am_eI
  refine sim_istore dL_law_657 (Nat.le_of_ble_eq_true rfl) ?_
  refine sim_aload_n dL_law_659 rfl ?_
  refine sim_aload_n dL_law_660 rfl ?_
  refine sim_iload dL_law_661 rfl ?_
  refine sim_iconst (1) dL_law_663 (by decide +kernel) ?_
  refine sim_iadd dL_law_664 ?_
  refine sim_scr dL_law_665 (fun v399 => ?_)
  refine sim_ao1 (fun a402 e => ?_)
  refine sim_virt (d - 1) e dL_law_666 (k_X11_chapter (d - 1) (by omega) _ _ _) q_X11_chapter rfl rfl wm_RL_164 rfl rfl (by omega) (Nat.le_of_ble_eq_true rfl) am_nI (am_rI fun h400 v401 => ?_) am_eI
  refine sim_istore dL_law_669 (Nat.le_of_ble_eq_true rfl) ?_
  refine sim_aload_n dL_law_671 rfl ?_
  refine sim_ao0 (fun a405 e => ?_)
  refine sim_virt (d - 1) e dL_law_672 (k_X11_thrown (d - 1) (by omega) _  _) q_X11_thrown rfl rfl wm_RL_142 rfl rfl (by omega) (Nat.le_of_ble_eq_true rfl) am_nI (am_rI fun h403 v404 => ?_) am_eI
  refine sim_iload dL_law_675 rfl ?_
  refine sim_ic_eq 682 dL_law_677 (by decide) (fun c => ?_) (fun c => ?_)
  · refine sim_iload dL_law_682 rfl ?_
    refine sim_if_ne 699 dL_law_684 (by decide) (fun c => ?_) (fun c => ?_)
    · exact sim_lv (am_leS (am_leS (am_leS (am_leS (am_leS (am_leN (am_leN am_leT))))))) (t_L_law_699 d (by omega) _ hrc23 _ _ _ _ _)
    · refine sim_aload_n dL_law_687 rfl ?_
      refine sim_iconst (0) dL_law_688 (by decide +kernel) ?_
      refine sim_aL dL_law_689 (fun v406 => ?_)
      refine sim_iload dL_law_690 rfl ?_
      refine sim_i2l dL_law_692 ?_
      refine sim_lcmp dL_law_693 ?_
      refine sim_if_eq 699 dL_law_694 (by decide) (fun c => ?_) (fun c => ?_)
      · exact sim_lv (am_leS (am_leS (am_leS (am_leS (am_leS (am_leN (am_leN am_leT))))))) (t_L_law_699 d (by omega) _ hrc23 _ _ _ _ _)
      · refine sim_iconst (0) dL_law_697 (by decide +kernel) ?_
        exact sim_zret dL_law_698 rfl
  · refine sim_iconst (0) dL_law_680 (by decide +kernel) ?_
    exact sim_zret dL_law_681 rfl
def f_L_law_643 (rc23 : Nat × Nat → Option (Nat × Nat) → Option (Nat × Nat) → Option (Nat × Nat) → Int32 → am_H → am_R) (_ : Nat × Nat) (x1 : Option (Nat × Nat)) (x2 : Option (Nat × Nat)) (x3 : Option (Nat × Nat)) (x4 : Int32) (h : am_H) : am_R := f_L_law_2795 rc23 (1, 0) x1 x2 x3 x4 h
theorem t_L_law_643 (d : Nat) (hd : 10 ≤ d) (rc23 : Nat × Nat → Option (Nat × Nat) → Option (Nat × Nat) → Option (Nat × Nat) → Int32 → am_H → am_R) (hrc23 : ∀ x1 x2 x3 x4 h, Sim m_L_law d 23 [some (.inr (.inr (some (1, 0)))), some (.inr (.inr x1)), some (.inr (.inr x2)), some (.inr (.inr x3)), some (.inl x4), none, none] [] h (rc23 (1, 0) x1 x2 x3 x4 h)) (x1 : Option (Nat × Nat)) (x2 : Option (Nat × Nat)) (x3 : Option (Nat × Nat)) (x4 : Int32) (h : am_H) : Sim m_L_law d 643 [some (.inr (.inr (some (1, 0)))), some (.inr (.inr x1)), some (.inr (.inr x2)), some (.inr (.inr x3)), some (.inl x4), none, none] [] h (f_L_law_643 rc23 (1, 0) x1 x2 x3 x4 h) := by
  unfold f_L_law_643
  refine sim_goto 2795 dL_law_643 (by decide) ?_
  exact sim_lv (am_leS (am_leS (am_leS (am_leS (am_leS (am_leN (am_leN am_leT))))))) (t_L_law_2795 d (by omega) _ hrc23 _ _ _ _ _)
def f_L_law_578 (rc23 : Nat × Nat → Option (Nat × Nat) → Option (Nat × Nat) → Option (Nat × Nat) → Int32 → am_H → am_R) (_ : Nat × Nat) (x1 : Option (Nat × Nat)) (x2 : Option (Nat × Nat)) (x3 : Option (Nat × Nat)) (x4 : Int32) (h : am_H) : am_R := m_scr (x4 + (1 : Int32)) h fun v407 => m_scr (x4 + (2 : Int32)) h fun v408 => m_bI (f_L_leave x1 v407 v408 x3 h) fun h409 v410 => m_scr (x4 + (1 : Int32)) h409 fun v411 => m_scr (x4 + (2 : Int32)) h409 fun v412 => m_ao x2 11 fun a415 => m_bI (f_X11_leave a415 v411 v412 h409) fun h413 v414 => m_ao x2 11 fun a418 => m_bI (f_X11_thrown a418 h413) fun h416 v417 => if v417 = v410 then (if v410 = 0 then (m_aL x3 (0 : Int32) h416 fun v419 => if (lg_cmp v419 (Int32.toInt64 v414)) = 0 then (f_L_law_643 rc23 (1, 0) x1 x2 x3 x4 h416) else (m_rz h416 (0 : Int32))) else (f_L_law_643 rc23 (1, 0) x1 x2 x3 x4 h416)) else (m_rz h416 (0 : Int32))
theorem t_L_law_578 (d : Nat) (hd : 10 ≤ d) (rc23 : Nat × Nat → Option (Nat × Nat) → Option (Nat × Nat) → Option (Nat × Nat) → Int32 → am_H → am_R) (hrc23 : ∀ x1 x2 x3 x4 h, Sim m_L_law d 23 [some (.inr (.inr (some (1, 0)))), some (.inr (.inr x1)), some (.inr (.inr x2)), some (.inr (.inr x3)), some (.inl x4), none, none] [] h (rc23 (1, 0) x1 x2 x3 x4 h)) (x1 : Option (Nat × Nat)) (x2 : Option (Nat × Nat)) (x3 : Option (Nat × Nat)) (x4 : Int32) (h : am_H) : Sim m_L_law d 578 [some (.inr (.inr (some (1, 0)))), some (.inr (.inr x1)), some (.inr (.inr x2)), some (.inr (.inr x3)), some (.inl x4), none, none] [] h (f_L_law_578 rc23 (1, 0) x1 x2 x3 x4 h) := by
  unfold f_L_law_578
  refine sim_aload_n dL_law_578 rfl ?_
  refine sim_aload_n dL_law_579 rfl ?_
  refine sim_iload dL_law_580 rfl ?_
  refine sim_iconst (1) dL_law_582 (by decide +kernel) ?_
  refine sim_iadd dL_law_583 ?_
  refine sim_scr dL_law_584 (fun v407 => ?_)
  refine sim_aload_n dL_law_585 rfl ?_
  refine sim_iload dL_law_586 rfl ?_
  refine sim_iconst (2) dL_law_588 (by decide +kernel) ?_
  refine sim_iadd dL_law_589 ?_
  refine sim_scr dL_law_590 (fun v408 => ?_)
  refine sim_aload_n dL_law_591 rfl ?_
  refine sim_staticX (d - 1) dL_law_592 (k_L_leave (d - 1) (by omega) _ _ _ _ _) q_L_leave wm_RL_159 rfl rfl (by omega) (Nat.le_of_ble_eq_true rfl) am_nI (am_rI fun h409 v410 => ?_) am_eI
  refine sim_istore dL_law_595 (Nat.le_of_ble_eq_true rfl) ?_
  refine sim_aload_n dL_law_597 rfl ?_
  refine sim_aload_n dL_law_598 rfl ?_
  refine sim_iload dL_law_599 rfl ?_
  refine sim_iconst (1) dL_law_601 (by decide +kernel) ?_
  refine sim_iadd dL_law_602 ?_
  refine sim_scr dL_law_603 (fun v411 => ?_)
  refine sim_aload_n dL_law_604 rfl ?_
  refine sim_iload dL_law_605 rfl ?_
  refine sim_iconst (2) dL_law_607 (by decide +kernel) ?_
  refine sim_iadd dL_law_608 ?_
  refine sim_scr dL_law_609 (fun v412 => ?_)
  refine sim_ao2 (fun a415 e => ?_)
  refine sim_virt (d - 1) e dL_law_610 (k_X11_leave (d - 1) (by omega) _ _ _ _) q_X11_leave rfl rfl wm_RL_161 rfl rfl (by omega) (Nat.le_of_ble_eq_true rfl) am_nI (am_rI fun h413 v414 => ?_) am_eI
  refine sim_istore dL_law_613 (Nat.le_of_ble_eq_true rfl) ?_
  refine sim_aload_n dL_law_615 rfl ?_
  refine sim_ao0 (fun a418 e => ?_)
  refine sim_virt (d - 1) e dL_law_616 (k_X11_thrown (d - 1) (by omega) _  _) q_X11_thrown rfl rfl wm_RL_142 rfl rfl (by omega) (Nat.le_of_ble_eq_true rfl) am_nI (am_rI fun h416 v417 => ?_) am_eI
  refine sim_iload dL_law_619 rfl ?_
  refine sim_ic_eq 626 dL_law_621 (by decide) (fun c => ?_) (fun c => ?_)
  · refine sim_iload dL_law_626 rfl ?_
    refine sim_if_ne 643 dL_law_628 (by decide) (fun c => ?_) (fun c => ?_)
    · exact sim_lv (am_leS (am_leS (am_leS (am_leS (am_leS (am_leN (am_leN am_leT))))))) (t_L_law_643 d (by omega) _ hrc23 _ _ _ _ _)
    · refine sim_aload_n dL_law_631 rfl ?_
      refine sim_iconst (0) dL_law_632 (by decide +kernel) ?_
      refine sim_aL dL_law_633 (fun v419 => ?_)
      refine sim_iload dL_law_634 rfl ?_
      refine sim_i2l dL_law_636 ?_
      refine sim_lcmp dL_law_637 ?_
      refine sim_if_eq 643 dL_law_638 (by decide) (fun c => ?_) (fun c => ?_)
      · exact sim_lv (am_leS (am_leS (am_leS (am_leS (am_leS (am_leN (am_leN am_leT))))))) (t_L_law_643 d (by omega) _ hrc23 _ _ _ _ _)
      · refine sim_iconst (0) dL_law_641 (by decide +kernel) ?_
        exact sim_zret dL_law_642 rfl
  · refine sim_iconst (0) dL_law_624 (by decide +kernel) ?_
    exact sim_zret dL_law_625 rfl
def f_L_law_575 (rc23 : Nat × Nat → Option (Nat × Nat) → Option (Nat × Nat) → Option (Nat × Nat) → Int32 → am_H → am_R) (_ : Nat × Nat) (x1 : Option (Nat × Nat)) (x2 : Option (Nat × Nat)) (x3 : Option (Nat × Nat)) (x4 : Int32) (h : am_H) : am_R := f_L_law_2795 rc23 (1, 0) x1 x2 x3 x4 h
theorem t_L_law_575 (d : Nat) (hd : 10 ≤ d) (rc23 : Nat × Nat → Option (Nat × Nat) → Option (Nat × Nat) → Option (Nat × Nat) → Int32 → am_H → am_R) (hrc23 : ∀ x1 x2 x3 x4 h, Sim m_L_law d 23 [some (.inr (.inr (some (1, 0)))), some (.inr (.inr x1)), some (.inr (.inr x2)), some (.inr (.inr x3)), some (.inl x4), none, none] [] h (rc23 (1, 0) x1 x2 x3 x4 h)) (x1 : Option (Nat × Nat)) (x2 : Option (Nat × Nat)) (x3 : Option (Nat × Nat)) (x4 : Int32) (h : am_H) : Sim m_L_law d 575 [some (.inr (.inr (some (1, 0)))), some (.inr (.inr x1)), some (.inr (.inr x2)), some (.inr (.inr x3)), some (.inl x4), none, none] [] h (f_L_law_575 rc23 (1, 0) x1 x2 x3 x4 h) := by
  unfold f_L_law_575
  refine sim_goto 2795 dL_law_575 (by decide) ?_
  exact sim_lv (am_leS (am_leS (am_leS (am_leS (am_leS (am_leN (am_leN am_leT))))))) (t_L_law_2795 d (by omega) _ hrc23 _ _ _ _ _)
def f_L_law_510 (rc23 : Nat × Nat → Option (Nat × Nat) → Option (Nat × Nat) → Option (Nat × Nat) → Int32 → am_H → am_R) (_ : Nat × Nat) (x1 : Option (Nat × Nat)) (x2 : Option (Nat × Nat)) (x3 : Option (Nat × Nat)) (x4 : Int32) (h : am_H) : am_R := m_scr (x4 + (1 : Int32)) h fun v420 => m_scr (x4 + (2 : Int32)) h fun v421 => m_bI (f_L_join x1 v420 v421 x3 h) fun h422 v423 => m_scr (x4 + (1 : Int32)) h422 fun v424 => m_scr (x4 + (2 : Int32)) h422 fun v425 => m_ao x2 11 fun a428 => m_bI (f_X11_join a428 v424 v425 h422) fun h426 v427 => m_ao x2 11 fun a431 => m_bI (f_X11_thrown a431 h426) fun h429 v430 => if v430 = v423 then (if v423 = 0 then (m_aL x3 (0 : Int32) h429 fun v432 => if (lg_cmp v432 (Int32.toInt64 v427)) = 0 then (f_L_law_575 rc23 (1, 0) x1 x2 x3 x4 h429) else (m_rz h429 (0 : Int32))) else (f_L_law_575 rc23 (1, 0) x1 x2 x3 x4 h429)) else (m_rz h429 (0 : Int32))
theorem t_L_law_510 (d : Nat) (hd : 10 ≤ d) (rc23 : Nat × Nat → Option (Nat × Nat) → Option (Nat × Nat) → Option (Nat × Nat) → Int32 → am_H → am_R) (hrc23 : ∀ x1 x2 x3 x4 h, Sim m_L_law d 23 [some (.inr (.inr (some (1, 0)))), some (.inr (.inr x1)), some (.inr (.inr x2)), some (.inr (.inr x3)), some (.inl x4), none, none] [] h (rc23 (1, 0) x1 x2 x3 x4 h)) (x1 : Option (Nat × Nat)) (x2 : Option (Nat × Nat)) (x3 : Option (Nat × Nat)) (x4 : Int32) (h : am_H) : Sim m_L_law d 510 [some (.inr (.inr (some (1, 0)))), some (.inr (.inr x1)), some (.inr (.inr x2)), some (.inr (.inr x3)), some (.inl x4), none, none] [] h (f_L_law_510 rc23 (1, 0) x1 x2 x3 x4 h) := by
  unfold f_L_law_510
  refine sim_aload_n dL_law_510 rfl ?_
  refine sim_aload_n dL_law_511 rfl ?_
  refine sim_iload dL_law_512 rfl ?_
  refine sim_iconst (1) dL_law_514 (by decide +kernel) ?_
  refine sim_iadd dL_law_515 ?_
  refine sim_scr dL_law_516 (fun v420 => ?_)
  refine sim_aload_n dL_law_517 rfl ?_
  refine sim_iload dL_law_518 rfl ?_
  refine sim_iconst (2) dL_law_520 (by decide +kernel) ?_
  refine sim_iadd dL_law_521 ?_
  refine sim_scr dL_law_522 (fun v421 => ?_)
  refine sim_aload_n dL_law_523 rfl ?_
  refine sim_staticX (d - 1) dL_law_524 (k_L_join (d - 1) (by omega) _ _ _ _ _) q_L_join wm_RL_156 rfl rfl (by omega) (Nat.le_of_ble_eq_true rfl) am_nI (am_rI fun h422 v423 => ?_) am_eI
  refine sim_istore dL_law_527 (Nat.le_of_ble_eq_true rfl) ?_
  refine sim_aload_n dL_law_529 rfl ?_
  refine sim_aload_n dL_law_530 rfl ?_
  refine sim_iload dL_law_531 rfl ?_
  refine sim_iconst (1) dL_law_533 (by decide +kernel) ?_
  refine sim_iadd dL_law_534 ?_
  refine sim_scr dL_law_535 (fun v424 => ?_)
  refine sim_aload_n dL_law_536 rfl ?_
  refine sim_iload dL_law_537 rfl ?_
  refine sim_iconst (2) dL_law_539 (by decide +kernel) ?_
  refine sim_iadd dL_law_540 ?_
  refine sim_scr dL_law_541 (fun v425 => ?_)
  refine sim_ao2 (fun a428 e => ?_)
  refine sim_virt (d - 1) e dL_law_542 (k_X11_join (d - 1) (by omega) _ _ _ _) q_X11_join rfl rfl wm_RL_158 rfl rfl (by omega) (Nat.le_of_ble_eq_true rfl) am_nI (am_rI fun h426 v427 => ?_) am_eI
  refine sim_istore dL_law_545 (Nat.le_of_ble_eq_true rfl) ?_
  refine sim_aload_n dL_law_547 rfl ?_
  refine sim_ao0 (fun a431 e => ?_)
  refine sim_virt (d - 1) e dL_law_548 (k_X11_thrown (d - 1) (by omega) _  _) q_X11_thrown rfl rfl wm_RL_142 rfl rfl (by omega) (Nat.le_of_ble_eq_true rfl) am_nI (am_rI fun h429 v430 => ?_) am_eI
  refine sim_iload dL_law_551 rfl ?_
  refine sim_ic_eq 558 dL_law_553 (by decide) (fun c => ?_) (fun c => ?_)
  · refine sim_iload dL_law_558 rfl ?_
    refine sim_if_ne 575 dL_law_560 (by decide) (fun c => ?_) (fun c => ?_)
    · exact sim_lv (am_leS (am_leS (am_leS (am_leS (am_leS (am_leN (am_leN am_leT))))))) (t_L_law_575 d (by omega) _ hrc23 _ _ _ _ _)
    · refine sim_aload_n dL_law_563 rfl ?_
      refine sim_iconst (0) dL_law_564 (by decide +kernel) ?_
      refine sim_aL dL_law_565 (fun v432 => ?_)
      refine sim_iload dL_law_566 rfl ?_
      refine sim_i2l dL_law_568 ?_
      refine sim_lcmp dL_law_569 ?_
      refine sim_if_eq 575 dL_law_570 (by decide) (fun c => ?_) (fun c => ?_)
      · exact sim_lv (am_leS (am_leS (am_leS (am_leS (am_leS (am_leN (am_leN am_leT))))))) (t_L_law_575 d (by omega) _ hrc23 _ _ _ _ _)
      · refine sim_iconst (0) dL_law_573 (by decide +kernel) ?_
        exact sim_zret dL_law_574 rfl
  · refine sim_iconst (0) dL_law_556 (by decide +kernel) ?_
    exact sim_zret dL_law_557 rfl
def f_L_law_507 (rc23 : Nat × Nat → Option (Nat × Nat) → Option (Nat × Nat) → Option (Nat × Nat) → Int32 → am_H → am_R) (_ : Nat × Nat) (x1 : Option (Nat × Nat)) (x2 : Option (Nat × Nat)) (x3 : Option (Nat × Nat)) (x4 : Int32) (h : am_H) : am_R := f_L_law_2795 rc23 (1, 0) x1 x2 x3 x4 h
theorem t_L_law_507 (d : Nat) (hd : 10 ≤ d) (rc23 : Nat × Nat → Option (Nat × Nat) → Option (Nat × Nat) → Option (Nat × Nat) → Int32 → am_H → am_R) (hrc23 : ∀ x1 x2 x3 x4 h, Sim m_L_law d 23 [some (.inr (.inr (some (1, 0)))), some (.inr (.inr x1)), some (.inr (.inr x2)), some (.inr (.inr x3)), some (.inl x4), none, none] [] h (rc23 (1, 0) x1 x2 x3 x4 h)) (x1 : Option (Nat × Nat)) (x2 : Option (Nat × Nat)) (x3 : Option (Nat × Nat)) (x4 : Int32) (h : am_H) : Sim m_L_law d 507 [some (.inr (.inr (some (1, 0)))), some (.inr (.inr x1)), some (.inr (.inr x2)), some (.inr (.inr x3)), some (.inl x4), none, none] [] h (f_L_law_507 rc23 (1, 0) x1 x2 x3 x4 h) := by
  unfold f_L_law_507
  refine sim_goto 2795 dL_law_507 (by decide) ?_
  exact sim_lv (am_leS (am_leS (am_leS (am_leS (am_leS (am_leN (am_leN am_leT))))))) (t_L_law_2795 d (by omega) _ hrc23 _ _ _ _ _)
def f_L_law_442 (rc23 : Nat × Nat → Option (Nat × Nat) → Option (Nat × Nat) → Option (Nat × Nat) → Int32 → am_H → am_R) (_ : Nat × Nat) (x1 : Option (Nat × Nat)) (x2 : Option (Nat × Nat)) (x3 : Option (Nat × Nat)) (x4 : Int32) (h : am_H) : am_R := m_scr (x4 + (1 : Int32)) h fun v433 => m_scr (x4 + (2 : Int32)) h fun v434 => m_bI (f_L_work x1 v433 v434 x3 h) fun h435 v436 => m_scr (x4 + (1 : Int32)) h435 fun v437 => m_scr (x4 + (2 : Int32)) h435 fun v438 => m_ao x2 11 fun a441 => m_bI (f_X11_work a441 v437 v438 h435) fun h439 v440 => m_ao x2 11 fun a444 => m_bI (f_X11_thrown a444 h439) fun h442 v443 => if v443 = v436 then (if v436 = 0 then (m_aL x3 (0 : Int32) h442 fun v445 => if (lg_cmp v445 (Int32.toInt64 v440)) = 0 then (f_L_law_507 rc23 (1, 0) x1 x2 x3 x4 h442) else (m_rz h442 (0 : Int32))) else (f_L_law_507 rc23 (1, 0) x1 x2 x3 x4 h442)) else (m_rz h442 (0 : Int32))
theorem t_L_law_442 (d : Nat) (hd : 10 ≤ d) (rc23 : Nat × Nat → Option (Nat × Nat) → Option (Nat × Nat) → Option (Nat × Nat) → Int32 → am_H → am_R) (hrc23 : ∀ x1 x2 x3 x4 h, Sim m_L_law d 23 [some (.inr (.inr (some (1, 0)))), some (.inr (.inr x1)), some (.inr (.inr x2)), some (.inr (.inr x3)), some (.inl x4), none, none] [] h (rc23 (1, 0) x1 x2 x3 x4 h)) (x1 : Option (Nat × Nat)) (x2 : Option (Nat × Nat)) (x3 : Option (Nat × Nat)) (x4 : Int32) (h : am_H) : Sim m_L_law d 442 [some (.inr (.inr (some (1, 0)))), some (.inr (.inr x1)), some (.inr (.inr x2)), some (.inr (.inr x3)), some (.inl x4), none, none] [] h (f_L_law_442 rc23 (1, 0) x1 x2 x3 x4 h) := by
  unfold f_L_law_442
  refine sim_aload_n dL_law_442 rfl ?_
  refine sim_aload_n dL_law_443 rfl ?_
  refine sim_iload dL_law_444 rfl ?_
  refine sim_iconst (1) dL_law_446 (by decide +kernel) ?_
  refine sim_iadd dL_law_447 ?_
  refine sim_scr dL_law_448 (fun v433 => ?_)
  refine sim_aload_n dL_law_449 rfl ?_
  refine sim_iload dL_law_450 rfl ?_
  refine sim_iconst (2) dL_law_452 (by decide +kernel) ?_
  refine sim_iadd dL_law_453 ?_
  refine sim_scr dL_law_454 (fun v434 => ?_)
  refine sim_aload_n dL_law_455 rfl ?_
  refine sim_staticX (d - 1) dL_law_456 (k_L_work (d - 1) (by omega) _ _ _ _ _) q_L_work wm_RL_153 rfl rfl (by omega) (Nat.le_of_ble_eq_true rfl) am_nI (am_rI fun h435 v436 => ?_) am_eI
  refine sim_istore dL_law_459 (Nat.le_of_ble_eq_true rfl) ?_
  refine sim_aload_n dL_law_461 rfl ?_
  refine sim_aload_n dL_law_462 rfl ?_
  refine sim_iload dL_law_463 rfl ?_
  refine sim_iconst (1) dL_law_465 (by decide +kernel) ?_
  refine sim_iadd dL_law_466 ?_
  refine sim_scr dL_law_467 (fun v437 => ?_)
  refine sim_aload_n dL_law_468 rfl ?_
  refine sim_iload dL_law_469 rfl ?_
  refine sim_iconst (2) dL_law_471 (by decide +kernel) ?_
  refine sim_iadd dL_law_472 ?_
  refine sim_scr dL_law_473 (fun v438 => ?_)
  refine sim_ao2 (fun a441 e => ?_)
  refine sim_virt (d - 1) e dL_law_474 (k_X11_work (d - 1) (by omega) _ _ _ _) q_X11_work rfl rfl wm_RL_155 rfl rfl (by omega) (Nat.le_of_ble_eq_true rfl) am_nI (am_rI fun h439 v440 => ?_) am_eI
  refine sim_istore dL_law_477 (Nat.le_of_ble_eq_true rfl) ?_
  refine sim_aload_n dL_law_479 rfl ?_
  refine sim_ao0 (fun a444 e => ?_)
  refine sim_virt (d - 1) e dL_law_480 (k_X11_thrown (d - 1) (by omega) _  _) q_X11_thrown rfl rfl wm_RL_142 rfl rfl (by omega) (Nat.le_of_ble_eq_true rfl) am_nI (am_rI fun h442 v443 => ?_) am_eI
  refine sim_iload dL_law_483 rfl ?_
  refine sim_ic_eq 490 dL_law_485 (by decide) (fun c => ?_) (fun c => ?_)
  · refine sim_iload dL_law_490 rfl ?_
    refine sim_if_ne 507 dL_law_492 (by decide) (fun c => ?_) (fun c => ?_)
    · exact sim_lv (am_leS (am_leS (am_leS (am_leS (am_leS (am_leN (am_leN am_leT))))))) (t_L_law_507 d (by omega) _ hrc23 _ _ _ _ _)
    · refine sim_aload_n dL_law_495 rfl ?_
      refine sim_iconst (0) dL_law_496 (by decide +kernel) ?_
      refine sim_aL dL_law_497 (fun v445 => ?_)
      refine sim_iload dL_law_498 rfl ?_
      refine sim_i2l dL_law_500 ?_
      refine sim_lcmp dL_law_501 ?_
      refine sim_if_eq 507 dL_law_502 (by decide) (fun c => ?_) (fun c => ?_)
      · exact sim_lv (am_leS (am_leS (am_leS (am_leS (am_leS (am_leN (am_leN am_leT))))))) (t_L_law_507 d (by omega) _ hrc23 _ _ _ _ _)
      · refine sim_iconst (0) dL_law_505 (by decide +kernel) ?_
        exact sim_zret dL_law_506 rfl
  · refine sim_iconst (0) dL_law_488 (by decide +kernel) ?_
    exact sim_zret dL_law_489 rfl
def f_L_law_439 (rc23 : Nat × Nat → Option (Nat × Nat) → Option (Nat × Nat) → Option (Nat × Nat) → Int32 → am_H → am_R) (_ : Nat × Nat) (x1 : Option (Nat × Nat)) (x2 : Option (Nat × Nat)) (x3 : Option (Nat × Nat)) (x4 : Int32) (h : am_H) : am_R := f_L_law_2795 rc23 (1, 0) x1 x2 x3 x4 h
theorem t_L_law_439 (d : Nat) (hd : 10 ≤ d) (rc23 : Nat × Nat → Option (Nat × Nat) → Option (Nat × Nat) → Option (Nat × Nat) → Int32 → am_H → am_R) (hrc23 : ∀ x1 x2 x3 x4 h, Sim m_L_law d 23 [some (.inr (.inr (some (1, 0)))), some (.inr (.inr x1)), some (.inr (.inr x2)), some (.inr (.inr x3)), some (.inl x4), none, none] [] h (rc23 (1, 0) x1 x2 x3 x4 h)) (x1 : Option (Nat × Nat)) (x2 : Option (Nat × Nat)) (x3 : Option (Nat × Nat)) (x4 : Int32) (h : am_H) : Sim m_L_law d 439 [some (.inr (.inr (some (1, 0)))), some (.inr (.inr x1)), some (.inr (.inr x2)), some (.inr (.inr x3)), some (.inl x4), none, none] [] h (f_L_law_439 rc23 (1, 0) x1 x2 x3 x4 h) := by
  unfold f_L_law_439
  refine sim_goto 2795 dL_law_439 (by decide) ?_
  exact sim_lv (am_leS (am_leS (am_leS (am_leS (am_leS (am_leN (am_leN am_leT))))))) (t_L_law_2795 d (by omega) _ hrc23 _ _ _ _ _)
def f_L_law_433 (rc23 : Nat × Nat → Option (Nat × Nat) → Option (Nat × Nat) → Option (Nat × Nat) → Int32 → am_H → am_R) (_ : Nat × Nat) (x1 : Option (Nat × Nat)) (x2 : Option (Nat × Nat)) (x3 : Option (Nat × Nat)) (x4 : Int32) (s0 : Int64) (s1 : Int64) (h : am_H) : am_R := if (lg_cmp s1 s0) = 0 then (f_L_law_439 rc23 (1, 0) x1 x2 x3 x4 h) else (m_rz h (0 : Int32))
theorem t_L_law_433 (d : Nat) (hd : 10 ≤ d) (rc23 : Nat × Nat → Option (Nat × Nat) → Option (Nat × Nat) → Option (Nat × Nat) → Int32 → am_H → am_R) (hrc23 : ∀ x1 x2 x3 x4 h, Sim m_L_law d 23 [some (.inr (.inr (some (1, 0)))), some (.inr (.inr x1)), some (.inr (.inr x2)), some (.inr (.inr x3)), some (.inl x4), none, none] [] h (rc23 (1, 0) x1 x2 x3 x4 h)) (x1 : Option (Nat × Nat)) (x2 : Option (Nat × Nat)) (x3 : Option (Nat × Nat)) (x4 : Int32) (s0 : Int64) (s1 : Int64) (h : am_H) : Sim m_L_law d 433 [some (.inr (.inr (some (1, 0)))), some (.inr (.inr x1)), some (.inr (.inr x2)), some (.inr (.inr x3)), some (.inl x4), none, none] [.inr (.inl s0), .inr (.inl s1)] h (f_L_law_433 rc23 (1, 0) x1 x2 x3 x4 s0 s1 h) := by
  unfold f_L_law_433
  refine sim_lcmp dL_law_433 ?_
  refine sim_if_eq 439 dL_law_434 (by decide) (fun c => ?_) (fun c => ?_)
  · exact sim_lv (am_leS (am_leS (am_leS (am_leS (am_leS (am_leN (am_leN am_leT))))))) (t_L_law_439 d (by omega) _ hrc23 _ _ _ _ _)
  · refine sim_iconst (0) dL_law_437 (by decide +kernel) ?_
    exact sim_zret dL_law_438 rfl
def f_L_law_367 (rc23 : Nat × Nat → Option (Nat × Nat) → Option (Nat × Nat) → Option (Nat × Nat) → Int32 → am_H → am_R) (_ : Nat × Nat) (x1 : Option (Nat × Nat)) (x2 : Option (Nat × Nat)) (x3 : Option (Nat × Nat)) (x4 : Int32) (h : am_H) : am_R := m_scr (x4 + (1 : Int32)) h fun v446 => m_scr (x4 + (2 : Int32)) h fun v447 => m_bI (f_L_same x1 v446 v447 x3 h) fun h448 v449 => m_scr (x4 + (1 : Int32)) h448 fun v450 => m_scr (x4 + (2 : Int32)) h448 fun v451 => m_ao x2 11 fun a454 => m_bI (f_X11_same a454 v450 v451 h448) fun h452 v453 => m_ao x2 11 fun a457 => m_bI (f_X11_thrown a457 h452) fun h455 v456 => if v456 = v449 then (if v449 = 0 then (m_aL x3 (0 : Int32) h455 fun v458 => if v453 = 0 then (f_L_law_433 rc23 (1, 0) x1 x2 x3 x4 (0 : Int64) v458 h455) else (f_L_law_433 rc23 (1, 0) x1 x2 x3 x4 (1 : Int64) v458 h455)) else (f_L_law_439 rc23 (1, 0) x1 x2 x3 x4 h455)) else (m_rz h455 (0 : Int32))
theorem t_L_law_367 (d : Nat) (hd : 10 ≤ d) (rc23 : Nat × Nat → Option (Nat × Nat) → Option (Nat × Nat) → Option (Nat × Nat) → Int32 → am_H → am_R) (hrc23 : ∀ x1 x2 x3 x4 h, Sim m_L_law d 23 [some (.inr (.inr (some (1, 0)))), some (.inr (.inr x1)), some (.inr (.inr x2)), some (.inr (.inr x3)), some (.inl x4), none, none] [] h (rc23 (1, 0) x1 x2 x3 x4 h)) (x1 : Option (Nat × Nat)) (x2 : Option (Nat × Nat)) (x3 : Option (Nat × Nat)) (x4 : Int32) (h : am_H) : Sim m_L_law d 367 [some (.inr (.inr (some (1, 0)))), some (.inr (.inr x1)), some (.inr (.inr x2)), some (.inr (.inr x3)), some (.inl x4), none, none] [] h (f_L_law_367 rc23 (1, 0) x1 x2 x3 x4 h) := by
  unfold f_L_law_367
  refine sim_aload_n dL_law_367 rfl ?_
  refine sim_aload_n dL_law_368 rfl ?_
  refine sim_iload dL_law_369 rfl ?_
  refine sim_iconst (1) dL_law_371 (by decide +kernel) ?_
  refine sim_iadd dL_law_372 ?_
  refine sim_scr dL_law_373 (fun v446 => ?_)
  refine sim_aload_n dL_law_374 rfl ?_
  refine sim_iload dL_law_375 rfl ?_
  refine sim_iconst (2) dL_law_377 (by decide +kernel) ?_
  refine sim_iadd dL_law_378 ?_
  refine sim_scr dL_law_379 (fun v447 => ?_)
  refine sim_aload_n dL_law_380 rfl ?_
  refine sim_staticX (d - 1) dL_law_381 (k_L_same (d - 1) (by omega) _ _ _ _ _) q_L_same wm_RL_149 rfl rfl (by omega) (Nat.le_of_ble_eq_true rfl) am_nI (am_rI fun h448 v449 => ?_) am_eI
  refine sim_istore dL_law_384 (Nat.le_of_ble_eq_true rfl) ?_
  refine sim_aload_n dL_law_386 rfl ?_
  refine sim_aload_n dL_law_387 rfl ?_
  refine sim_iload dL_law_388 rfl ?_
  refine sim_iconst (1) dL_law_390 (by decide +kernel) ?_
  refine sim_iadd dL_law_391 ?_
  refine sim_scr dL_law_392 (fun v450 => ?_)
  refine sim_aload_n dL_law_393 rfl ?_
  refine sim_iload dL_law_394 rfl ?_
  refine sim_iconst (2) dL_law_396 (by decide +kernel) ?_
  refine sim_iadd dL_law_397 ?_
  refine sim_scr dL_law_398 (fun v451 => ?_)
  refine sim_ao2 (fun a454 e => ?_)
  refine sim_virt (d - 1) e dL_law_399 (k_X11_same (d - 1) (by omega) _ _ _ _) q_X11_same rfl rfl wm_RL_152 rfl rfl (by omega) (Nat.le_of_ble_eq_true rfl) am_nI (am_rI fun h452 v453 => ?_) am_eI
  refine sim_istore dL_law_402 (Nat.le_of_ble_eq_true rfl) ?_
  refine sim_aload_n dL_law_404 rfl ?_
  refine sim_ao0 (fun a457 e => ?_)
  refine sim_virt (d - 1) e dL_law_405 (k_X11_thrown (d - 1) (by omega) _  _) q_X11_thrown rfl rfl wm_RL_142 rfl rfl (by omega) (Nat.le_of_ble_eq_true rfl) am_nI (am_rI fun h455 v456 => ?_) am_eI
  refine sim_iload dL_law_408 rfl ?_
  refine sim_ic_eq 415 dL_law_410 (by decide) (fun c => ?_) (fun c => ?_)
  · refine sim_iload dL_law_415 rfl ?_
    refine sim_if_ne 439 dL_law_417 (by decide) (fun c => ?_) (fun c => ?_)
    · exact sim_lv (am_leS (am_leS (am_leS (am_leS (am_leS (am_leN (am_leN am_leT))))))) (t_L_law_439 d (by omega) _ hrc23 _ _ _ _ _)
    · refine sim_aload_n dL_law_420 rfl ?_
      refine sim_iconst (0) dL_law_421 (by decide +kernel) ?_
      refine sim_aL dL_law_422 (fun v458 => ?_)
      refine sim_iload dL_law_423 rfl ?_
      refine sim_if_eq 432 dL_law_425 (by decide) (fun c => ?_) (fun c => ?_)
      · refine sim_lconst (0) dL_law_432 (by decide +kernel) ?_
        exact sim_lv (am_leS (am_leS (am_leS (am_leS (am_leS (am_leN (am_leN am_leT))))))) (t_L_law_433 d (by omega) _ hrc23 _ _ _ _ _ _ _)
      · refine sim_lconst (1) dL_law_428 (by decide +kernel) ?_
        refine sim_goto 433 dL_law_429 (by decide) ?_
        exact sim_lv (am_leS (am_leS (am_leS (am_leS (am_leS (am_leN (am_leN am_leT))))))) (t_L_law_433 d (by omega) _ hrc23 _ _ _ _ _ _ _)
  · refine sim_iconst (0) dL_law_413 (by decide +kernel) ?_
    exact sim_zret dL_law_414 rfl
def f_L_law_364 (rc23 : Nat × Nat → Option (Nat × Nat) → Option (Nat × Nat) → Option (Nat × Nat) → Int32 → am_H → am_R) (_ : Nat × Nat) (x1 : Option (Nat × Nat)) (x2 : Option (Nat × Nat)) (x3 : Option (Nat × Nat)) (x4 : Int32) (h : am_H) : am_R := f_L_law_2795 rc23 (1, 0) x1 x2 x3 x4 h
theorem t_L_law_364 (d : Nat) (hd : 10 ≤ d) (rc23 : Nat × Nat → Option (Nat × Nat) → Option (Nat × Nat) → Option (Nat × Nat) → Int32 → am_H → am_R) (hrc23 : ∀ x1 x2 x3 x4 h, Sim m_L_law d 23 [some (.inr (.inr (some (1, 0)))), some (.inr (.inr x1)), some (.inr (.inr x2)), some (.inr (.inr x3)), some (.inl x4), none, none] [] h (rc23 (1, 0) x1 x2 x3 x4 h)) (x1 : Option (Nat × Nat)) (x2 : Option (Nat × Nat)) (x3 : Option (Nat × Nat)) (x4 : Int32) (h : am_H) : Sim m_L_law d 364 [some (.inr (.inr (some (1, 0)))), some (.inr (.inr x1)), some (.inr (.inr x2)), some (.inr (.inr x3)), some (.inl x4), none, none] [] h (f_L_law_364 rc23 (1, 0) x1 x2 x3 x4 h) := by
  unfold f_L_law_364
  refine sim_goto 2795 dL_law_364 (by decide) ?_
  exact sim_lv (am_leS (am_leS (am_leS (am_leS (am_leS (am_leN (am_leN am_leT))))))) (t_L_law_2795 d (by omega) _ hrc23 _ _ _ _ _)
def f_L_law_358 (rc23 : Nat × Nat → Option (Nat × Nat) → Option (Nat × Nat) → Option (Nat × Nat) → Int32 → am_H → am_R) (_ : Nat × Nat) (x1 : Option (Nat × Nat)) (x2 : Option (Nat × Nat)) (x3 : Option (Nat × Nat)) (x4 : Int32) (s0 : Int64) (s1 : Int64) (h : am_H) : am_R := if (lg_cmp s1 s0) = 0 then (f_L_law_364 rc23 (1, 0) x1 x2 x3 x4 h) else (m_rz h (0 : Int32))
theorem t_L_law_358 (d : Nat) (hd : 10 ≤ d) (rc23 : Nat × Nat → Option (Nat × Nat) → Option (Nat × Nat) → Option (Nat × Nat) → Int32 → am_H → am_R) (hrc23 : ∀ x1 x2 x3 x4 h, Sim m_L_law d 23 [some (.inr (.inr (some (1, 0)))), some (.inr (.inr x1)), some (.inr (.inr x2)), some (.inr (.inr x3)), some (.inl x4), none, none] [] h (rc23 (1, 0) x1 x2 x3 x4 h)) (x1 : Option (Nat × Nat)) (x2 : Option (Nat × Nat)) (x3 : Option (Nat × Nat)) (x4 : Int32) (s0 : Int64) (s1 : Int64) (h : am_H) : Sim m_L_law d 358 [some (.inr (.inr (some (1, 0)))), some (.inr (.inr x1)), some (.inr (.inr x2)), some (.inr (.inr x3)), some (.inl x4), none, none] [.inr (.inl s0), .inr (.inl s1)] h (f_L_law_358 rc23 (1, 0) x1 x2 x3 x4 s0 s1 h) := by
  unfold f_L_law_358
  refine sim_lcmp dL_law_358 ?_
  refine sim_if_eq 364 dL_law_359 (by decide) (fun c => ?_) (fun c => ?_)
  · exact sim_lv (am_leS (am_leS (am_leS (am_leS (am_leS (am_leN (am_leN am_leT))))))) (t_L_law_364 d (by omega) _ hrc23 _ _ _ _ _)
  · refine sim_iconst (0) dL_law_362 (by decide +kernel) ?_
    exact sim_zret dL_law_363 rfl
def f_L_law_324 (rc23 : Nat × Nat → Option (Nat × Nat) → Option (Nat × Nat) → Option (Nat × Nat) → Int32 → am_H → am_R) (_ : Nat × Nat) (x1 : Option (Nat × Nat)) (x2 : Option (Nat × Nat)) (x3 : Option (Nat × Nat)) (x4 : Int32) (x5 : Int32) (s0 : Int32) (s1 : Int32) (s2 : Int32) (s3 : Option (Nat × Nat)) (h : am_H) : am_R := m_ao s3 11 fun a469 => m_bI (f_X11_block a469 s2 s1 s0 h) fun h467 v468 => m_ao x2 11 fun a472 => m_bI (f_X11_thrown a472 h467) fun h470 v471 => if v471 = x5 then (if x5 = 0 then (m_aL x3 (0 : Int32) h470 fun v473 => if v468 = 0 then (f_L_law_358 rc23 (1, 0) x1 x2 x3 x4 (0 : Int64) v473 h470) else (f_L_law_358 rc23 (1, 0) x1 x2 x3 x4 (1 : Int64) v473 h470)) else (f_L_law_364 rc23 (1, 0) x1 x2 x3 x4 h470)) else (m_rz h470 (0 : Int32))
theorem t_L_law_324 (d : Nat) (hd : 10 ≤ d) (rc23 : Nat × Nat → Option (Nat × Nat) → Option (Nat × Nat) → Option (Nat × Nat) → Int32 → am_H → am_R) (hrc23 : ∀ x1 x2 x3 x4 h, Sim m_L_law d 23 [some (.inr (.inr (some (1, 0)))), some (.inr (.inr x1)), some (.inr (.inr x2)), some (.inr (.inr x3)), some (.inl x4), none, none] [] h (rc23 (1, 0) x1 x2 x3 x4 h)) (x1 : Option (Nat × Nat)) (x2 : Option (Nat × Nat)) (x3 : Option (Nat × Nat)) (x4 : Int32) (x5 : Int32) (s0 : Int32) (s1 : Int32) (s2 : Int32) (s3 : Option (Nat × Nat)) (h : am_H) : Sim m_L_law d 324 [some (.inr (.inr (some (1, 0)))), some (.inr (.inr x1)), some (.inr (.inr x2)), some (.inr (.inr x3)), some (.inl x4), some (.inl x5), none] [.inl s0, .inl s1, .inl s2, .inr (.inr s3)] h (f_L_law_324 rc23 (1, 0) x1 x2 x3 x4 x5 s0 s1 s2 s3 h) := by
  unfold f_L_law_324
  refine sim_ao3 (fun a469 e => ?_)
  refine sim_virt (d - 1) e dL_law_324 (k_X11_block (d - 1) (by omega) _ _ _ _ _) q_X11_block rfl rfl wm_RL_148 rfl rfl (by omega) (Nat.le_of_ble_eq_true rfl) am_nI (am_rI fun h467 v468 => ?_) am_eI
  refine sim_istore dL_law_327 (Nat.le_of_ble_eq_true rfl) ?_
  refine sim_aload_n dL_law_329 rfl ?_
  refine sim_ao0 (fun a472 e => ?_)
  refine sim_virt (d - 1) e dL_law_330 (k_X11_thrown (d - 1) (by omega) _  _) q_X11_thrown rfl rfl wm_RL_142 rfl rfl (by omega) (Nat.le_of_ble_eq_true rfl) am_nI (am_rI fun h470 v471 => ?_) am_eI
  refine sim_iload dL_law_333 rfl ?_
  refine sim_ic_eq 340 dL_law_335 (by decide) (fun c => ?_) (fun c => ?_)
  · refine sim_iload dL_law_340 rfl ?_
    refine sim_if_ne 364 dL_law_342 (by decide) (fun c => ?_) (fun c => ?_)
    · exact sim_lv (am_leS (am_leS (am_leS (am_leS (am_leS (am_leN (am_leN am_leT))))))) (t_L_law_364 d (by omega) _ hrc23 _ _ _ _ _)
    · refine sim_aload_n dL_law_345 rfl ?_
      refine sim_iconst (0) dL_law_346 (by decide +kernel) ?_
      refine sim_aL dL_law_347 (fun v473 => ?_)
      refine sim_iload dL_law_348 rfl ?_
      refine sim_if_eq 357 dL_law_350 (by decide) (fun c => ?_) (fun c => ?_)
      · refine sim_lconst (0) dL_law_357 (by decide +kernel) ?_
        exact sim_lv (am_leS (am_leS (am_leS (am_leS (am_leS (am_leN (am_leN am_leT))))))) (t_L_law_358 d (by omega) _ hrc23 _ _ _ _ _ _ _)
      · refine sim_lconst (1) dL_law_353 (by decide +kernel) ?_
        refine sim_goto 358 dL_law_354 (by decide) ?_
        exact sim_lv (am_leS (am_leS (am_leS (am_leS (am_leS (am_leN (am_leN am_leT))))))) (t_L_law_358 d (by omega) _ hrc23 _ _ _ _ _ _ _)
  · refine sim_iconst (0) dL_law_338 (by decide +kernel) ?_
    exact sim_zret dL_law_339 rfl
def f_L_law_291 (rc23 : Nat × Nat → Option (Nat × Nat) → Option (Nat × Nat) → Option (Nat × Nat) → Int32 → am_H → am_R) (_ : Nat × Nat) (x1 : Option (Nat × Nat)) (x2 : Option (Nat × Nat)) (x3 : Option (Nat × Nat)) (x4 : Int32) (s0 : Int32) (s1 : Int32) (s2 : Int32) (s3 : Option (Nat × Nat)) (h : am_H) : am_R := m_bI (f_L_block s3 s2 s1 s0 x3 h) fun h462 v463 => m_scr (x4 + (1 : Int32)) h462 fun v464 => m_scr (x4 + (2 : Int32)) h462 fun v465 => m_scr (x4 + (3 : Int32)) h462 fun v466 => if v466 = 0 then (f_L_law_324 rc23 (1, 0) x1 x2 x3 x4 v463 (0 : Int32) v465 v464 x2 h462) else (f_L_law_324 rc23 (1, 0) x1 x2 x3 x4 v463 (1 : Int32) v465 v464 x2 h462)
theorem t_L_law_291 (d : Nat) (hd : 10 ≤ d) (rc23 : Nat × Nat → Option (Nat × Nat) → Option (Nat × Nat) → Option (Nat × Nat) → Int32 → am_H → am_R) (hrc23 : ∀ x1 x2 x3 x4 h, Sim m_L_law d 23 [some (.inr (.inr (some (1, 0)))), some (.inr (.inr x1)), some (.inr (.inr x2)), some (.inr (.inr x3)), some (.inl x4), none, none] [] h (rc23 (1, 0) x1 x2 x3 x4 h)) (x1 : Option (Nat × Nat)) (x2 : Option (Nat × Nat)) (x3 : Option (Nat × Nat)) (x4 : Int32) (s0 : Int32) (s1 : Int32) (s2 : Int32) (s3 : Option (Nat × Nat)) (h : am_H) : Sim m_L_law d 291 [some (.inr (.inr (some (1, 0)))), some (.inr (.inr x1)), some (.inr (.inr x2)), some (.inr (.inr x3)), some (.inl x4), none, none] [.inl s0, .inl s1, .inl s2, .inr (.inr s3)] h (f_L_law_291 rc23 (1, 0) x1 x2 x3 x4 s0 s1 s2 s3 h) := by
  unfold f_L_law_291
  refine sim_aload_n dL_law_291 rfl ?_
  refine sim_staticX (d - 1) dL_law_292 (k_L_block (d - 1) (by omega) _ _ _ _ _ _) q_L_block wm_RL_145 rfl rfl (by omega) (Nat.le_of_ble_eq_true rfl) am_nI (am_rI fun h462 v463 => ?_) am_eI
  refine sim_istore dL_law_295 (Nat.le_of_ble_eq_true rfl) ?_
  refine sim_aload_n dL_law_297 rfl ?_
  refine sim_aload_n dL_law_298 rfl ?_
  refine sim_iload dL_law_299 rfl ?_
  refine sim_iconst (1) dL_law_301 (by decide +kernel) ?_
  refine sim_iadd dL_law_302 ?_
  refine sim_scr dL_law_303 (fun v464 => ?_)
  refine sim_aload_n dL_law_304 rfl ?_
  refine sim_iload dL_law_305 rfl ?_
  refine sim_iconst (2) dL_law_307 (by decide +kernel) ?_
  refine sim_iadd dL_law_308 ?_
  refine sim_scr dL_law_309 (fun v465 => ?_)
  refine sim_aload_n dL_law_310 rfl ?_
  refine sim_iload dL_law_311 rfl ?_
  refine sim_iconst (3) dL_law_313 (by decide +kernel) ?_
  refine sim_iadd dL_law_314 ?_
  refine sim_scr dL_law_315 (fun v466 => ?_)
  refine sim_if_eq 323 dL_law_316 (by decide) (fun c => ?_) (fun c => ?_)
  · refine sim_iconst (0) dL_law_323 (by decide +kernel) ?_
    exact sim_lv (am_leS (am_leS (am_leS (am_leS (am_leS (am_leS (am_leN am_leT))))))) (t_L_law_324 d (by omega) _ hrc23 _ _ _ _ _ _ _ _ _ _)
  · refine sim_iconst (1) dL_law_319 (by decide +kernel) ?_
    refine sim_goto 324 dL_law_320 (by decide) ?_
    exact sim_lv (am_leS (am_leS (am_leS (am_leS (am_leS (am_leS (am_leN am_leT))))))) (t_L_law_324 d (by omega) _ hrc23 _ _ _ _ _ _ _ _ _ _)
def f_L_law_264 (rc23 : Nat × Nat → Option (Nat × Nat) → Option (Nat × Nat) → Option (Nat × Nat) → Int32 → am_H → am_R) (_ : Nat × Nat) (x1 : Option (Nat × Nat)) (x2 : Option (Nat × Nat)) (x3 : Option (Nat × Nat)) (x4 : Int32) (h : am_H) : am_R := m_scr (x4 + (1 : Int32)) h fun v459 => m_scr (x4 + (2 : Int32)) h fun v460 => m_scr (x4 + (3 : Int32)) h fun v461 => if v461 = 0 then (f_L_law_291 rc23 (1, 0) x1 x2 x3 x4 (0 : Int32) v460 v459 x1 h) else (f_L_law_291 rc23 (1, 0) x1 x2 x3 x4 (1 : Int32) v460 v459 x1 h)
theorem t_L_law_264 (d : Nat) (hd : 10 ≤ d) (rc23 : Nat × Nat → Option (Nat × Nat) → Option (Nat × Nat) → Option (Nat × Nat) → Int32 → am_H → am_R) (hrc23 : ∀ x1 x2 x3 x4 h, Sim m_L_law d 23 [some (.inr (.inr (some (1, 0)))), some (.inr (.inr x1)), some (.inr (.inr x2)), some (.inr (.inr x3)), some (.inl x4), none, none] [] h (rc23 (1, 0) x1 x2 x3 x4 h)) (x1 : Option (Nat × Nat)) (x2 : Option (Nat × Nat)) (x3 : Option (Nat × Nat)) (x4 : Int32) (h : am_H) : Sim m_L_law d 264 [some (.inr (.inr (some (1, 0)))), some (.inr (.inr x1)), some (.inr (.inr x2)), some (.inr (.inr x3)), some (.inl x4), none, none] [] h (f_L_law_264 rc23 (1, 0) x1 x2 x3 x4 h) := by
  unfold f_L_law_264
  refine sim_aload_n dL_law_264 rfl ?_
  refine sim_aload_n dL_law_265 rfl ?_
  refine sim_iload dL_law_266 rfl ?_
  refine sim_iconst (1) dL_law_268 (by decide +kernel) ?_
  refine sim_iadd dL_law_269 ?_
  refine sim_scr dL_law_270 (fun v459 => ?_)
  refine sim_aload_n dL_law_271 rfl ?_
  refine sim_iload dL_law_272 rfl ?_
  refine sim_iconst (2) dL_law_274 (by decide +kernel) ?_
  refine sim_iadd dL_law_275 ?_
  refine sim_scr dL_law_276 (fun v460 => ?_)
  refine sim_aload_n dL_law_277 rfl ?_
  refine sim_iload dL_law_278 rfl ?_
  refine sim_iconst (3) dL_law_280 (by decide +kernel) ?_
  refine sim_iadd dL_law_281 ?_
  refine sim_scr dL_law_282 (fun v461 => ?_)
  refine sim_if_eq 290 dL_law_283 (by decide) (fun c => ?_) (fun c => ?_)
  · refine sim_iconst (0) dL_law_290 (by decide +kernel) ?_
    exact sim_lv (am_leS (am_leS (am_leS (am_leS (am_leS (am_leN (am_leN am_leT))))))) (t_L_law_291 d (by omega) _ hrc23 _ _ _ _ _ _ _ _ _)
  · refine sim_iconst (1) dL_law_286 (by decide +kernel) ?_
    refine sim_goto 291 dL_law_287 (by decide) ?_
    exact sim_lv (am_leS (am_leS (am_leS (am_leS (am_leS (am_leN (am_leN am_leT))))))) (t_L_law_291 d (by omega) _ hrc23 _ _ _ _ _ _ _ _ _)
def f_L_law_261 (rc23 : Nat × Nat → Option (Nat × Nat) → Option (Nat × Nat) → Option (Nat × Nat) → Int32 → am_H → am_R) (_ : Nat × Nat) (x1 : Option (Nat × Nat)) (x2 : Option (Nat × Nat)) (x3 : Option (Nat × Nat)) (x4 : Int32) (h : am_H) : am_R := f_L_law_2795 rc23 (1, 0) x1 x2 x3 x4 h
theorem t_L_law_261 (d : Nat) (hd : 10 ≤ d) (rc23 : Nat × Nat → Option (Nat × Nat) → Option (Nat × Nat) → Option (Nat × Nat) → Int32 → am_H → am_R) (hrc23 : ∀ x1 x2 x3 x4 h, Sim m_L_law d 23 [some (.inr (.inr (some (1, 0)))), some (.inr (.inr x1)), some (.inr (.inr x2)), some (.inr (.inr x3)), some (.inl x4), none, none] [] h (rc23 (1, 0) x1 x2 x3 x4 h)) (x1 : Option (Nat × Nat)) (x2 : Option (Nat × Nat)) (x3 : Option (Nat × Nat)) (x4 : Int32) (h : am_H) : Sim m_L_law d 261 [some (.inr (.inr (some (1, 0)))), some (.inr (.inr x1)), some (.inr (.inr x2)), some (.inr (.inr x3)), some (.inl x4), none, none] [] h (f_L_law_261 rc23 (1, 0) x1 x2 x3 x4 h) := by
  unfold f_L_law_261
  refine sim_goto 2795 dL_law_261 (by decide) ?_
  exact sim_lv (am_leS (am_leS (am_leS (am_leS (am_leS (am_leN (am_leN am_leT))))))) (t_L_law_2795 d (by omega) _ hrc23 _ _ _ _ _)
def f_L_law_208 (rc23 : Nat × Nat → Option (Nat × Nat) → Option (Nat × Nat) → Option (Nat × Nat) → Int32 → am_H → am_R) (_ : Nat × Nat) (x1 : Option (Nat × Nat)) (x2 : Option (Nat × Nat)) (x3 : Option (Nat × Nat)) (x4 : Int32) (h : am_H) : am_R := m_scr (x4 + (1 : Int32)) h fun v474 => m_bI (f_L_pass x1 v474 x3 h) fun h475 v476 => m_scr (x4 + (1 : Int32)) h475 fun v477 => m_ao x2 11 fun a480 => m_bI (f_X11_pass a480 v477 h475) fun h478 v479 => m_ao x2 11 fun a483 => m_bI (f_X11_thrown a483 h478) fun h481 v482 => if v482 = v476 then (if v476 = 0 then (m_aL x3 (0 : Int32) h481 fun v484 => if (lg_cmp v484 (Int32.toInt64 v479)) = 0 then (f_L_law_261 rc23 (1, 0) x1 x2 x3 x4 h481) else (m_rz h481 (0 : Int32))) else (f_L_law_261 rc23 (1, 0) x1 x2 x3 x4 h481)) else (m_rz h481 (0 : Int32))
theorem t_L_law_208 (d : Nat) (hd : 10 ≤ d) (rc23 : Nat × Nat → Option (Nat × Nat) → Option (Nat × Nat) → Option (Nat × Nat) → Int32 → am_H → am_R) (hrc23 : ∀ x1 x2 x3 x4 h, Sim m_L_law d 23 [some (.inr (.inr (some (1, 0)))), some (.inr (.inr x1)), some (.inr (.inr x2)), some (.inr (.inr x3)), some (.inl x4), none, none] [] h (rc23 (1, 0) x1 x2 x3 x4 h)) (x1 : Option (Nat × Nat)) (x2 : Option (Nat × Nat)) (x3 : Option (Nat × Nat)) (x4 : Int32) (h : am_H) : Sim m_L_law d 208 [some (.inr (.inr (some (1, 0)))), some (.inr (.inr x1)), some (.inr (.inr x2)), some (.inr (.inr x3)), some (.inl x4), none, none] [] h (f_L_law_208 rc23 (1, 0) x1 x2 x3 x4 h) := by
  unfold f_L_law_208
  refine sim_aload_n dL_law_208 rfl ?_
  refine sim_aload_n dL_law_209 rfl ?_
  refine sim_iload dL_law_210 rfl ?_
  refine sim_iconst (1) dL_law_212 (by decide +kernel) ?_
  refine sim_iadd dL_law_213 ?_
  refine sim_scr dL_law_214 (fun v474 => ?_)
  refine sim_aload_n dL_law_215 rfl ?_
  refine sim_staticX (d - 1) dL_law_216 (k_L_pass (d - 1) (by omega) _ _ _ _) q_L_pass wm_RL_136 rfl rfl (by omega) (Nat.le_of_ble_eq_true rfl) am_nI (am_rI fun h475 v476 => ?_) am_eI
  refine sim_istore dL_law_219 (Nat.le_of_ble_eq_true rfl) ?_
  refine sim_aload_n dL_law_221 rfl ?_
  refine sim_aload_n dL_law_222 rfl ?_
  refine sim_iload dL_law_223 rfl ?_
  refine sim_iconst (1) dL_law_225 (by decide +kernel) ?_
  refine sim_iadd dL_law_226 ?_
  refine sim_scr dL_law_227 (fun v477 => ?_)
  refine sim_ao1 (fun a480 e => ?_)
  refine sim_virt (d - 1) e dL_law_228 (k_X11_pass (d - 1) (by omega) _ _ _) q_X11_pass rfl rfl wm_RL_141 rfl rfl (by omega) (Nat.le_of_ble_eq_true rfl) am_nI (am_rI fun h478 v479 => ?_) am_eI
  refine sim_istore dL_law_231 (Nat.le_of_ble_eq_true rfl) ?_
  refine sim_aload_n dL_law_233 rfl ?_
  refine sim_ao0 (fun a483 e => ?_)
  refine sim_virt (d - 1) e dL_law_234 (k_X11_thrown (d - 1) (by omega) _  _) q_X11_thrown rfl rfl wm_RL_142 rfl rfl (by omega) (Nat.le_of_ble_eq_true rfl) am_nI (am_rI fun h481 v482 => ?_) am_eI
  refine sim_iload dL_law_237 rfl ?_
  refine sim_ic_eq 244 dL_law_239 (by decide) (fun c => ?_) (fun c => ?_)
  · refine sim_iload dL_law_244 rfl ?_
    refine sim_if_ne 261 dL_law_246 (by decide) (fun c => ?_) (fun c => ?_)
    · exact sim_lv (am_leS (am_leS (am_leS (am_leS (am_leS (am_leN (am_leN am_leT))))))) (t_L_law_261 d (by omega) _ hrc23 _ _ _ _ _)
    · refine sim_aload_n dL_law_249 rfl ?_
      refine sim_iconst (0) dL_law_250 (by decide +kernel) ?_
      refine sim_aL dL_law_251 (fun v484 => ?_)
      refine sim_iload dL_law_252 rfl ?_
      refine sim_i2l dL_law_254 ?_
      refine sim_lcmp dL_law_255 ?_
      refine sim_if_eq 261 dL_law_256 (by decide) (fun c => ?_) (fun c => ?_)
      · exact sim_lv (am_leS (am_leS (am_leS (am_leS (am_leS (am_leN (am_leN am_leT))))))) (t_L_law_261 d (by omega) _ hrc23 _ _ _ _ _)
      · refine sim_iconst (0) dL_law_259 (by decide +kernel) ?_
        exact sim_zret dL_law_260 rfl
  · refine sim_iconst (0) dL_law_242 (by decide +kernel) ?_
    exact sim_zret dL_law_243 rfl
