def f_L_act_743  (s0 : Int32) (s1 : Int32) (s2 : Int32) (s3 : Int32) (s4 : Option (Nat × Nat)) (h : am_H) : am_R := f_L_act_744 (0 : Int32) s0 s1 s2 s3 s4 h
theorem t_L_act_743 (d : Nat) (hd : 14 ≤ d)  (s0 : Int32) (s1 : Int32) (s2 : Int32) (s3 : Int32) (s4 : Option (Nat × Nat)) (h : am_H) : Sim m_L_act d 743 [none, none, none, none, none, none, none, none, none] [.inl s0, .inl s1, .inl s2, .inl s3, .inr (.inr s4)] h (f_L_act_743  s0 s1 s2 s3 s4 h) := by
  unfold f_L_act_743
  refine sim_iconst (0) dL_act_743 (by decide +kernel) ?_
  exact sim_lv (am_leN (am_leN (am_leN (am_leN (am_leN (am_leN (am_leN (am_leN (am_leN am_leT))))))))) (t_L_act_744 d (by omega) _ _ _ _ _ _ _)
def f_L_act_736  (s0 : Int32) (s1 : Int32) (s2 : Int32) (s3 : Int32) (s4 : Int32) (s5 : Int32) (s6 : Int32) (s7 : Option (Nat × Nat)) (h : am_H) : am_R := m_bI (f_L_low s1 s0 h) fun h78 v79 => f_L_act_744 (s2 <<< (v79 &&& 31)) s3 s4 s5 s6 s7 h78
theorem t_L_act_736 (d : Nat) (hd : 14 ≤ d)  (s0 : Int32) (s1 : Int32) (s2 : Int32) (s3 : Int32) (s4 : Int32) (s5 : Int32) (s6 : Int32) (s7 : Option (Nat × Nat)) (h : am_H) : Sim m_L_act d 736 [none, none, none, none, none, none, none, none, none] [.inl s0, .inl s1, .inl s2, .inl s3, .inl s4, .inl s5, .inl s6, .inr (.inr s7)] h (f_L_act_736  s0 s1 s2 s3 s4 s5 s6 s7 h) := by
  unfold f_L_act_736
  refine sim_static (d - 1) dL_act_736 (k_L_low (d - 1) (by omega) _ _ _) q_L_low wm_RL_155 rfl rfl (by omega) (Nat.le_of_ble_eq_true rfl) am_nI (am_rI fun h78 v79 => ?_) am_eI
  refine sim_ishl dL_act_739 ?_
  refine sim_goto 744 dL_act_740 (by decide) ?_
  exact sim_lv (am_leN (am_leN (am_leN (am_leN (am_leN (am_leN (am_leN (am_leN (am_leN am_leT))))))))) (t_L_act_744 d (by omega) _ _ _ _ _ _ _)
def f_L_act_734  (s0 : Int32) (s1 : Int32) (s2 : Int32) (s3 : Int32) (s4 : Int32) (s5 : Int32) (s6 : Option (Nat × Nat)) (h : am_H) : am_R := f_L_act_736 (12 : Int32) s0 s1 s2 s3 s4 s5 s6 h
theorem t_L_act_734 (d : Nat) (hd : 14 ≤ d)  (s0 : Int32) (s1 : Int32) (s2 : Int32) (s3 : Int32) (s4 : Int32) (s5 : Int32) (s6 : Option (Nat × Nat)) (h : am_H) : Sim m_L_act d 734 [none, none, none, none, none, none, none, none, none] [.inl s0, .inl s1, .inl s2, .inl s3, .inl s4, .inl s5, .inr (.inr s6)] h (f_L_act_734  s0 s1 s2 s3 s4 s5 s6 h) := by
  unfold f_L_act_734
  refine sim_bipush (12) dL_act_734 (by decide +kernel) ?_
  exact sim_lv (am_leN (am_leN (am_leN (am_leN (am_leN (am_leN (am_leN (am_leN (am_leN am_leT))))))))) (t_L_act_736 d (by omega) _ _ _ _ _ _ _ _ _)
def f_L_act_703  (x2 : Int32) (x4 : Int32) (s0 : Int32) (s1 : Int32) (s2 : Int32) (s3 : Option (Nat × Nat)) (h : am_H) : am_R := if ((x4 >>> ((9 : Int32) &&& 31)) &&& (3 : Int32)) = 0 then (if x2 = 0 then (f_L_act_734 (x4 >>> ((4 : Int32) &&& 31)) (1 : Int32) ((x4 >>> ((3 : Int32) &&& 31)) &&& (127 : Int32)) s0 s1 s2 s3 h) else (f_L_act_736 (14 : Int32) (x4 >>> ((4 : Int32) &&& 31)) (1 : Int32) ((x4 >>> ((3 : Int32) &&& 31)) &&& (127 : Int32)) s0 s1 s2 s3 h)) else (f_L_act_743 ((x4 >>> ((3 : Int32) &&& 31)) &&& (127 : Int32)) s0 s1 s2 s3 h)
theorem t_L_act_703 (d : Nat) (hd : 14 ≤ d)  (x2 : Int32) (x4 : Int32) (s0 : Int32) (s1 : Int32) (s2 : Int32) (s3 : Option (Nat × Nat)) (h : am_H) : Sim m_L_act d 703 [none, none, some (.inl x2), none, some (.inl x4), none, none, none, none] [.inl s0, .inl s1, .inl s2, .inr (.inr s3)] h (f_L_act_703  x2 x4 s0 s1 s2 s3 h) := by
  unfold f_L_act_703
  refine sim_iload dL_act_703 rfl ?_
  refine sim_iconst (3) dL_act_705 (by decide +kernel) ?_
  refine sim_ishr dL_act_706 ?_
  refine sim_bipush (127) dL_act_707 (by decide +kernel) ?_
  refine sim_iand dL_act_709 ?_
  refine sim_iload dL_act_710 rfl ?_
  refine sim_bipush (9) dL_act_712 (by decide +kernel) ?_
  refine sim_ishr dL_act_714 ?_
  refine sim_iconst (3) dL_act_715 (by decide +kernel) ?_
  refine sim_iand dL_act_716 ?_
  refine sim_if_ne 743 dL_act_717 (by decide) (fun c => ?_) (fun c => ?_)
  · exact sim_lv (am_leN (am_leN (am_leN (am_leN (am_leN (am_leN (am_leN (am_leN (am_leN am_leT))))))))) (t_L_act_743 d (by omega) _ _ _ _ _ _)
  · refine sim_iconst (1) dL_act_720 (by decide +kernel) ?_
    refine sim_iload dL_act_721 rfl ?_
    refine sim_iconst (4) dL_act_723 (by decide +kernel) ?_
    refine sim_ishr dL_act_724 ?_
    refine sim_iload_n dL_act_725 rfl ?_
    refine sim_if_eq 734 dL_act_726 (by decide) (fun c => ?_) (fun c => ?_)
    · exact sim_lv (am_leN (am_leN (am_leN (am_leN (am_leN (am_leN (am_leN (am_leN (am_leN am_leT))))))))) (t_L_act_734 d (by omega) _ _ _ _ _ _ _ _)
    · refine sim_bipush (14) dL_act_729 (by decide +kernel) ?_
      refine sim_goto 736 dL_act_731 (by decide) ?_
      exact sim_lv (am_leN (am_leN (am_leN (am_leN (am_leN (am_leN (am_leN (am_leN (am_leN am_leT))))))))) (t_L_act_736 d (by omega) _ _ _ _ _ _ _ _ _)
def f_L_act_690  (x2 : Int32) (x4 : Int32) (s0 : Int32) (s1 : Int32) (s2 : Option (Nat × Nat)) (h : am_H) : am_R := f_L_act_703 x2 x4 (((x4 >>> ((2 : Int32) &&& 31)) &&& (x4 >>> ((7 : Int32) &&& 31))) &&& (127 : Int32)) s0 s1 s2 h
theorem t_L_act_690 (d : Nat) (hd : 14 ≤ d)  (x2 : Int32) (x4 : Int32) (s0 : Int32) (s1 : Int32) (s2 : Option (Nat × Nat)) (h : am_H) : Sim m_L_act d 690 [none, none, some (.inl x2), none, some (.inl x4), none, none, none, none] [.inl s0, .inl s1, .inr (.inr s2)] h (f_L_act_690  x2 x4 s0 s1 s2 h) := by
  unfold f_L_act_690
  refine sim_iload dL_act_690 rfl ?_
  refine sim_iconst (2) dL_act_692 (by decide +kernel) ?_
  refine sim_ishr dL_act_693 ?_
  refine sim_iload dL_act_694 rfl ?_
  refine sim_bipush (7) dL_act_696 (by decide +kernel) ?_
  refine sim_ishr dL_act_698 ?_
  refine sim_iand dL_act_699 ?_
  refine sim_bipush (127) dL_act_700 (by decide +kernel) ?_
  refine sim_iand dL_act_702 ?_
  exact sim_lv (am_leN (am_leN (am_leS (am_leN (am_leS (am_leN (am_leN (am_leN (am_leN am_leT))))))))) (t_L_act_703 d (by omega) _ _ _ _ _ _ _)
def f_L_act_681  (x2 : Int32) (x4 : Int32) (s0 : Int32) (s1 : Int32) (s2 : Option (Nat × Nat)) (h : am_H) : am_R := if x2 = 0 then (f_L_act_690 x2 x4 s0 s1 s2 h) else (f_L_act_703 x2 x4 x4 s0 s1 s2 h)
theorem t_L_act_681 (d : Nat) (hd : 14 ≤ d)  (x2 : Int32) (x4 : Int32) (s0 : Int32) (s1 : Int32) (s2 : Option (Nat × Nat)) (h : am_H) : Sim m_L_act d 681 [none, none, some (.inl x2), none, some (.inl x4), none, none, none, none] [.inl s0, .inl s1, .inr (.inr s2)] h (f_L_act_681  x2 x4 s0 s1 s2 h) := by
  unfold f_L_act_681
  refine sim_iload_n dL_act_681 rfl ?_
  refine sim_if_eq 690 dL_act_682 (by decide) (fun c => ?_) (fun c => ?_)
  · exact sim_lv (am_leN (am_leN (am_leS (am_leN (am_leS (am_leN (am_leN (am_leN (am_leN am_leT))))))))) (t_L_act_690 d (by omega) _ _ _ _ _ _)
  · refine sim_iload dL_act_685 rfl ?_
    refine sim_goto 703 dL_act_687 (by decide) ?_
    exact sim_lv (am_leN (am_leN (am_leS (am_leN (am_leS (am_leN (am_leN (am_leN (am_leN am_leT))))))))) (t_L_act_703 d (by omega) _ _ _ _ _ _ _)
def f_L_act_674  (x2 : Int32) (x4 : Int32) (s0 : Int32) (s1 : Option (Nat × Nat)) (h : am_H) : am_R := m_bI (f_L_low x4 (12 : Int32) h) fun h82 v83 => f_L_act_681 x2 x4 v83 s0 s1 h82
theorem t_L_act_674 (d : Nat) (hd : 14 ≤ d)  (x2 : Int32) (x4 : Int32) (s0 : Int32) (s1 : Option (Nat × Nat)) (h : am_H) : Sim m_L_act d 674 [none, none, some (.inl x2), none, some (.inl x4), none, none, none, none] [.inl s0, .inr (.inr s1)] h (f_L_act_674  x2 x4 s0 s1 h) := by
  unfold f_L_act_674
  refine sim_iload dL_act_674 rfl ?_
  refine sim_bipush (12) dL_act_676 (by decide +kernel) ?_
  refine sim_static (d - 1) dL_act_678 (k_L_low (d - 1) (by omega) _ _ _) q_L_low wm_RL_155 rfl rfl (by omega) (Nat.le_of_ble_eq_true rfl) am_nI (am_rI fun h82 v83 => ?_) am_eI
  exact sim_lv (am_leN (am_leN (am_leS (am_leN (am_leS (am_leN (am_leN (am_leN (am_leN am_leT))))))))) (t_L_act_681 d (by omega) _ _ _ _ _ _)
def f_L_act_650  (x0 : Option (Nat × Nat)) (x2 : Int32) (x3 : Int32) (x4 : Int32) (x5 : Int32) (x6 : Int32) (h : am_H) : am_R := if (60 : Int32) ≤ x3 then (f_L_act_891 x0 x2 x3 x4 x5 x6 h) else (if (53 : Int32) ≤ x3 then (f_L_act_750 x0 x2 x3 x4 x5 x6 h) else (if x2 = 0 then (f_L_act_674 x2 x4 (24 : Int32) x0 h) else (f_L_act_681 x2 x4 x5 (24 : Int32) x0 h)))
theorem t_L_act_650 (d : Nat) (hd : 14 ≤ d)  (x0 : Option (Nat × Nat)) (x2 : Int32) (x3 : Int32) (x4 : Int32) (x5 : Int32) (x6 : Int32) (h : am_H) : Sim m_L_act d 650 [some (.inr (.inr x0)), none, some (.inl x2), some (.inl x3), some (.inl x4), some (.inl x5), some (.inl x6), none, none] [] h (f_L_act_650  x0 x2 x3 x4 x5 x6 h) := by
  unfold f_L_act_650
  refine sim_iload_n dL_act_650 rfl ?_
  refine sim_bipush (60) dL_act_651 (by decide +kernel) ?_
  refine sim_ic_ge 891 dL_act_653 (by decide) (fun c => ?_) (fun c => ?_)
  · exact sim_lv (am_leS (am_leN (am_leS (am_leS (am_leS (am_leS (am_leS (am_leN (am_leN am_leT))))))))) (t_L_act_891 d (by omega) _ _ _ _ _ _ _)
  · refine sim_iload_n dL_act_656 rfl ?_
    refine sim_bipush (53) dL_act_657 (by decide +kernel) ?_
    refine sim_ic_ge 750 dL_act_659 (by decide) (fun c => ?_) (fun c => ?_)
    · exact sim_lv (am_leS (am_leN (am_leS (am_leS (am_leS (am_leS (am_leS (am_leN (am_leN am_leT))))))))) (t_L_act_750 d (by omega) _ _ _ _ _ _ _)
    · refine sim_aload_n dL_act_662 rfl ?_
      refine sim_bipush (24) dL_act_663 (by decide +kernel) ?_
      refine sim_iload_n dL_act_665 rfl ?_
      refine sim_if_eq 674 dL_act_666 (by decide) (fun c => ?_) (fun c => ?_)
      · exact sim_lv (am_leN (am_leN (am_leS (am_leN (am_leS (am_leN (am_leN (am_leN (am_leN am_leT))))))))) (t_L_act_674 d (by omega) _ _ _ _ _)
      · refine sim_iload dL_act_669 rfl ?_
        refine sim_goto 681 dL_act_671 (by decide) ?_
        exact sim_lv (am_leN (am_leN (am_leS (am_leN (am_leS (am_leN (am_leN (am_leN (am_leN am_leT))))))))) (t_L_act_681 d (by omega) _ _ _ _ _ _)
def f_L_act_649  (s0 : Int32) (h : am_H) : am_R := m_ri h s0
theorem t_L_act_649 (d : Nat) (hd : 14 ≤ d)  (s0 : Int32) (h : am_H) : Sim m_L_act d 649 [none, none, none, none, none, none, none, none, none] [.inl s0] h (f_L_act_649  s0 h) := by
  unfold f_L_act_649
  exact sim_iret dL_act_649 rfl
def f_L_act_648   (h : am_H) : am_R := f_L_act_649 (0 : Int32) h
theorem t_L_act_648 (d : Nat) (hd : 14 ≤ d)   (h : am_H) : Sim m_L_act d 648 [none, none, none, none, none, none, none, none, none] [] h (f_L_act_648   h) := by
  unfold f_L_act_648
  refine sim_iconst (0) dL_act_648 (by decide +kernel) ?_
  exact sim_lv (am_leN (am_leN (am_leN (am_leN (am_leN (am_leN (am_leN (am_leN (am_leN am_leT))))))))) (t_L_act_649 d (by omega) _ _)
def f_L_act_627  (x0 : Option (Nat × Nat)) (x4 : Int32) (h : am_H) : am_R := m_bI (f_L_low x4 (3 : Int32) h) fun h74 v75 => m_bI (f_L_types x0 ((1 : Int32) + v75) (3 : Int32) (0 : Int32) h74) fun h76 v77 => if v77 = 0 then (f_L_act_648 h76) else (f_L_act_649 (1 : Int32) h76)
theorem t_L_act_627 (d : Nat) (hd : 14 ≤ d)  (x0 : Option (Nat × Nat)) (x4 : Int32) (h : am_H) : Sim m_L_act d 627 [some (.inr (.inr x0)), none, none, none, some (.inl x4), none, none, none, none] [] h (f_L_act_627  x0 x4 h) := by
  unfold f_L_act_627
  refine sim_aload_n dL_act_627 rfl ?_
  refine sim_iconst (1) dL_act_628 (by decide +kernel) ?_
  refine sim_iload dL_act_629 rfl ?_
  refine sim_iconst (3) dL_act_631 (by decide +kernel) ?_
  refine sim_static (d - 1) dL_act_632 (k_L_low (d - 1) (by omega) _ _ _) q_L_low wm_RL_155 rfl rfl (by omega) (Nat.le_of_ble_eq_true rfl) am_nI (am_rI fun h74 v75 => ?_) am_eI
  refine sim_iadd dL_act_635 ?_
  refine sim_iconst (3) dL_act_636 (by decide +kernel) ?_
  refine sim_iconst (0) dL_act_637 (by decide +kernel) ?_
  refine sim_static (d - 1) dL_act_638 (k_L_types (d - 1) (by omega) _ _ _ _ _) q_L_types wm_RL_158 rfl rfl (by omega) (Nat.le_of_ble_eq_true rfl) am_nI (am_rI fun h76 v77 => ?_) am_eI
  refine sim_if_eq 648 dL_act_641 (by decide) (fun c => ?_) (fun c => ?_)
  · exact sim_lv (am_leN (am_leN (am_leN (am_leN (am_leN (am_leN (am_leN (am_leN (am_leN am_leT))))))))) (t_L_act_648 d (by omega) _)
  · refine sim_iconst (1) dL_act_644 (by decide +kernel) ?_
    refine sim_goto 649 dL_act_645 (by decide) ?_
    exact sim_lv (am_leN (am_leN (am_leN (am_leN (am_leN (am_leN (am_leN (am_leN (am_leN am_leT))))))))) (t_L_act_649 d (by omega) _ _)
def f_L_act_623   (h : am_H) : am_R := f_L_act_649 (0 : Int32) h
theorem t_L_act_623 (d : Nat) (hd : 14 ≤ d)   (h : am_H) : Sim m_L_act d 623 [none, none, none, none, none, none, none, none, none] [] h (f_L_act_623   h) := by
  unfold f_L_act_623
  refine sim_iconst (0) dL_act_623 (by decide +kernel) ?_
  refine sim_goto 649 dL_act_624 (by decide) ?_
  exact sim_lv (am_leN (am_leN (am_leN (am_leN (am_leN (am_leN (am_leN (am_leN (am_leN am_leT))))))))) (t_L_act_649 d (by omega) _ _)
def f_L_act_598  (x0 : Option (Nat × Nat)) (x3 : Int32) (x4 : Int32) (h : am_H) : am_R := if (47 : Int32) ≤ x3 then (f_L_act_627 x0 x4 h) else (m_bI (f_L_types x0 ((4 : Int32) + (x4 &&& (1 : Int32))) (3 : Int32) (0 : Int32) h) fun h72 v73 => if v73 = 0 then (f_L_act_623 h72) else (f_L_act_649 (1 : Int32) h72))
theorem t_L_act_598 (d : Nat) (hd : 14 ≤ d)  (x0 : Option (Nat × Nat)) (x3 : Int32) (x4 : Int32) (h : am_H) : Sim m_L_act d 598 [some (.inr (.inr x0)), none, none, some (.inl x3), some (.inl x4), none, none, none, none] [] h (f_L_act_598  x0 x3 x4 h) := by
  unfold f_L_act_598
  refine sim_iload_n dL_act_598 rfl ?_
  refine sim_bipush (47) dL_act_599 (by decide +kernel) ?_
  refine sim_ic_ge 627 dL_act_601 (by decide) (fun c => ?_) (fun c => ?_)
  · exact sim_lv (am_leS (am_leN (am_leN (am_leN (am_leS (am_leN (am_leN (am_leN (am_leN am_leT))))))))) (t_L_act_627 d (by omega) _ _ _)
  · refine sim_aload_n dL_act_604 rfl ?_
    refine sim_iconst (4) dL_act_605 (by decide +kernel) ?_
    refine sim_iload dL_act_606 rfl ?_
    refine sim_iconst (1) dL_act_608 (by decide +kernel) ?_
    refine sim_iand dL_act_609 ?_
    refine sim_iadd dL_act_610 ?_
    refine sim_iconst (3) dL_act_611 (by decide +kernel) ?_
    refine sim_iconst (0) dL_act_612 (by decide +kernel) ?_
    refine sim_static (d - 1) dL_act_613 (k_L_types (d - 1) (by omega) _ _ _ _ _) q_L_types wm_RL_158 rfl rfl (by omega) (Nat.le_of_ble_eq_true rfl) am_nI (am_rI fun h72 v73 => ?_) am_eI
    refine sim_if_eq 623 dL_act_616 (by decide) (fun c => ?_) (fun c => ?_)
    · exact sim_lv (am_leN (am_leN (am_leN (am_leN (am_leN (am_leN (am_leN (am_leN (am_leN am_leT))))))))) (t_L_act_623 d (by omega) _)
    · refine sim_iconst (1) dL_act_619 (by decide +kernel) ?_
      refine sim_goto 649 dL_act_620 (by decide) ?_
      exact sim_lv (am_leN (am_leN (am_leN (am_leN (am_leN (am_leN (am_leN (am_leN (am_leN am_leT))))))))) (t_L_act_649 d (by omega) _ _)
def f_L_act_583  (x0 : Option (Nat × Nat)) (x3 : Int32) (x4 : Int32) (h : am_H) : am_R := if (43 : Int32) ≤ x3 then (f_L_act_598 x0 x3 x4 h) else (m_bI (f_L_item x0 x4 h) fun h70 v71 => f_L_act_649 v71 h70)
theorem t_L_act_583 (d : Nat) (hd : 14 ≤ d)  (x0 : Option (Nat × Nat)) (x3 : Int32) (x4 : Int32) (h : am_H) : Sim m_L_act d 583 [some (.inr (.inr x0)), none, none, some (.inl x3), some (.inl x4), none, none, none, none] [] h (f_L_act_583  x0 x3 x4 h) := by
  unfold f_L_act_583
  refine sim_iload_n dL_act_583 rfl ?_
  refine sim_bipush (43) dL_act_584 (by decide +kernel) ?_
  refine sim_ic_ge 598 dL_act_586 (by decide) (fun c => ?_) (fun c => ?_)
  · exact sim_lv (am_leS (am_leN (am_leN (am_leS (am_leS (am_leN (am_leN (am_leN (am_leN am_leT))))))))) (t_L_act_598 d (by omega) _ _ _ _)
  · refine sim_aload_n dL_act_589 rfl ?_
    refine sim_iload dL_act_590 rfl ?_
    refine sim_static (d - 1) dL_act_592 (k_L_item (d - 1) (by omega) _ _ _) q_L_item wm_RL_165 rfl rfl (by omega) (Nat.le_of_ble_eq_true rfl) am_nI (am_rI fun h70 v71 => ?_) am_eI
    refine sim_goto 649 dL_act_595 (by decide) ?_
    exact sim_lv (am_leN (am_leN (am_leN (am_leN (am_leN (am_leN (am_leN (am_leN (am_leN am_leT))))))))) (t_L_act_649 d (by omega) _ _)
def f_L_act_570  (x0 : Option (Nat × Nat)) (x3 : Int32) (x4 : Int32) (h : am_H) : am_R := if (35 : Int32) ≤ x3 then (f_L_act_583 x0 x3 x4 h) else (m_ao x0 10 fun a69 => m_bI (f_X10_wipe a69 h) fun h67 v68 => f_L_act_649 v68 h67)
theorem t_L_act_570 (d : Nat) (hd : 14 ≤ d)  (x0 : Option (Nat × Nat)) (x3 : Int32) (x4 : Int32) (h : am_H) : Sim m_L_act d 570 [some (.inr (.inr x0)), none, none, some (.inl x3), some (.inl x4), none, none, none, none] [] h (f_L_act_570  x0 x3 x4 h) := by
  unfold f_L_act_570
  refine sim_iload_n dL_act_570 rfl ?_
  refine sim_bipush (35) dL_act_571 (by decide +kernel) ?_
  refine sim_ic_ge 583 dL_act_573 (by decide) (fun c => ?_) (fun c => ?_)
  · exact sim_lv (am_leS (am_leN (am_leN (am_leS (am_leS (am_leN (am_leN (am_leN (am_leN am_leT))))))))) (t_L_act_583 d (by omega) _ _ _ _)
  · refine sim_aload_n dL_act_576 rfl ?_
    refine sim_ao0 (fun a69 e => ?_)
    refine sim_virt (d - 1) e dL_act_577 (k_X10_wipe (d - 1) (by omega) _  _) q_X10_wipe rfl rfl wm_RL_162 rfl rfl (by omega) (Nat.le_of_ble_eq_true rfl) am_nI (am_rI fun h67 v68 => ?_) am_eI
    refine sim_goto 649 dL_act_580 (by decide) ?_
    exact sim_lv (am_leN (am_leN (am_leN (am_leN (am_leN (am_leN (am_leN (am_leN (am_leN am_leT))))))))) (t_L_act_649 d (by omega) _ _)
def f_L_act_538  (x0 : Option (Nat × Nat)) (x2 : Int32) (x3 : Int32) (x4 : Int32) (x5 : Int32) (x6 : Int32) (h : am_H) : am_R := if (50 : Int32) ≤ x3 then (f_L_act_650 x0 x2 x3 x4 x5 x6 h) else (if x2 = 0 then (f_L_act_570 x0 x3 x4 h) else (m_bI (f_L_low (x4 >>> ((3 : Int32) &&& 31)) (10 : Int32) h) fun h63 v64 => m_bI (f_L_does x0 (21 : Int32) x4 v64 (0 : Int32) (0 : Int32) h63) fun h65 v66 => f_L_act_649 v66 h65))
theorem t_L_act_538 (d : Nat) (hd : 14 ≤ d)  (x0 : Option (Nat × Nat)) (x2 : Int32) (x3 : Int32) (x4 : Int32) (x5 : Int32) (x6 : Int32) (h : am_H) : Sim m_L_act d 538 [some (.inr (.inr x0)), none, some (.inl x2), some (.inl x3), some (.inl x4), some (.inl x5), some (.inl x6), none, none] [] h (f_L_act_538  x0 x2 x3 x4 x5 x6 h) := by
  unfold f_L_act_538
  refine sim_iload_n dL_act_538 rfl ?_
  refine sim_bipush (50) dL_act_539 (by decide +kernel) ?_
  refine sim_ic_ge 650 dL_act_541 (by decide) (fun c => ?_) (fun c => ?_)
  · exact sim_lv (am_leS (am_leN (am_leS (am_leS (am_leS (am_leS (am_leS (am_leN (am_leN am_leT))))))))) (t_L_act_650 d (by omega) _ _ _ _ _ _ _)
  · refine sim_iload_n dL_act_544 rfl ?_
    refine sim_if_eq 570 dL_act_545 (by decide) (fun c => ?_) (fun c => ?_)
    · exact sim_lv (am_leS (am_leN (am_leN (am_leS (am_leS (am_leN (am_leN (am_leN (am_leN am_leT))))))))) (t_L_act_570 d (by omega) _ _ _ _)
    · refine sim_aload_n dL_act_548 rfl ?_
      refine sim_bipush (21) dL_act_549 (by decide +kernel) ?_
      refine sim_iload dL_act_551 rfl ?_
      refine sim_iload dL_act_553 rfl ?_
      refine sim_iconst (3) dL_act_555 (by decide +kernel) ?_
      refine sim_ishr dL_act_556 ?_
      refine sim_bipush (10) dL_act_557 (by decide +kernel) ?_
      refine sim_static (d - 1) dL_act_559 (k_L_low (d - 1) (by omega) _ _ _) q_L_low wm_RL_155 rfl rfl (by omega) (Nat.le_of_ble_eq_true rfl) am_nI (am_rI fun h63 v64 => ?_) am_eI
      refine sim_iconst (0) dL_act_562 (by decide +kernel) ?_
      refine sim_iconst (0) dL_act_563 (by decide +kernel) ?_
      refine sim_staticX (d - 1) dL_act_564 (k_L_does (d - 1) (by omega) _ _ _ _ _ _ _) q_L_does wm_RL_152 rfl rfl (by omega) (Nat.le_of_ble_eq_true rfl) am_nI (am_rI fun h65 v66 => ?_) am_eI
      refine sim_goto 649 dL_act_567 (by decide) ?_
      exact sim_lv (am_leN (am_leN (am_leN (am_leN (am_leN (am_leN (am_leN (am_leN (am_leN am_leT))))))))) (t_L_act_649 d (by omega) _ _)
def f_L_act_537  (s0 : Int32) (h : am_H) : am_R := m_ri h s0
theorem t_L_act_537 (d : Nat) (hd : 14 ≤ d)  (s0 : Int32) (h : am_H) : Sim m_L_act d 537 [none, none, none, none, none, none, none, none, none] [.inl s0] h (f_L_act_537  s0 h) := by
  unfold f_L_act_537
  exact sim_iret dL_act_537 rfl
def f_L_act_531  (s0 : Int32) (s1 : Int32) (s2 : Option (Nat × Nat)) (h : am_H) : am_R := m_bI (f_L_does s2 s1 s0 (0 : Int32) (0 : Int32) (0 : Int32) h) fun h59 v60 => f_L_act_537 v60 h59
theorem t_L_act_531 (d : Nat) (hd : 14 ≤ d)  (s0 : Int32) (s1 : Int32) (s2 : Option (Nat × Nat)) (h : am_H) : Sim m_L_act d 531 [none, none, none, none, none, none, none, none, none] [.inl s0, .inl s1, .inr (.inr s2)] h (f_L_act_531  s0 s1 s2 h) := by
  unfold f_L_act_531
  refine sim_iconst (0) dL_act_531 (by decide +kernel) ?_
  refine sim_iconst (0) dL_act_532 (by decide +kernel) ?_
  refine sim_iconst (0) dL_act_533 (by decide +kernel) ?_
  refine sim_staticX (d - 1) dL_act_534 (k_L_does (d - 1) (by omega) _ _ _ _ _ _ _) q_L_does wm_RL_152 rfl rfl (by omega) (Nat.le_of_ble_eq_true rfl) am_nI (am_rI fun h59 v60 => ?_) am_eI
  exact sim_lv (am_leN (am_leN (am_leN (am_leN (am_leN (am_leN (am_leN (am_leN (am_leN am_leT))))))))) (t_L_act_537 d (by omega) _ _)
def f_L_act_522  (x4 : Int32) (s0 : Int32) (s1 : Option (Nat × Nat)) (h : am_H) : am_R := m_bI (f_L_low x4 (6 : Int32) h) fun h61 v62 => f_L_act_531 ((1 : Int32) + v62) s0 s1 h61
theorem t_L_act_522 (d : Nat) (hd : 14 ≤ d)  (x4 : Int32) (s0 : Int32) (s1 : Option (Nat × Nat)) (h : am_H) : Sim m_L_act d 522 [none, none, none, none, some (.inl x4), none, none, none, none] [.inl s0, .inr (.inr s1)] h (f_L_act_522  x4 s0 s1 h) := by
  unfold f_L_act_522
  refine sim_iconst (1) dL_act_522 (by decide +kernel) ?_
  refine sim_iload dL_act_523 rfl ?_
  refine sim_bipush (6) dL_act_525 (by decide +kernel) ?_
  refine sim_static (d - 1) dL_act_527 (k_L_low (d - 1) (by omega) _ _ _) q_L_low wm_RL_155 rfl rfl (by omega) (Nat.le_of_ble_eq_true rfl) am_nI (am_rI fun h61 v62 => ?_) am_eI
  refine sim_iadd dL_act_530 ?_
  exact sim_lv (am_leN (am_leN (am_leN (am_leN (am_leN (am_leN (am_leN (am_leN (am_leN am_leT))))))))) (t_L_act_531 d (by omega) _ _ _ _)
def f_L_act_505  (x0 : Option (Nat × Nat)) (x2 : Int32) (x4 : Int32) (h : am_H) : am_R := if x2 = 0 then (f_L_act_522 x4 (19 : Int32) x0 h) else (m_bI (f_L_low x4 (24 : Int32) h) fun h57 v58 => f_L_act_531 v58 (19 : Int32) x0 h57)
theorem t_L_act_505 (d : Nat) (hd : 14 ≤ d)  (x0 : Option (Nat × Nat)) (x2 : Int32) (x4 : Int32) (h : am_H) : Sim m_L_act d 505 [some (.inr (.inr x0)), none, some (.inl x2), none, some (.inl x4), none, none, none, none] [] h (f_L_act_505  x0 x2 x4 h) := by
  unfold f_L_act_505
  refine sim_aload_n dL_act_505 rfl ?_
  refine sim_bipush (19) dL_act_506 (by decide +kernel) ?_
  refine sim_iload_n dL_act_508 rfl ?_
  refine sim_if_eq 522 dL_act_509 (by decide) (fun c => ?_) (fun c => ?_)
  · exact sim_lv (am_leN (am_leN (am_leN (am_leN (am_leS (am_leN (am_leN (am_leN (am_leN am_leT))))))))) (t_L_act_522 d (by omega) _ _ _ _)
  · refine sim_iload dL_act_512 rfl ?_
    refine sim_bipush (24) dL_act_514 (by decide +kernel) ?_
    refine sim_static (d - 1) dL_act_516 (k_L_low (d - 1) (by omega) _ _ _) q_L_low wm_RL_155 rfl rfl (by omega) (Nat.le_of_ble_eq_true rfl) am_nI (am_rI fun h57 v58 => ?_) am_eI
    refine sim_goto 531 dL_act_519 (by decide) ?_
    exact sim_lv (am_leN (am_leN (am_leN (am_leN (am_leN (am_leN (am_leN (am_leN (am_leN am_leT))))))))) (t_L_act_531 d (by omega) _ _ _ _)
def f_L_act_498  (s0 : Int32) (s1 : Int32) (s2 : Int32) (s3 : Int32) (s4 : Option (Nat × Nat)) (h : am_H) : am_R := m_bI (f_L_does s4 s3 s2 s1 s0 (0 : Int32) h) fun h55 v56 => f_L_act_537 v56 h55
theorem t_L_act_498 (d : Nat) (hd : 14 ≤ d)  (s0 : Int32) (s1 : Int32) (s2 : Int32) (s3 : Int32) (s4 : Option (Nat × Nat)) (h : am_H) : Sim m_L_act d 498 [none, none, none, none, none, none, none, none, none] [.inl s0, .inl s1, .inl s2, .inl s3, .inr (.inr s4)] h (f_L_act_498  s0 s1 s2 s3 s4 h) := by
  unfold f_L_act_498
  refine sim_iconst (0) dL_act_498 (by decide +kernel) ?_
  refine sim_staticX (d - 1) dL_act_499 (k_L_does (d - 1) (by omega) _ _ _ _ _ _ _) q_L_does wm_RL_152 rfl rfl (by omega) (Nat.le_of_ble_eq_true rfl) am_nI (am_rI fun h55 v56 => ?_) am_eI
  refine sim_goto 537 dL_act_502 (by decide) ?_
  exact sim_lv (am_leN (am_leN (am_leN (am_leN (am_leN (am_leN (am_leN (am_leN (am_leN am_leT))))))))) (t_L_act_537 d (by omega) _ _)
def f_L_act_497  (s0 : Int32) (s1 : Int32) (s2 : Int32) (s3 : Option (Nat × Nat)) (h : am_H) : am_R := f_L_act_498 (0 : Int32) s0 s1 s2 s3 h
theorem t_L_act_497 (d : Nat) (hd : 14 ≤ d)  (s0 : Int32) (s1 : Int32) (s2 : Int32) (s3 : Option (Nat × Nat)) (h : am_H) : Sim m_L_act d 497 [none, none, none, none, none, none, none, none, none] [.inl s0, .inl s1, .inl s2, .inr (.inr s3)] h (f_L_act_497  s0 s1 s2 s3 h) := by
  unfold f_L_act_497
  refine sim_iconst (0) dL_act_497 (by decide +kernel) ?_
  exact sim_lv (am_leN (am_leN (am_leN (am_leN (am_leN (am_leN (am_leN (am_leN (am_leN am_leT))))))))) (t_L_act_498 d (by omega) _ _ _ _ _ _)
def f_L_act_470  (x0 : Option (Nat × Nat)) (x2 : Int32) (x3 : Int32) (x4 : Int32) (x6 : Int32) (x7 : Int32) (h : am_H) : am_R := if (32 : Int32) ≤ x3 then (f_L_act_505 x0 x2 x4 h) else (if ((x4 >>> ((7 : Int32) &&& 31)) &&& (3 : Int32)) ≤ 0 then (f_L_act_497 x7 x6 (18 : Int32) x0 h) else (f_L_act_498 (1 : Int32) x7 x6 (18 : Int32) x0 h))
theorem t_L_act_470 (d : Nat) (hd : 14 ≤ d)  (x0 : Option (Nat × Nat)) (x2 : Int32) (x3 : Int32) (x4 : Int32) (x6 : Int32) (x7 : Int32) (h : am_H) : Sim m_L_act d 470 [some (.inr (.inr x0)), none, some (.inl x2), some (.inl x3), some (.inl x4), none, some (.inl x6), some (.inl x7), none] [] h (f_L_act_470  x0 x2 x3 x4 x6 x7 h) := by
  unfold f_L_act_470
  refine sim_iload_n dL_act_470 rfl ?_
  refine sim_bipush (32) dL_act_471 (by decide +kernel) ?_
  refine sim_ic_ge 505 dL_act_473 (by decide) (fun c => ?_) (fun c => ?_)
  · exact sim_lv (am_leS (am_leN (am_leS (am_leN (am_leS (am_leN (am_leN (am_leN (am_leN am_leT))))))))) (t_L_act_505 d (by omega) _ _ _ _)
  · refine sim_aload_n dL_act_476 rfl ?_
    refine sim_bipush (18) dL_act_477 (by decide +kernel) ?_
    refine sim_iload dL_act_479 rfl ?_
    refine sim_iload dL_act_481 rfl ?_
    refine sim_iload dL_act_483 rfl ?_
    refine sim_bipush (7) dL_act_485 (by decide +kernel) ?_
    refine sim_ishr dL_act_487 ?_
    refine sim_iconst (3) dL_act_488 (by decide +kernel) ?_
    refine sim_iand dL_act_489 ?_
    refine sim_if_le 497 dL_act_490 (by decide) (fun c => ?_) (fun c => ?_)
    · exact sim_lv (am_leN (am_leN (am_leN (am_leN (am_leN (am_leN (am_leN (am_leN (am_leN am_leT))))))))) (t_L_act_497 d (by omega) _ _ _ _ _)
    · refine sim_iconst (1) dL_act_493 (by decide +kernel) ?_
      refine sim_goto 498 dL_act_494 (by decide) ?_
      exact sim_lv (am_leN (am_leN (am_leN (am_leN (am_leN (am_leN (am_leN (am_leN (am_leN am_leT))))))))) (t_L_act_498 d (by omega) _ _ _ _ _ _)
def f_L_act_463  (s0 : Int32) (s1 : Int32) (s2 : Int32) (s3 : Int32) (s4 : Option (Nat × Nat)) (h : am_H) : am_R := m_bI (f_L_does s4 s3 s2 s1 s0 (0 : Int32) h) fun h53 v54 => f_L_act_537 v54 h53
theorem t_L_act_463 (d : Nat) (hd : 14 ≤ d)  (s0 : Int32) (s1 : Int32) (s2 : Int32) (s3 : Int32) (s4 : Option (Nat × Nat)) (h : am_H) : Sim m_L_act d 463 [none, none, none, none, none, none, none, none, none] [.inl s0, .inl s1, .inl s2, .inl s3, .inr (.inr s4)] h (f_L_act_463  s0 s1 s2 s3 s4 h) := by
  unfold f_L_act_463
  refine sim_iconst (0) dL_act_463 (by decide +kernel) ?_
  refine sim_staticX (d - 1) dL_act_464 (k_L_does (d - 1) (by omega) _ _ _ _ _ _ _) q_L_does wm_RL_152 rfl rfl (by omega) (Nat.le_of_ble_eq_true rfl) am_nI (am_rI fun h53 v54 => ?_) am_eI
  refine sim_goto 537 dL_act_467 (by decide) ?_
  exact sim_lv (am_leN (am_leN (am_leN (am_leN (am_leN (am_leN (am_leN (am_leN (am_leN am_leT))))))))) (t_L_act_537 d (by omega) _ _)
def f_L_act_462  (s0 : Int32) (s1 : Int32) (s2 : Int32) (s3 : Option (Nat × Nat)) (h : am_H) : am_R := f_L_act_463 (0 : Int32) s0 s1 s2 s3 h
theorem t_L_act_462 (d : Nat) (hd : 14 ≤ d)  (s0 : Int32) (s1 : Int32) (s2 : Int32) (s3 : Option (Nat × Nat)) (h : am_H) : Sim m_L_act d 462 [none, none, none, none, none, none, none, none, none] [.inl s0, .inl s1, .inl s2, .inr (.inr s3)] h (f_L_act_462  s0 s1 s2 s3 h) := by
  unfold f_L_act_462
  refine sim_iconst (0) dL_act_462 (by decide +kernel) ?_
  exact sim_lv (am_leN (am_leN (am_leN (am_leN (am_leN (am_leN (am_leN (am_leN (am_leN am_leT))))))))) (t_L_act_463 d (by omega) _ _ _ _ _ _)
def f_L_act_435  (x0 : Option (Nat × Nat)) (x2 : Int32) (x3 : Int32) (x4 : Int32) (x6 : Int32) (x7 : Int32) (x8 : Int32) (h : am_H) : am_R := if (26 : Int32) ≤ x3 then (f_L_act_470 x0 x2 x3 x4 x6 x7 h) else (if ((x4 >>> ((7 : Int32) &&& 31)) &&& (3 : Int32)) ≤ 0 then (f_L_act_462 x8 x7 (16 : Int32) x0 h) else (f_L_act_463 (1 : Int32) x8 x7 (16 : Int32) x0 h))
theorem t_L_act_435 (d : Nat) (hd : 14 ≤ d)  (x0 : Option (Nat × Nat)) (x2 : Int32) (x3 : Int32) (x4 : Int32) (x6 : Int32) (x7 : Int32) (x8 : Int32) (h : am_H) : Sim m_L_act d 435 [some (.inr (.inr x0)), none, some (.inl x2), some (.inl x3), some (.inl x4), none, some (.inl x6), some (.inl x7), some (.inl x8)] [] h (f_L_act_435  x0 x2 x3 x4 x6 x7 x8 h) := by
  unfold f_L_act_435
  refine sim_iload_n dL_act_435 rfl ?_
  refine sim_bipush (26) dL_act_436 (by decide +kernel) ?_
  refine sim_ic_ge 470 dL_act_438 (by decide) (fun c => ?_) (fun c => ?_)
  · exact sim_lv (am_leS (am_leN (am_leS (am_leS (am_leS (am_leN (am_leS (am_leS (am_leN am_leT))))))))) (t_L_act_470 d (by omega) _ _ _ _ _ _ _)
  · refine sim_aload_n dL_act_441 rfl ?_
    refine sim_bipush (16) dL_act_442 (by decide +kernel) ?_
    refine sim_iload dL_act_444 rfl ?_
    refine sim_iload dL_act_446 rfl ?_
    refine sim_iload dL_act_448 rfl ?_
    refine sim_bipush (7) dL_act_450 (by decide +kernel) ?_
    refine sim_ishr dL_act_452 ?_
    refine sim_iconst (3) dL_act_453 (by decide +kernel) ?_
    refine sim_iand dL_act_454 ?_
    refine sim_if_le 462 dL_act_455 (by decide) (fun c => ?_) (fun c => ?_)
    · exact sim_lv (am_leN (am_leN (am_leN (am_leN (am_leN (am_leN (am_leN (am_leN (am_leN am_leT))))))))) (t_L_act_462 d (by omega) _ _ _ _ _)
    · refine sim_iconst (1) dL_act_458 (by decide +kernel) ?_
      refine sim_goto 463 dL_act_459 (by decide) ?_
      exact sim_lv (am_leN (am_leN (am_leN (am_leN (am_leN (am_leN (am_leN (am_leN (am_leN am_leT))))))))) (t_L_act_463 d (by omega) _ _ _ _ _ _)
def f_L_act_414  (x0 : Option (Nat × Nat)) (x2 : Int32) (x3 : Int32) (x4 : Int32) (x6 : Int32) (x7 : Int32) (x8 : Int32) (h : am_H) : am_R := if (22 : Int32) ≤ x3 then (f_L_act_435 x0 x2 x3 x4 x6 x7 x8 h) else (m_bI (f_L_does x0 (15 : Int32) x7 x8 (0 : Int32) (0 : Int32) h) fun h51 v52 => f_L_act_537 v52 h51)
theorem t_L_act_414 (d : Nat) (hd : 14 ≤ d)  (x0 : Option (Nat × Nat)) (x2 : Int32) (x3 : Int32) (x4 : Int32) (x6 : Int32) (x7 : Int32) (x8 : Int32) (h : am_H) : Sim m_L_act d 414 [some (.inr (.inr x0)), none, some (.inl x2), some (.inl x3), some (.inl x4), none, some (.inl x6), some (.inl x7), some (.inl x8)] [] h (f_L_act_414  x0 x2 x3 x4 x6 x7 x8 h) := by
  unfold f_L_act_414
  refine sim_iload_n dL_act_414 rfl ?_
  refine sim_bipush (22) dL_act_415 (by decide +kernel) ?_
  refine sim_ic_ge 435 dL_act_417 (by decide) (fun c => ?_) (fun c => ?_)
  · exact sim_lv (am_leS (am_leN (am_leS (am_leS (am_leS (am_leN (am_leS (am_leS (am_leS am_leT))))))))) (t_L_act_435 d (by omega) _ _ _ _ _ _ _ _)
  · refine sim_aload_n dL_act_420 rfl ?_
    refine sim_bipush (15) dL_act_421 (by decide +kernel) ?_
    refine sim_iload dL_act_423 rfl ?_
    refine sim_iload dL_act_425 rfl ?_
    refine sim_iconst (0) dL_act_427 (by decide +kernel) ?_
    refine sim_iconst (0) dL_act_428 (by decide +kernel) ?_
    refine sim_staticX (d - 1) dL_act_429 (k_L_does (d - 1) (by omega) _ _ _ _ _ _ _) q_L_does wm_RL_152 rfl rfl (by omega) (Nat.le_of_ble_eq_true rfl) am_nI (am_rI fun h51 v52 => ?_) am_eI
    refine sim_goto 537 dL_act_432 (by decide) ?_
    exact sim_lv (am_leN (am_leN (am_leN (am_leN (am_leN (am_leN (am_leN (am_leN (am_leN am_leT))))))))) (t_L_act_537 d (by omega) _ _)
def f_L_act_394  (x0 : Option (Nat × Nat)) (x2 : Int32) (x3 : Int32) (x4 : Int32) (x6 : Int32) (x7 : Int32) (x8 : Int32) (h : am_H) : am_R := if (20 : Int32) ≤ x3 then (f_L_act_414 x0 x2 x3 x4 x6 x7 x8 h) else (m_bI (f_L_does x0 (14 : Int32) x7 (0 : Int32) (0 : Int32) (0 : Int32) h) fun h49 v50 => f_L_act_537 v50 h49)
theorem t_L_act_394 (d : Nat) (hd : 14 ≤ d)  (x0 : Option (Nat × Nat)) (x2 : Int32) (x3 : Int32) (x4 : Int32) (x6 : Int32) (x7 : Int32) (x8 : Int32) (h : am_H) : Sim m_L_act d 394 [some (.inr (.inr x0)), none, some (.inl x2), some (.inl x3), some (.inl x4), none, some (.inl x6), some (.inl x7), some (.inl x8)] [] h (f_L_act_394  x0 x2 x3 x4 x6 x7 x8 h) := by
  unfold f_L_act_394
  refine sim_iload_n dL_act_394 rfl ?_
  refine sim_bipush (20) dL_act_395 (by decide +kernel) ?_
  refine sim_ic_ge 414 dL_act_397 (by decide) (fun c => ?_) (fun c => ?_)
  · exact sim_lv (am_leS (am_leN (am_leS (am_leS (am_leS (am_leN (am_leS (am_leS (am_leS am_leT))))))))) (t_L_act_414 d (by omega) _ _ _ _ _ _ _ _)
  · refine sim_aload_n dL_act_400 rfl ?_
    refine sim_bipush (14) dL_act_401 (by decide +kernel) ?_
    refine sim_iload dL_act_403 rfl ?_
    refine sim_iconst (0) dL_act_405 (by decide +kernel) ?_
    refine sim_iconst (0) dL_act_406 (by decide +kernel) ?_
    refine sim_iconst (0) dL_act_407 (by decide +kernel) ?_
    refine sim_staticX (d - 1) dL_act_408 (k_L_does (d - 1) (by omega) _ _ _ _ _ _ _) q_L_does wm_RL_152 rfl rfl (by omega) (Nat.le_of_ble_eq_true rfl) am_nI (am_rI fun h49 v50 => ?_) am_eI
    refine sim_goto 537 dL_act_411 (by decide) ?_
    exact sim_lv (am_leN (am_leN (am_leN (am_leN (am_leN (am_leN (am_leN (am_leN (am_leN am_leT))))))))) (t_L_act_537 d (by omega) _ _)
