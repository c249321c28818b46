def f_L_law_23  : Nat → Nat × Nat → Option (Nat × Nat) → Option (Nat × Nat) → Option (Nat × Nat) → Int32 → am_H → am_R
  | 0, _, _, _, _, _, _ => none
  | n + 1, _, x1, x2, x3, x4, h => m_sln h fun v11 => if (v11 - (5 : Int32)) < x4 then (m_rz h (1 : Int32)) else (m_scr x4 h fun v12 => if (v12 &&& (63 : Int32)) = 0 then (f_L_law_208 (f_L_law_23  n) (1, 0) x1 x2 x3 x4 h) else if (v12 &&& (63 : Int32)) = 1 then (f_L_law_264 (f_L_law_23  n) (1, 0) x1 x2 x3 x4 h) else if (v12 &&& (63 : Int32)) = 2 then (f_L_law_367 (f_L_law_23  n) (1, 0) x1 x2 x3 x4 h) else if (v12 &&& (63 : Int32)) = 3 then (f_L_law_442 (f_L_law_23  n) (1, 0) x1 x2 x3 x4 h) else if (v12 &&& (63 : Int32)) = 4 then (f_L_law_510 (f_L_law_23  n) (1, 0) x1 x2 x3 x4 h) else if (v12 &&& (63 : Int32)) = 5 then (f_L_law_578 (f_L_law_23  n) (1, 0) x1 x2 x3 x4 h) else if (v12 &&& (63 : Int32)) = 6 then (f_L_law_646 (f_L_law_23  n) (1, 0) x1 x2 x3 x4 h) else if (v12 &&& (63 : Int32)) = 7 then (f_L_law_702 (f_L_law_23  n) (1, 0) x1 x2 x3 x4 h) else if (v12 &&& (63 : Int32)) = 8 then (f_L_law_758 (f_L_law_23  n) (1, 0) x1 x2 x3 x4 h) else if (v12 &&& (63 : Int32)) = 9 then (f_L_law_849 (f_L_law_23  n) (1, 0) x1 x2 x3 x4 h) else if (v12 &&& (63 : Int32)) = 10 then (f_L_law_917 (f_L_law_23  n) (1, 0) x1 x2 x3 x4 h) else if (v12 &&& (63 : Int32)) = 11 then (f_L_law_965 (f_L_law_23  n) (1, 0) x1 x2 x3 x4 h) else if (v12 &&& (63 : Int32)) = 12 then (f_L_law_1040 (f_L_law_23  n) (1, 0) x1 x2 x3 x4 h) else if (v12 &&& (63 : Int32)) = 13 then (f_L_law_1108 (f_L_law_23  n) (1, 0) x1 x2 x3 x4 h) else if (v12 &&& (63 : Int32)) = 14 then (f_L_law_1152 (f_L_law_23  n) (1, 0) x1 x2 x3 x4 h) else if (v12 &&& (63 : Int32)) = 15 then (f_L_law_1208 (f_L_law_23  n) (1, 0) x1 x2 x3 x4 h) else if (v12 &&& (63 : Int32)) = 16 then (f_L_law_1276 (f_L_law_23  n) (1, 0) x1 x2 x3 x4 h) else if (v12 &&& (63 : Int32)) = 17 then (f_L_law_1379 (f_L_law_23  n) (1, 0) x1 x2 x3 x4 h) else if (v12 &&& (63 : Int32)) = 18 then (f_L_law_1447 (f_L_law_23  n) (1, 0) x1 x2 x3 x4 h) else if (v12 &&& (63 : Int32)) = 19 then (f_L_law_1550 (f_L_law_23  n) (1, 0) x1 x2 x3 x4 h) else if (v12 &&& (63 : Int32)) = 20 then (f_L_law_1606 (f_L_law_23  n) (1, 0) x1 x2 x3 x4 h) else if (v12 &&& (63 : Int32)) = 21 then (f_L_law_1619 (f_L_law_23  n) (1, 0) x1 x2 x3 x4 h) else if (v12 &&& (63 : Int32)) = 22 then (f_L_law_1703 (f_L_law_23  n) (1, 0) x1 x2 x3 x4 h) else if (v12 &&& (63 : Int32)) = 23 then (f_L_law_1803 (f_L_law_23  n) (1, 0) x1 x2 x3 x4 h) else if (v12 &&& (63 : Int32)) = 24 then (f_L_law_1816 (f_L_law_23  n) (1, 0) x1 x2 x3 x4 h) else if (v12 &&& (63 : Int32)) = 25 then (f_L_law_1829 (f_L_law_23  n) (1, 0) x1 x2 x3 x4 h) else if (v12 &&& (63 : Int32)) = 26 then (f_L_law_1913 (f_L_law_23  n) (1, 0) x1 x2 x3 x4 h) else if (v12 &&& (63 : Int32)) = 27 then (f_L_law_1981 (f_L_law_23  n) (1, 0) x1 x2 x3 x4 h) else if (v12 &&& (63 : Int32)) = 28 then (f_L_law_2073 (f_L_law_23  n) (1, 0) x1 x2 x3 x4 h) else if (v12 &&& (63 : Int32)) = 29 then (f_L_law_2129 (f_L_law_23  n) (1, 0) x1 x2 x3 x4 h) else if (v12 &&& (63 : Int32)) = 30 then (f_L_law_2142 (f_L_law_23  n) (1, 0) x1 x2 x3 x4 h) else if (v12 &&& (63 : Int32)) = 31 then (f_L_law_2233 (f_L_law_23  n) (1, 0) x1 x2 x3 x4 h) else if (v12 &&& (63 : Int32)) = 32 then (f_L_law_2313 (f_L_law_23  n) (1, 0) x1 x2 x3 x4 h) else if (v12 &&& (63 : Int32)) = 33 then (f_L_law_2388 (f_L_law_23  n) (1, 0) x1 x2 x3 x4 h) else if (v12 &&& (63 : Int32)) = 34 then (f_L_law_2456 (f_L_law_23  n) (1, 0) x1 x2 x3 x4 h) else if (v12 &&& (63 : Int32)) = 35 then (f_L_law_2524 (f_L_law_23  n) (1, 0) x1 x2 x3 x4 h) else if (v12 &&& (63 : Int32)) = 36 then (f_L_law_2580 (f_L_law_23  n) (1, 0) x1 x2 x3 x4 h) else if (v12 &&& (63 : Int32)) = 37 then (f_L_law_2683 (f_L_law_23  n) (1, 0) x1 x2 x3 x4 h) else if (v12 &&& (63 : Int32)) = 38 then (f_L_law_2739 (f_L_law_23  n) (1, 0) x1 x2 x3 x4 h) else (f_L_law_2795 (f_L_law_23  n) (1, 0) x1 x2 x3 x4 h))
theorem t_L_law_23 (d : Nat) (hd : 10 ≤ d)  : ∀ (n : Nat) (x1 : Option (Nat × Nat)) (x2 : Option (Nat × Nat)) (x3 : Option (Nat × Nat)) (x4 : Int32) (h : am_H), Sim m_L_law d 23 [some (.inr (.inr (some (1, 0)))), some (.inr (.inr x1)), some (.inr (.inr x2)), some (.inr (.inr x3)), some (.inl x4), none, none] [] h (f_L_law_23  n (1, 0) x1 x2 x3 x4 h) := by
  intro n
  induction n with
  | zero => intros; exact sim_none
  | succ n hrc23 =>
    intro x1 x2 x3 x4 h
    rw [f_L_law_23]
    refine sim_iload dL_law_23 rfl ?_
    refine sim_aload_n dL_law_25 rfl ?_
    refine sim_sln dL_law_26 (fun v11 => ?_)
    refine sim_iconst (5) dL_law_27 (by decide +kernel) ?_
    refine sim_isub dL_law_28 ?_
    refine sim_ic_gt 2801 dL_law_29 (by decide) (fun c => ?_) (fun c => ?_)
    · refine sim_iconst (1) dL_law_2801 (by decide +kernel) ?_
      exact sim_zret dL_law_2802 rfl
    · refine sim_aload_n dL_law_32 rfl ?_
      refine sim_iload dL_law_33 rfl ?_
      refine sim_scr dL_law_35 (fun v12 => ?_)
      refine sim_bipush (63) dL_law_36 (by decide +kernel) ?_
      refine sim_iand dL_law_38 ?_
      refine sim_case (fun c39_0 => ?_) (fun c39_0 => ?_)
      · refine sim_tableIn (off := 169) (0) 208 c39_0 dL_law_39 (by decide +kernel) (by decide +kernel) (by decide +kernel) (by decide) ?_
        exact sim_lv (am_leS (am_leS (am_leS (am_leS (am_leS (am_leN (am_leN am_leT))))))) (t_L_law_208 d (by omega) _ hrc23 _ _ _ _ _)
      refine sim_case (fun c39_1 => ?_) (fun c39_1 => ?_)
      · refine sim_tableIn (off := 225) (1) 264 c39_1 dL_law_39 (by decide +kernel) (by decide +kernel) (by decide +kernel) (by decide) ?_
        exact sim_lv (am_leS (am_leS (am_leS (am_leS (am_leS (am_leN (am_leN am_leT))))))) (t_L_law_264 d (by omega) _ hrc23 _ _ _ _ _)
      refine sim_case (fun c39_2 => ?_) (fun c39_2 => ?_)
      · refine sim_tableIn (off := 328) (2) 367 c39_2 dL_law_39 (by decide +kernel) (by decide +kernel) (by decide +kernel) (by decide) ?_
        exact sim_lv (am_leS (am_leS (am_leS (am_leS (am_leS (am_leN (am_leN am_leT))))))) (t_L_law_367 d (by omega) _ hrc23 _ _ _ _ _)
      refine sim_case (fun c39_3 => ?_) (fun c39_3 => ?_)
      · refine sim_tableIn (off := 403) (3) 442 c39_3 dL_law_39 (by decide +kernel) (by decide +kernel) (by decide +kernel) (by decide) ?_
        exact sim_lv (am_leS (am_leS (am_leS (am_leS (am_leS (am_leN (am_leN am_leT))))))) (t_L_law_442 d (by omega) _ hrc23 _ _ _ _ _)
      refine sim_case (fun c39_4 => ?_) (fun c39_4 => ?_)
      · refine sim_tableIn (off := 471) (4) 510 c39_4 dL_law_39 (by decide +kernel) (by decide +kernel) (by decide +kernel) (by decide) ?_
        exact sim_lv (am_leS (am_leS (am_leS (am_leS (am_leS (am_leN (am_leN am_leT))))))) (t_L_law_510 d (by omega) _ hrc23 _ _ _ _ _)
      refine sim_case (fun c39_5 => ?_) (fun c39_5 => ?_)
      · refine sim_tableIn (off := 539) (5) 578 c39_5 dL_law_39 (by decide +kernel) (by decide +kernel) (by decide +kernel) (by decide) ?_
        exact sim_lv (am_leS (am_leS (am_leS (am_leS (am_leS (am_leN (am_leN am_leT))))))) (t_L_law_578 d (by omega) _ hrc23 _ _ _ _ _)
      refine sim_case (fun c39_6 => ?_) (fun c39_6 => ?_)
      · refine sim_tableIn (off := 607) (6) 646 c39_6 dL_law_39 (by decide +kernel) (by decide +kernel) (by decide +kernel) (by decide) ?_
        exact sim_lv (am_leS (am_leS (am_leS (am_leS (am_leS (am_leN (am_leN am_leT))))))) (t_L_law_646 d (by omega) _ hrc23 _ _ _ _ _)
      refine sim_case (fun c39_7 => ?_) (fun c39_7 => ?_)
      · refine sim_tableIn (off := 663) (7) 702 c39_7 dL_law_39 (by decide +kernel) (by decide +kernel) (by decide +kernel) (by decide) ?_
        exact sim_lv (am_leS (am_leS (am_leS (am_leS (am_leS (am_leN (am_leN am_leT))))))) (t_L_law_702 d (by omega) _ hrc23 _ _ _ _ _)
      refine sim_case (fun c39_8 => ?_) (fun c39_8 => ?_)
      · refine sim_tableIn (off := 719) (8) 758 c39_8 dL_law_39 (by decide +kernel) (by decide +kernel) (by decide +kernel) (by decide) ?_
        exact sim_lv (am_leS (am_leS (am_leS (am_leS (am_leS (am_leN (am_leN am_leT))))))) (t_L_law_758 d (by omega) _ hrc23 _ _ _ _ _)
      refine sim_case (fun c39_9 => ?_) (fun c39_9 => ?_)
      · refine sim_tableIn (off := 810) (9) 849 c39_9 dL_law_39 (by decide +kernel) (by decide +kernel) (by decide +kernel) (by decide) ?_
        exact sim_lv (am_leS (am_leS (am_leS (am_leS (am_leS (am_leN (am_leN am_leT))))))) (t_L_law_849 d (by omega) _ hrc23 _ _ _ _ _)
      refine sim_case (fun c39_10 => ?_) (fun c39_10 => ?_)
      · refine sim_tableIn (off := 878) (10) 917 c39_10 dL_law_39 (by decide +kernel) (by decide +kernel) (by decide +kernel) (by decide) ?_
        exact sim_lv (am_leS (am_leS (am_leS (am_leS (am_leS (am_leN (am_leN am_leT))))))) (t_L_law_917 d (by omega) _ hrc23 _ _ _ _ _)
      refine sim_case (fun c39_11 => ?_) (fun c39_11 => ?_)
      · refine sim_tableIn (off := 926) (11) 965 c39_11 dL_law_39 (by decide +kernel) (by decide +kernel) (by decide +kernel) (by decide) ?_
        exact sim_lv (am_leS (am_leS (am_leS (am_leS (am_leS (am_leN (am_leN am_leT))))))) (t_L_law_965 d (by omega) _ hrc23 _ _ _ _ _)
      refine sim_case (fun c39_12 => ?_) (fun c39_12 => ?_)
      · refine sim_tableIn (off := 1001) (12) 1040 c39_12 dL_law_39 (by decide +kernel) (by decide +kernel) (by decide +kernel) (by decide) ?_
        exact sim_lv (am_leS (am_leS (am_leS (am_leS (am_leS (am_leN (am_leN am_leT))))))) (t_L_law_1040 d (by omega) _ hrc23 _ _ _ _ _)
      refine sim_case (fun c39_13 => ?_) (fun c39_13 => ?_)
      · refine sim_tableIn (off := 1069) (13) 1108 c39_13 dL_law_39 (by decide +kernel) (by decide +kernel) (by decide +kernel) (by decide) ?_
        exact sim_lv (am_leS (am_leS (am_leS (am_leS (am_leS (am_leN (am_leN am_leT))))))) (t_L_law_1108 d (by omega) _ hrc23 _ _ _ _ _)
      refine sim_case (fun c39_14 => ?_) (fun c39_14 => ?_)
      · refine sim_tableIn (off := 1113) (14) 1152 c39_14 dL_law_39 (by decide +kernel) (by decide +kernel) (by decide +kernel) (by decide) ?_
        exact sim_lv (am_leS (am_leS (am_leS (am_leS (am_leS (am_leN (am_leN am_leT))))))) (t_L_law_1152 d (by omega) _ hrc23 _ _ _ _ _)
      refine sim_case (fun c39_15 => ?_) (fun c39_15 => ?_)
      · refine sim_tableIn (off := 1169) (15) 1208 c39_15 dL_law_39 (by decide +kernel) (by decide +kernel) (by decide +kernel) (by decide) ?_
        exact sim_lv (am_leS (am_leS (am_leS (am_leS (am_leS (am_leN (am_leN am_leT))))))) (t_L_law_1208 d (by omega) _ hrc23 _ _ _ _ _)
      refine sim_case (fun c39_16 => ?_) (fun c39_16 => ?_)
      · refine sim_tableIn (off := 1237) (16) 1276 c39_16 dL_law_39 (by decide +kernel) (by decide +kernel) (by decide +kernel) (by decide) ?_
        exact sim_lv (am_leS (am_leS (am_leS (am_leS (am_leS (am_leN (am_leN am_leT))))))) (t_L_law_1276 d (by omega) _ hrc23 _ _ _ _ _)
      refine sim_case (fun c39_17 => ?_) (fun c39_17 => ?_)
      · refine sim_tableIn (off := 1340) (17) 1379 c39_17 dL_law_39 (by decide +kernel) (by decide +kernel) (by decide +kernel) (by decide) ?_
        exact sim_lv (am_leS (am_leS (am_leS (am_leS (am_leS (am_leN (am_leN am_leT))))))) (t_L_law_1379 d (by omega) _ hrc23 _ _ _ _ _)
      refine sim_case (fun c39_18 => ?_) (fun c39_18 => ?_)
      · refine sim_tableIn (off := 1408) (18) 1447 c39_18 dL_law_39 (by decide +kernel) (by decide +kernel) (by decide +kernel) (by decide) ?_
        exact sim_lv (am_leS (am_leS (am_leS (am_leS (am_leS (am_leN (am_leN am_leT))))))) (t_L_law_1447 d (by omega) _ hrc23 _ _ _ _ _)
      refine sim_case (fun c39_19 => ?_) (fun c39_19 => ?_)
      · refine sim_tableIn (off := 1511) (19) 1550 c39_19 dL_law_39 (by decide +kernel) (by decide +kernel) (by decide +kernel) (by decide) ?_
        exact sim_lv (am_leS (am_leS (am_leS (am_leS (am_leS (am_leN (am_leN am_leT))))))) (t_L_law_1550 d (by omega) _ hrc23 _ _ _ _ _)
      refine sim_case (fun c39_20 => ?_) (fun c39_20 => ?_)
      · refine sim_tableIn (off := 1567) (20) 1606 c39_20 dL_law_39 (by decide +kernel) (by decide +kernel) (by decide +kernel) (by decide) ?_
        exact sim_lv (am_leS (am_leS (am_leS (am_leS (am_leS (am_leN (am_leN am_leT))))))) (t_L_law_1606 d (by omega) _ hrc23 _ _ _ _ _)
      refine sim_case (fun c39_21 => ?_) (fun c39_21 => ?_)
      · refine sim_tableIn (off := 1580) (21) 1619 c39_21 dL_law_39 (by decide +kernel) (by decide +kernel) (by decide +kernel) (by decide) ?_
        exact sim_lv (am_leS (am_leS (am_leS (am_leS (am_leS (am_leN (am_leN am_leT))))))) (t_L_law_1619 d (by omega) _ hrc23 _ _ _ _ _)
      refine sim_case (fun c39_22 => ?_) (fun c39_22 => ?_)
      · refine sim_tableIn (off := 1664) (22) 1703 c39_22 dL_law_39 (by decide +kernel) (by decide +kernel) (by decide +kernel) (by decide) ?_
        exact sim_lv (am_leS (am_leS (am_leS (am_leS (am_leS (am_leN (am_leN am_leT))))))) (t_L_law_1703 d (by omega) _ hrc23 _ _ _ _ _)
      refine sim_case (fun c39_23 => ?_) (fun c39_23 => ?_)
      · refine sim_tableIn (off := 1764) (23) 1803 c39_23 dL_law_39 (by decide +kernel) (by decide +kernel) (by decide +kernel) (by decide) ?_
        exact sim_lv (am_leS (am_leS (am_leS (am_leS (am_leS (am_leN (am_leN am_leT))))))) (t_L_law_1803 d (by omega) _ hrc23 _ _ _ _ _)
      refine sim_case (fun c39_24 => ?_) (fun c39_24 => ?_)
      · refine sim_tableIn (off := 1777) (24) 1816 c39_24 dL_law_39 (by decide +kernel) (by decide +kernel) (by decide +kernel) (by decide) ?_
        exact sim_lv (am_leS (am_leS (am_leS (am_leS (am_leS (am_leN (am_leN am_leT))))))) (t_L_law_1816 d (by omega) _ hrc23 _ _ _ _ _)
      refine sim_case (fun c39_25 => ?_) (fun c39_25 => ?_)
      · refine sim_tableIn (off := 1790) (25) 1829 c39_25 dL_law_39 (by decide +kernel) (by decide +kernel) (by decide +kernel) (by decide) ?_
        exact sim_lv (am_leS (am_leS (am_leS (am_leS (am_leS (am_leN (am_leN am_leT))))))) (t_L_law_1829 d (by omega) _ hrc23 _ _ _ _ _)
      refine sim_case (fun c39_26 => ?_) (fun c39_26 => ?_)
      · refine sim_tableIn (off := 1874) (26) 1913 c39_26 dL_law_39 (by decide +kernel) (by decide +kernel) (by decide +kernel) (by decide) ?_
        exact sim_lv (am_leS (am_leS (am_leS (am_leS (am_leS (am_leN (am_leN am_leT))))))) (t_L_law_1913 d (by omega) _ hrc23 _ _ _ _ _)
      refine sim_case (fun c39_27 => ?_) (fun c39_27 => ?_)
      · refine sim_tableIn (off := 1942) (27) 1981 c39_27 dL_law_39 (by decide +kernel) (by decide +kernel) (by decide +kernel) (by decide) ?_
        exact sim_lv (am_leS (am_leS (am_leS (am_leS (am_leS (am_leN (am_leN am_leT))))))) (t_L_law_1981 d (by omega) _ hrc23 _ _ _ _ _)
      refine sim_case (fun c39_28 => ?_) (fun c39_28 => ?_)
      · refine sim_tableIn (off := 2034) (28) 2073 c39_28 dL_law_39 (by decide +kernel) (by decide +kernel) (by decide +kernel) (by decide) ?_
        exact sim_lv (am_leS (am_leS (am_leS (am_leS (am_leS (am_leN (am_leN am_leT))))))) (t_L_law_2073 d (by omega) _ hrc23 _ _ _ _ _)
      refine sim_case (fun c39_29 => ?_) (fun c39_29 => ?_)
      · refine sim_tableIn (off := 2090) (29) 2129 c39_29 dL_law_39 (by decide +kernel) (by decide +kernel) (by decide +kernel) (by decide) ?_
        exact sim_lv (am_leS (am_leS (am_leS (am_leS (am_leS (am_leN (am_leN am_leT))))))) (t_L_law_2129 d (by omega) _ hrc23 _ _ _ _ _)
      refine sim_case (fun c39_30 => ?_) (fun c39_30 => ?_)
      · refine sim_tableIn (off := 2103) (30) 2142 c39_30 dL_law_39 (by decide +kernel) (by decide +kernel) (by decide +kernel) (by decide) ?_
        exact sim_lv (am_leS (am_leS (am_leS (am_leS (am_leS (am_leN (am_leN am_leT))))))) (t_L_law_2142 d (by omega) _ hrc23 _ _ _ _ _)
      refine sim_case (fun c39_31 => ?_) (fun c39_31 => ?_)
      · refine sim_tableIn (off := 2194) (31) 2233 c39_31 dL_law_39 (by decide +kernel) (by decide +kernel) (by decide +kernel) (by decide) ?_
        exact sim_lv (am_leS (am_leS (am_leS (am_leS (am_leS (am_leN (am_leN am_leT))))))) (t_L_law_2233 d (by omega) _ hrc23 _ _ _ _ _)
      refine sim_case (fun c39_32 => ?_) (fun c39_32 => ?_)
      · refine sim_tableIn (off := 2274) (32) 2313 c39_32 dL_law_39 (by decide +kernel) (by decide +kernel) (by decide +kernel) (by decide) ?_
        exact sim_lv (am_leS (am_leS (am_leS (am_leS (am_leS (am_leN (am_leN am_leT))))))) (t_L_law_2313 d (by omega) _ hrc23 _ _ _ _ _)
      refine sim_case (fun c39_33 => ?_) (fun c39_33 => ?_)
      · refine sim_tableIn (off := 2349) (33) 2388 c39_33 dL_law_39 (by decide +kernel) (by decide +kernel) (by decide +kernel) (by decide) ?_
        exact sim_lv (am_leS (am_leS (am_leS (am_leS (am_leS (am_leN (am_leN am_leT))))))) (t_L_law_2388 d (by omega) _ hrc23 _ _ _ _ _)
      refine sim_case (fun c39_34 => ?_) (fun c39_34 => ?_)
      · refine sim_tableIn (off := 2417) (34) 2456 c39_34 dL_law_39 (by decide +kernel) (by decide +kernel) (by decide +kernel) (by decide) ?_
        exact sim_lv (am_leS (am_leS (am_leS (am_leS (am_leS (am_leN (am_leN am_leT))))))) (t_L_law_2456 d (by omega) _ hrc23 _ _ _ _ _)
      refine sim_case (fun c39_35 => ?_) (fun c39_35 => ?_)
      · refine sim_tableIn (off := 2485) (35) 2524 c39_35 dL_law_39 (by decide +kernel) (by decide +kernel) (by decide +kernel) (by decide) ?_
        exact sim_lv (am_leS (am_leS (am_leS (am_leS (am_leS (am_leN (am_leN am_leT))))))) (t_L_law_2524 d (by omega) _ hrc23 _ _ _ _ _)
      refine sim_case (fun c39_36 => ?_) (fun c39_36 => ?_)
      · refine sim_tableIn (off := 2541) (36) 2580 c39_36 dL_law_39 (by decide +kernel) (by decide +kernel) (by decide +kernel) (by decide) ?_
        exact sim_lv (am_leS (am_leS (am_leS (am_leS (am_leS (am_leN (am_leN am_leT))))))) (t_L_law_2580 d (by omega) _ hrc23 _ _ _ _ _)
      refine sim_case (fun c39_37 => ?_) (fun c39_37 => ?_)
      · refine sim_tableIn (off := 2644) (37) 2683 c39_37 dL_law_39 (by decide +kernel) (by decide +kernel) (by decide +kernel) (by decide) ?_
        exact sim_lv (am_leS (am_leS (am_leS (am_leS (am_leS (am_leN (am_leN am_leT))))))) (t_L_law_2683 d (by omega) _ hrc23 _ _ _ _ _)
      refine sim_case (fun c39_38 => ?_) (fun c39_38 => ?_)
      · refine sim_tableIn (off := 2700) (38) 2739 c39_38 dL_law_39 (by decide +kernel) (by decide +kernel) (by decide +kernel) (by decide) ?_
        exact sim_lv (am_leS (am_leS (am_leS (am_leS (am_leS (am_leN (am_leN am_leT))))))) (t_L_law_2739 d (by omega) _ hrc23 _ _ _ _ _)
      refine sim_tableOut 2795 dL_law_39 ((am_out (N := 39) (by decide) (lt_s (lt_s (lt_s (lt_s (lt_s (lt_s (lt_s (lt_s (lt_s (lt_s (lt_s (lt_s (lt_s (lt_s (lt_s (lt_s (lt_s (lt_s (lt_s (lt_s (lt_s (lt_s (lt_s (lt_s (lt_s (lt_s (lt_s (lt_s (lt_s (lt_s (lt_s (lt_s (lt_s (lt_s (lt_s (lt_s (lt_s (lt_s (lt_s lt_0 c39_0) c39_1) c39_2) c39_3) c39_4) c39_5) c39_6) c39_7) c39_8) c39_9) c39_10) c39_11) c39_12) c39_13) c39_14) c39_15) c39_16) c39_17) c39_18) c39_19) c39_20) c39_21) c39_22) c39_23) c39_24) c39_25) c39_26) c39_27) c39_28) c39_29) c39_30) c39_31) c39_32) c39_33) c39_34) c39_35) c39_36) c39_37) c39_38)).imp id (fun z => by omega)) (by decide) ?_
      exact sim_lv (am_leS (am_leS (am_leS (am_leS (am_leS (am_leN (am_leN am_leT))))))) (t_L_law_2795 d (by omega) _ hrc23 _ _ _ _ _)
