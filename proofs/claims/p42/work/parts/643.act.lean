/-! ## the law's act is one of these, whatever its number -/
theorem af_1083 (s0 : Int32) (s1 : Int32) (k_s1 : Cd s1) : AF (fun a h => f_L_act_1083 s0 s1 (some a) h) := by
  unfold f_L_act_1083
  exact AF.does k_s1
theorem af_1079 (s0 : Int32) (k_s0 : s0 ≠ 0) (s1 : Int32) (s2 : Int32) (s3 : Int32) (k_s3 : Cd s3) : AF (fun a h => f_L_act_1079 s0 s1 s2 s3 (some a) h) := by
  unfold f_L_act_1079
  refine AF.low (K := fun v121 a h120 => f_L_act_1083 (s2 + v121) s3 (some a) h120) k_s0 ?_
  show AF (fun a h120 => f_L_act_1083 (s2 + (lowv s1 s0)) s3 (some a) h120)
  exact af_1083 (s2 + (lowv s1 s0)) s3 k_s3
theorem af_1078 (s0 : Int32) (s1 : Int32) (s2 : Int32) (k_s2 : Cd s2) : AF (fun a h => f_L_act_1078 s0 s1 s2 (some a) h) := by
  unfold f_L_act_1078
  exact af_1079 (5 : Int32) (by decide) s0 s1 s2 k_s2
theorem af_1060 (x4 : Int32) (s0 : Int32) (k_s0 : Cd s0) : AF (fun a h => f_L_act_1060 x4 s0 (some a) h) := by
  unfold f_L_act_1060
  refine AF.ite (fun _ => ?_) (fun _ => ?_)
  · exact af_1079 (50 : Int32) (by decide) x4 (1 : Int32) s0 k_s0
  · exact af_1078 x4 (1 : Int32) s0 k_s0
theorem af_1044 (x2 : Int32) (x4 : Int32) : AF (fun a h => f_L_act_1044 (some a) x2 x4 h) := by
  unfold f_L_act_1044
  refine AF.ite (fun _ => ?_) (fun _ => ?_)
  · exact af_1060 x4 (0 : Int32) (by unfold Cd; decide)
  · refine AF.low (K := fun v117 a h116 => f_L_act_1083 v117 (0 : Int32) (some a) h116) (by decide) ?_
    show AF (fun a h116 => f_L_act_1083 (lowv x4 (120 : Int32)) (0 : Int32) (some a) h116)
    exact af_1083 (lowv x4 (120 : Int32)) (0 : Int32) (by unfold Cd; decide)
theorem af_1032 (x5 : Int32) : AF (fun a h => f_L_act_1032 (some a) x5 h) := by
  unfold f_L_act_1032
  exact AF.does (by unfold Cd; decide)
theorem af_1025 (s0 : Int32) (s1 : Int32) (s2 : Int32) (s3 : Int32) (k_s3 : Cd s3) : AF (fun a h => f_L_act_1025 s0 s1 s2 s3 (some a) h) := by
  unfold f_L_act_1025
  exact AF.does k_s3
theorem af_1023 (x6 : Int32) (s0 : Int32) (s1 : Int32) (s2 : Int32) (k_s2 : Cd s2) : AF (fun a h => f_L_act_1023 x6 s0 s1 s2 (some a) h) := by
  unfold f_L_act_1023
  exact af_1025 x6 s0 s1 s2 k_s2
theorem af_1017 (s0 : Int32) (k_s0 : s0 ≠ 0) (s1 : Int32) (s2 : Int32) (s3 : Int32) (s4 : Int32) (k_s4 : Cd s4) : AF (fun a h => f_L_act_1017 s0 s1 s2 s3 s4 (some a) h) := by
  unfold f_L_act_1017
  refine AF.low (K := fun v111 a h110 => f_L_act_1025 v111 s2 s3 s4 (some a) h110) k_s0 ?_
  show AF (fun a h110 => f_L_act_1025 (lowv s1 s0) s2 s3 s4 (some a) h110)
  exact af_1025 (lowv s1 s0) s2 s3 s4 k_s4
theorem af_1015 (s0 : Int32) (s1 : Int32) (s2 : Int32) (s3 : Int32) (k_s3 : Cd s3) : AF (fun a h => f_L_act_1015 s0 s1 s2 s3 (some a) h) := by
  unfold f_L_act_1015
  exact af_1017 (12 : Int32) (by decide) s0 s1 s2 s3 k_s3
theorem af_973 (x2 : Int32) (x3 : Int32) (x4 : Int32) (x5 : Int32) (x6 : Int32) : AF (fun a h => f_L_act_973 (some a) x2 x3 x4 x5 x6 h) := by
  unfold f_L_act_973
  refine AF.ite (fun _ => ?_) (fun _ => ?_)
  · exact af_1032 x5
  · refine AF.ite (fun _ => ?_) (fun _ => ?_)
    · refine AF.ite (fun _ => ?_) (fun _ => ?_)
      · exact af_1015 (x4 >>> ((3 : Int32) &&& 31)) ((x4 >>> ((6 : Int32) &&& 31)) &&& (1 : Int32)) x5 (32 : Int32) (by unfold Cd; decide)
      · exact af_1017 (14 : Int32) (by decide) (x4 >>> ((3 : Int32) &&& 31)) ((x4 >>> ((6 : Int32) &&& 31)) &&& (1 : Int32)) x5 (32 : Int32) (by unfold Cd; decide)
    · exact af_1023 x6 ((x4 >>> ((6 : Int32) &&& 31)) &&& (1 : Int32)) x5 (32 : Int32) (by unfold Cd; decide)
theorem af_956 (x4 : Int32) (s0 : Int32) (s1 : Int32) (k_s1 : Cd s1) : AF (fun a h => f_L_act_956 x4 s0 s1 (some a) h) := by
  unfold f_L_act_956
  refine AF.low (K := fun v105 a h104 => m_bI (f_L_does (some a) s1 s0 v105 (0 : Int32) (0 : Int32) h104) fun h106 v107 => f_L_act_1043 v107 h106) (by decide) ?_
  show AF (fun a h104 => m_bI (f_L_does (some a) s1 s0 (lowv (x4 >>> ((5 : Int32) &&& 31)) (32 : Int32)) (0 : Int32) (0 : Int32) h104) fun h106 v107 => f_L_act_1043 v107 h106)
  exact AF.does k_s1
theorem af_949 (x4 : Int32) (s0 : Int32) (k_s0 : Cd s0) : AF (fun a h => f_L_act_949 x4 s0 (some a) h) := by
  unfold f_L_act_949
  refine AF.low (K := fun v109 a h108 => f_L_act_956 x4 v109 s0 (some a) h108) (by decide) ?_
  show AF (fun a h108 => f_L_act_956 x4 (lowv x4 (32 : Int32)) s0 (some a) h108)
  exact af_956 x4 (lowv x4 (32 : Int32)) s0 k_s0
theorem af_932 (x2 : Int32) (x3 : Int32) (x4 : Int32) (x5 : Int32) (x6 : Int32) : AF (fun a h => f_L_act_932 (some a) x2 x3 x4 x5 x6 h) := by
  unfold f_L_act_932
  refine AF.ite (fun _ => ?_) (fun _ => ?_)
  · exact af_973 x2 x3 x4 x5 x6
  · refine AF.ite (fun _ => ?_) (fun _ => ?_)
    · exact af_949 x4 (2 : Int32) (by unfold Cd; decide)
    · exact af_956 x4 x5 (2 : Int32) (by unfold Cd; decide)
theorem af_924 (s0 : Int32) (s1 : Int32) (s2 : Int32) (k_s2 : Cd s2) : AF (fun a h => f_L_act_924 s0 s1 s2 (some a) h) := by
  unfold f_L_act_924
  exact AF.does k_s2
theorem af_917 (x4 : Int32) (s0 : Int32) (s1 : Int32) (k_s1 : Cd s1) : AF (fun a h => f_L_act_917 x4 s0 s1 (some a) h) := by
  unfold f_L_act_917
  refine AF.low (K := fun v103 a h102 => f_L_act_924 v103 s0 s1 (some a) h102) (by decide) ?_
  show AF (fun a h102 => f_L_act_924 (lowv x4 (32 : Int32)) s0 s1 (some a) h102)
  exact af_924 (lowv x4 (32 : Int32)) s0 s1 k_s1
theorem af_891 (x2 : Int32) (x3 : Int32) (x4 : Int32) (x5 : Int32) (x6 : Int32) : AF (fun a h => f_L_act_891 (some a) x2 x3 x4 x5 x6 h) := by
  unfold f_L_act_891
  refine AF.ite (fun _ => ?_) (fun _ => ?_)
  · exact af_1044 x2 x4
  · refine AF.ite (fun _ => ?_) (fun _ => ?_)
    · exact af_932 x2 x3 x4 x5 x6
    · refine AF.ite (fun _ => ?_) (fun _ => ?_)
      · exact af_917 x4 x6 (30 : Int32) (by unfold Cd; decide)
      · exact af_924 x5 x6 (30 : Int32) (by unfold Cd; decide)
theorem af_866 (x4 : Int32) (x5 : Int32) : AF (fun a h => f_L_act_866 (some a) x4 x5 h) := by
  unfold f_L_act_866
  refine AF.low (K := fun v97 a h96 => m_bI (f_L_does (some a) (1 : Int32) x5 v97 ((x4 >>> ((8 : Int32) &&& 31)) &&& (1 : Int32)) (0 : Int32) h96) fun h98 v99 => f_L_act_890 v99 h98) (by decide) ?_
  show AF (fun a h96 => m_bI (f_L_does (some a) (1 : Int32) x5 (lowv (x4 >>> ((5 : Int32) &&& 31)) (12 : Int32)) ((x4 >>> ((8 : Int32) &&& 31)) &&& (1 : Int32)) (0 : Int32) h96) fun h98 v99 => f_L_act_890 v99 h98)
  exact AF.does (by unfold Cd; decide)
theorem af_843 (x3 : Int32) (x4 : Int32) (x5 : Int32) (x6 : Int32) : AF (fun a h => f_L_act_843 (some a) x3 x4 x5 x6 h) := by
  unfold f_L_act_843
  refine AF.ite (fun _ => ?_) (fun _ => ?_)
  · exact AF.does (by unfold Cd; decide)
  · exact af_866 x4 x5
theorem af_832 (s0 : Int32) (k_s0 : s0 ≠ 0) (s1 : Int32) (s2 : Int32) (s3 : Int32) (k_s3 : Cd s3) : AF (fun a h => f_L_act_832 s0 s1 s2 s3 (some a) h) := by
  unfold f_L_act_832
  refine AF.low (K := fun v91 a h90 => m_bI (f_L_does (some a) s3 s2 v91 (0 : Int32) (0 : Int32) h90) fun h92 v93 => f_L_act_890 v93 h92) k_s0 ?_
  show AF (fun a h90 => m_bI (f_L_does (some a) s3 s2 (lowv s1 s0) (0 : Int32) (0 : Int32) h90) fun h92 v93 => f_L_act_890 v93 h92)
  exact AF.does k_s3
theorem af_831 (s0 : Int32) (s1 : Int32) (s2 : Int32) (k_s2 : Cd s2) : AF (fun a h => f_L_act_831 s0 s1 s2 (some a) h) := by
  unfold f_L_act_831
  exact af_832 (4 : Int32) (by decide) s0 s1 s2 k_s2
theorem af_802 (x2 : Int32) (x3 : Int32) (x4 : Int32) (x5 : Int32) (x6 : Int32) : AF (fun a h => f_L_act_802 (some a) x2 x3 x4 x5 x6 h) := by
  unfold f_L_act_802
  refine AF.ite (fun _ => ?_) (fun _ => ?_)
  · refine AF.low (K := fun v89 a h88 => if x2 = 0 then (f_L_act_831 (x4 >>> ((3 : Int32) &&& 31)) v89 (28 : Int32) (some a) h88) else (f_L_act_832 (6 : Int32) (x4 >>> ((3 : Int32) &&& 31)) v89 (28 : Int32) (some a) h88)) (by decide) ?_
    show AF (fun a h88 => if x2 = 0 then (f_L_act_831 (x4 >>> ((3 : Int32) &&& 31)) (lowv x4 (20 : Int32)) (28 : Int32) (some a) h88) else (f_L_act_832 (6 : Int32) (x4 >>> ((3 : Int32) &&& 31)) (lowv x4 (20 : Int32)) (28 : Int32) (some a) h88))
    refine AF.ite (fun _ => ?_) (fun _ => ?_)
    · exact af_831 (x4 >>> ((3 : Int32) &&& 31)) (lowv x4 (20 : Int32)) (28 : Int32) (by unfold Cd; decide)
    · exact af_832 (6 : Int32) (by decide) (x4 >>> ((3 : Int32) &&& 31)) (lowv x4 (20 : Int32)) (28 : Int32) (by unfold Cd; decide)
  · exact af_843 x3 x4 x5 x6
theorem af_795 (s0 : Int32) (s1 : Int32) (s2 : Int32) (s3 : Int32) (k_s3 : Cd s3) : AF (fun a h => f_L_act_795 s0 s1 s2 s3 (some a) h) := by
  unfold f_L_act_795
  exact AF.does k_s3
theorem af_792 (s0 : Int32) (k_s0 : s0 ≠ 0) (s1 : Int32) (s2 : Int32) (s3 : Int32) (s4 : Int32) (k_s4 : Cd s4) : AF (fun a h => f_L_act_792 s0 s1 s2 s3 s4 (some a) h) := by
  unfold f_L_act_792
  refine AF.low (K := fun v87 a h86 => f_L_act_795 v87 s2 s3 s4 (some a) h86) k_s0 ?_
  show AF (fun a h86 => f_L_act_795 (lowv s1 s0) s2 s3 s4 (some a) h86)
  exact af_795 (lowv s1 s0) s2 s3 s4 k_s4
theorem af_790 (s0 : Int32) (s1 : Int32) (s2 : Int32) (s3 : Int32) (k_s3 : Cd s3) : AF (fun a h => f_L_act_790 s0 s1 s2 s3 (some a) h) := by
  unfold f_L_act_790
  exact af_792 (20 : Int32) (by decide) s0 s1 s2 s3 k_s3
theorem af_777 (x2 : Int32) (x4 : Int32) (s0 : Int32) (s1 : Int32) (s2 : Int32) (k_s2 : Cd s2) : AF (fun a h => f_L_act_777 x2 x4 s0 s1 s2 (some a) h) := by
  unfold f_L_act_777
  refine AF.ite (fun _ => ?_) (fun _ => ?_)
  · exact af_790 (x4 >>> ((2 : Int32) &&& 31)) s0 s1 s2 k_s2
  · exact af_792 (62 : Int32) (by decide) (x4 >>> ((2 : Int32) &&& 31)) s0 s1 s2 k_s2
theorem af_750 (x2 : Int32) (x3 : Int32) (x4 : Int32) (x5 : Int32) (x6 : Int32) : AF (fun a h => f_L_act_750 (some a) x2 x3 x4 x5 x6 h) := by
  unfold f_L_act_750
  refine AF.ite (fun _ => ?_) (fun _ => ?_)
  · exact af_802 x2 x3 x4 x5 x6
  · refine AF.ite (fun _ => ?_) (fun _ => ?_)
    · exact af_795 (-1 : Int32) x5 x6 (27 : Int32) (by unfold Cd; decide)
    · exact af_777 x2 x4 x5 x6 (27 : Int32) (by unfold Cd; decide)
theorem af_744 (s0 : Int32) (s1 : Int32) (s2 : Int32) (s3 : Int32) (s4 : Int32) (k_s4 : Cd s4) : AF (fun a h => f_L_act_744 s0 s1 s2 s3 s4 (some a) h) := by
  unfold f_L_act_744
  exact AF.does k_s4
theorem af_743 (s0 : Int32) (s1 : Int32) (s2 : Int32) (s3 : Int32) (k_s3 : Cd s3) : AF (fun a h => f_L_act_743 s0 s1 s2 s3 (some a) h) := by
  unfold f_L_act_743
  exact af_744 (0 : Int32) s0 s1 s2 s3 k_s3
theorem af_736 (s0 : Int32) (k_s0 : s0 ≠ 0) (s1 : Int32) (s2 : Int32) (s3 : Int32) (s4 : Int32) (s5 : Int32) (s6 : Int32) (k_s6 : Cd s6) : AF (fun a h => f_L_act_736 s0 s1 s2 s3 s4 s5 s6 (some a) h) := by
  unfold f_L_act_736
  refine AF.low (K := fun v79 a h78 => f_L_act_744 (s2 <<< (v79 &&& 31)) s3 s4 s5 s6 (some a) h78) k_s0 ?_
  show AF (fun a h78 => f_L_act_744 (s2 <<< ((lowv s1 s0) &&& 31)) s3 s4 s5 s6 (some a) h78)
  exact af_744 (s2 <<< ((lowv s1 s0) &&& 31)) s3 s4 s5 s6 k_s6
theorem af_734 (s0 : Int32) (s1 : Int32) (s2 : Int32) (s3 : Int32) (s4 : Int32) (s5 : Int32) (k_s5 : Cd s5) : AF (fun a h => f_L_act_734 s0 s1 s2 s3 s4 s5 (some a) h) := by
  unfold f_L_act_734
  exact af_736 (12 : Int32) (by decide) s0 s1 s2 s3 s4 s5 k_s5
theorem af_703 (x2 : Int32) (x4 : Int32) (s0 : Int32) (s1 : Int32) (s2 : Int32) (k_s2 : Cd s2) : AF (fun a h => f_L_act_703 x2 x4 s0 s1 s2 (some a) h) := by
  unfold f_L_act_703
  refine AF.ite (fun _ => ?_) (fun _ => ?_)
  · refine AF.ite (fun _ => ?_) (fun _ => ?_)
    · exact af_734 (x4 >>> ((4 : Int32) &&& 31)) (1 : Int32) ((x4 >>> ((3 : Int32) &&& 31)) &&& (127 : Int32)) s0 s1 s2 k_s2
    · exact af_736 (14 : Int32) (by decide) (x4 >>> ((4 : Int32) &&& 31)) (1 : Int32) ((x4 >>> ((3 : Int32) &&& 31)) &&& (127 : Int32)) s0 s1 s2 k_s2
  · exact af_743 ((x4 >>> ((3 : Int32) &&& 31)) &&& (127 : Int32)) s0 s1 s2 k_s2
theorem af_690 (x2 : Int32) (x4 : Int32) (s0 : Int32) (s1 : Int32) (k_s1 : Cd s1) : AF (fun a h => f_L_act_690 x2 x4 s0 s1 (some a) h) := by
  unfold f_L_act_690
  exact af_703 x2 x4 (((x4 >>> ((2 : Int32) &&& 31)) &&& (x4 >>> ((7 : Int32) &&& 31))) &&& (127 : Int32)) s0 s1 k_s1
theorem af_681 (x2 : Int32) (x4 : Int32) (s0 : Int32) (s1 : Int32) (k_s1 : Cd s1) : AF (fun a h => f_L_act_681 x2 x4 s0 s1 (some a) h) := by
  unfold f_L_act_681
  refine AF.ite (fun _ => ?_) (fun _ => ?_)
  · exact af_690 x2 x4 s0 s1 k_s1
  · exact af_703 x2 x4 x4 s0 s1 k_s1
theorem af_674 (x2 : Int32) (x4 : Int32) (s0 : Int32) (k_s0 : Cd s0) : AF (fun a h => f_L_act_674 x2 x4 s0 (some a) h) := by
  unfold f_L_act_674
  refine AF.low (K := fun v83 a h82 => f_L_act_681 x2 x4 v83 s0 (some a) h82) (by decide) ?_
  show AF (fun a h82 => f_L_act_681 x2 x4 (lowv x4 (12 : Int32)) s0 (some a) h82)
  exact af_681 x2 x4 (lowv x4 (12 : Int32)) s0 k_s0
theorem af_650 (x2 : Int32) (x3 : Int32) (x4 : Int32) (x5 : Int32) (x6 : Int32) : AF (fun a h => f_L_act_650 (some a) x2 x3 x4 x5 x6 h) := by
  unfold f_L_act_650
  refine AF.ite (fun _ => ?_) (fun _ => ?_)
  · exact af_891 x2 x3 x4 x5 x6
  · refine AF.ite (fun _ => ?_) (fun _ => ?_)
    · exact af_750 x2 x3 x4 x5 x6
    · refine AF.ite (fun _ => ?_) (fun _ => ?_)
      · exact af_674 x2 x4 (24 : Int32) (by unfold Cd; decide)
      · exact af_681 x2 x4 x5 (24 : Int32) (by unfold Cd; decide)
theorem af_627 (x4 : Int32) : AF (fun a h => f_L_act_627 (some a) x4 h) := by
  unfold f_L_act_627
  refine AF.low (K := fun v75 a h74 => m_bI (f_L_types (some a) ((1 : Int32) + v75) (3 : Int32) (0 : Int32) h74) fun h76 v77 => if v77 = 0 then (f_L_act_648 h76) else (f_L_act_649 (1 : Int32) h76)) (by decide) ?_
  show AF (fun a h74 => m_bI (f_L_types (some a) ((1 : Int32) + (lowv x4 (3 : Int32))) (3 : Int32) (0 : Int32) h74) fun h76 v77 => if v77 = 0 then (f_L_act_648 h76) else (f_L_act_649 (1 : Int32) h76))
  exact AF.types (mk_1 x4)
theorem af_598 (x3 : Int32) (x4 : Int32) : AF (fun a h => f_L_act_598 (some a) x3 x4 h) := by
  unfold f_L_act_598
  refine AF.ite (fun _ => ?_) (fun _ => ?_)
  · exact af_627 x4
  · exact AF.types (mk_4 x4)
theorem af_583 (x3 : Int32) (x4 : Int32) : AF (fun a h => f_L_act_583 (some a) x3 x4 h) := by
  unfold f_L_act_583
  refine AF.ite (fun _ => ?_) (fun _ => ?_)
  · exact af_598 x3 x4
  · exact AF.item
theorem af_570 (x3 : Int32) (x4 : Int32) : AF (fun a h => f_L_act_570 (some a) x3 x4 h) := by
  unfold f_L_act_570
  refine AF.ite (fun _ => ?_) (fun _ => ?_)
  · exact af_583 x3 x4
  · exact AF.wipe
theorem af_538 (x2 : Int32) (x3 : Int32) (x4 : Int32) (x5 : Int32) (x6 : Int32) : AF (fun a h => f_L_act_538 (some a) x2 x3 x4 x5 x6 h) := by
  unfold f_L_act_538
  refine AF.ite (fun _ => ?_) (fun _ => ?_)
  · exact af_650 x2 x3 x4 x5 x6
  · refine AF.ite (fun _ => ?_) (fun _ => ?_)
    · exact af_570 x3 x4
    · refine AF.low (K := fun v64 a h63 => m_bI (f_L_does (some a) (21 : Int32) x4 v64 (0 : Int32) (0 : Int32) h63) fun h65 v66 => f_L_act_649 v66 h65) (by decide) ?_
      show AF (fun a h63 => m_bI (f_L_does (some a) (21 : Int32) x4 (lowv (x4 >>> ((3 : Int32) &&& 31)) (10 : Int32)) (0 : Int32) (0 : Int32) h63) fun h65 v66 => f_L_act_649 v66 h65)
      exact AF.does (by unfold Cd; decide)
theorem af_531 (s0 : Int32) (s1 : Int32) (k_s1 : Cd s1) : AF (fun a h => f_L_act_531 s0 s1 (some a) h) := by
  unfold f_L_act_531
  exact AF.does k_s1
theorem af_522 (x4 : Int32) (s0 : Int32) (k_s0 : Cd s0) : AF (fun a h => f_L_act_522 x4 s0 (some a) h) := by
  unfold f_L_act_522
  refine AF.low (K := fun v62 a h61 => f_L_act_531 ((1 : Int32) + v62) s0 (some a) h61) (by decide) ?_
  show AF (fun a h61 => f_L_act_531 ((1 : Int32) + (lowv x4 (6 : Int32))) s0 (some a) h61)
  exact af_531 ((1 : Int32) + (lowv x4 (6 : Int32))) s0 k_s0
theorem af_505 (x2 : Int32) (x4 : Int32) : AF (fun a h => f_L_act_505 (some a) x2 x4 h) := by
  unfold f_L_act_505
  refine AF.ite (fun _ => ?_) (fun _ => ?_)
  · exact af_522 x4 (19 : Int32) (by unfold Cd; decide)
  · refine AF.low (K := fun v58 a h57 => f_L_act_531 v58 (19 : Int32) (some a) h57) (by decide) ?_
    show AF (fun a h57 => f_L_act_531 (lowv x4 (24 : Int32)) (19 : Int32) (some a) h57)
    exact af_531 (lowv x4 (24 : Int32)) (19 : Int32) (by unfold Cd; decide)
theorem af_498 (s0 : Int32) (s1 : Int32) (s2 : Int32) (s3 : Int32) (k_s3 : Cd s3) : AF (fun a h => f_L_act_498 s0 s1 s2 s3 (some a) h) := by
  unfold f_L_act_498
  exact AF.does k_s3
theorem af_497 (s0 : Int32) (s1 : Int32) (s2 : Int32) (k_s2 : Cd s2) : AF (fun a h => f_L_act_497 s0 s1 s2 (some a) h) := by
  unfold f_L_act_497
  exact af_498 (0 : Int32) s0 s1 s2 k_s2
theorem af_470 (x2 : Int32) (x3 : Int32) (x4 : Int32) (x6 : Int32) (x7 : Int32) : AF (fun a h => f_L_act_470 (some a) x2 x3 x4 x6 x7 h) := by
  unfold f_L_act_470
  refine AF.ite (fun _ => ?_) (fun _ => ?_)
  · exact af_505 x2 x4
  · refine AF.ite (fun _ => ?_) (fun _ => ?_)
    · exact af_497 x7 x6 (18 : Int32) (by unfold Cd; decide)
    · exact af_498 (1 : Int32) x7 x6 (18 : Int32) (by unfold Cd; decide)
theorem af_463 (s0 : Int32) (s1 : Int32) (s2 : Int32) (s3 : Int32) (k_s3 : Cd s3) : AF (fun a h => f_L_act_463 s0 s1 s2 s3 (some a) h) := by
  unfold f_L_act_463
  exact AF.does k_s3
theorem af_462 (s0 : Int32) (s1 : Int32) (s2 : Int32) (k_s2 : Cd s2) : AF (fun a h => f_L_act_462 s0 s1 s2 (some a) h) := by
  unfold f_L_act_462
  exact af_463 (0 : Int32) s0 s1 s2 k_s2
theorem af_435 (x2 : Int32) (x3 : Int32) (x4 : Int32) (x6 : Int32) (x7 : Int32) (x8 : Int32) : AF (fun a h => f_L_act_435 (some a) x2 x3 x4 x6 x7 x8 h) := by
  unfold f_L_act_435
  refine AF.ite (fun _ => ?_) (fun _ => ?_)
  · exact af_470 x2 x3 x4 x6 x7
  · refine AF.ite (fun _ => ?_) (fun _ => ?_)
    · exact af_462 x8 x7 (16 : Int32) (by unfold Cd; decide)
    · exact af_463 (1 : Int32) x8 x7 (16 : Int32) (by unfold Cd; decide)
theorem af_414 (x2 : Int32) (x3 : Int32) (x4 : Int32) (x6 : Int32) (x7 : Int32) (x8 : Int32) : AF (fun a h => f_L_act_414 (some a) x2 x3 x4 x6 x7 x8 h) := by
  unfold f_L_act_414
  refine AF.ite (fun _ => ?_) (fun _ => ?_)
  · exact af_435 x2 x3 x4 x6 x7 x8
  · exact AF.does (by unfold Cd; decide)
theorem af_394 (x2 : Int32) (x3 : Int32) (x4 : Int32) (x6 : Int32) (x7 : Int32) (x8 : Int32) : AF (fun a h => f_L_act_394 (some a) x2 x3 x4 x6 x7 x8 h) := by
  unfold f_L_act_394
  refine AF.ite (fun _ => ?_) (fun _ => ?_)
  · exact af_414 x2 x3 x4 x6 x7 x8
  · exact AF.does (by unfold Cd; decide)
theorem af_369 (x2 : Int32) (x3 : Int32) (x4 : Int32) (x5 : Int32) (x6 : Int32) (x7 : Int32) (x8 : Int32) : AF (fun a h => f_L_act_369 (some a) x2 x3 x4 x5 x6 x7 x8 h) := by
  unfold f_L_act_369
  refine AF.ite (fun _ => ?_) (fun _ => ?_)
  · exact af_538 x2 x3 x4 x5 x6
  · refine AF.ite (fun _ => ?_) (fun _ => ?_)
    · exact af_394 x2 x3 x4 x6 x7 x8
    · exact AF.does (by unfold Cd; decide)
theorem af_351 (x4 : Int32) (x6 : Int32) : AF (fun a h => f_L_act_351 (some a) x4 x6 h) := by
  unfold f_L_act_351
  refine AF.low (K := fun v44 a h43 => m_bI (f_L_does (some a) (10 : Int32) x6 v44 (0 : Int32) (0 : Int32) h43) fun h45 v46 => f_L_act_368 v46 h45) (by decide) ?_
  show AF (fun a h43 => m_bI (f_L_does (some a) (10 : Int32) x6 (lowv x4 (6 : Int32)) (0 : Int32) (0 : Int32) h43) fun h45 v46 => f_L_act_368 v46 h45)
  exact AF.does (by unfold Cd; decide)
theorem af_340 (s0 : Int32) (k_s0 : s0 ≠ 0) (s1 : Int32) (s2 : Int32) (s3 : Int32) (k_s3 : Cd s3) : AF (fun a h => f_L_act_340 s0 s1 s2 s3 (some a) h) := by
  unfold f_L_act_340
  refine AF.low (K := fun v40 a h39 => m_bI (f_L_does (some a) s3 s2 v40 (0 : Int32) (0 : Int32) h39) fun h41 v42 => f_L_act_368 v42 h41) k_s0 ?_
  show AF (fun a h39 => m_bI (f_L_does (some a) s3 s2 (lowv s1 s0) (0 : Int32) (0 : Int32) h39) fun h41 v42 => f_L_act_368 v42 h41)
  exact AF.does k_s3
theorem af_337 (s0 : Int32) (s1 : Int32) (s2 : Int32) (k_s2 : Cd s2) : AF (fun a h => f_L_act_337 s0 s1 s2 (some a) h) := by
  unfold f_L_act_337
  exact af_340 (1000 : Int32) (by decide) s0 s1 s2 k_s2
theorem af_306 (x2 : Int32) (x3 : Int32) (x4 : Int32) (x6 : Int32) : AF (fun a h => f_L_act_306 (some a) x2 x3 x4 x6 h) := by
  unfold f_L_act_306
  refine AF.ite (fun _ => ?_) (fun _ => ?_)
  · refine AF.low (K := fun v38 a h37 => if x2 = 0 then (f_L_act_337 (x4 >>> ((4 : Int32) &&& 31)) v38 (9 : Int32) (some a) h37) else (f_L_act_340 (2200 : Int32) (x4 >>> ((4 : Int32) &&& 31)) v38 (9 : Int32) (some a) h37)) (by decide) ?_
    show AF (fun a h37 => if x2 = 0 then (f_L_act_337 (x4 >>> ((4 : Int32) &&& 31)) (lowv x4 (900 : Int32)) (9 : Int32) (some a) h37) else (f_L_act_340 (2200 : Int32) (x4 >>> ((4 : Int32) &&& 31)) (lowv x4 (900 : Int32)) (9 : Int32) (some a) h37))
    refine AF.ite (fun _ => ?_) (fun _ => ?_)
    · exact af_337 (x4 >>> ((4 : Int32) &&& 31)) (lowv x4 (900 : Int32)) (9 : Int32) (by unfold Cd; decide)
    · exact af_340 (2200 : Int32) (by decide) (x4 >>> ((4 : Int32) &&& 31)) (lowv x4 (900 : Int32)) (9 : Int32) (by unfold Cd; decide)
  · exact af_351 x4 x6
theorem af_280 (x2 : Int32) (x3 : Int32) (x4 : Int32) (x6 : Int32) : AF (fun a h => f_L_act_280 (some a) x2 x3 x4 x6 h) := by
  unfold f_L_act_280
  refine AF.ite (fun _ => ?_) (fun _ => ?_)
  · exact AF.does (by unfold Cd; decide)
  · exact af_306 x2 x3 x4 x6
theorem af_260 (x2 : Int32) (x3 : Int32) (x4 : Int32) (x6 : Int32) : AF (fun a h => f_L_act_260 (some a) x2 x3 x4 x6 h) := by
  unfold f_L_act_260
  refine AF.ite (fun _ => ?_) (fun _ => ?_)
  · exact af_280 x2 x3 x4 x6
  · exact AF.does (by unfold Cd; decide)
theorem af_240 (x2 : Int32) (x3 : Int32) (x4 : Int32) (x6 : Int32) : AF (fun a h => f_L_act_240 (some a) x2 x3 x4 x6 h) := by
  unfold f_L_act_240
  refine AF.ite (fun _ => ?_) (fun _ => ?_)
  · exact af_260 x2 x3 x4 x6
  · exact AF.does (by unfold Cd; decide)
theorem af_221 (x2 : Int32) (x3 : Int32) (x4 : Int32) (x5 : Int32) (x6 : Int32) : AF (fun a h => f_L_act_221 (some a) x2 x3 x4 x5 x6 h) := by
  unfold f_L_act_221
  refine AF.ite (fun _ => ?_) (fun _ => ?_)
  · exact AF.does (by unfold Cd; decide)
  · exact af_240 x2 x3 x4 x6
theorem af_202 (x2 : Int32) (x3 : Int32) (x4 : Int32) (x5 : Int32) (x6 : Int32) : AF (fun a h => f_L_act_202 (some a) x2 x3 x4 x5 x6 h) := by
  unfold f_L_act_202
  refine AF.ite (fun _ => ?_) (fun _ => ?_)
  · exact af_221 x2 x3 x4 x5 x6
  · exact AF.does (by unfold Cd; decide)
theorem af_194 (s0 : Int32) (s1 : Int32) (s2 : Int32) (k_s2 : Cd s2) : AF (fun a h => f_L_act_194 s0 s1 s2 (some a) h) := by
  unfold f_L_act_194
  exact AF.does k_s2
theorem af_186 (x4 : Int32) (s0 : Int32) (s1 : Int32) (k_s1 : Cd s1) : AF (fun a h => f_L_act_186 x4 s0 s1 (some a) h) := by
  unfold f_L_act_186
  refine AF.low (K := fun v24 a h23 => f_L_act_194 v24 s0 s1 (some a) h23) (by decide) ?_
  show AF (fun a h23 => f_L_act_194 (lowv (x4 >>> ((3 : Int32) &&& 31)) (4 : Int32)) s0 s1 (some a) h23)
  exact af_194 (lowv (x4 >>> ((3 : Int32) &&& 31)) (4 : Int32)) s0 s1 k_s1
theorem af_168 (x2 : Int32) (x4 : Int32) (s0 : Int32) (s1 : Int32) (k_s1 : Cd s1) : AF (fun a h => f_L_act_168 x2 x4 s0 s1 (some a) h) := by
  unfold f_L_act_168
  refine AF.ite (fun _ => ?_) (fun _ => ?_)
  · exact af_186 x4 s0 s1 k_s1
  · refine AF.low (K := fun v20 a h19 => f_L_act_194 (v20 - (1 : Int32)) s0 s1 (some a) h19) (by decide) ?_
    show AF (fun a h19 => f_L_act_194 ((lowv (x4 >>> ((3 : Int32) &&& 31)) (6 : Int32)) - (1 : Int32)) s0 s1 (some a) h19)
    exact af_194 ((lowv (x4 >>> ((3 : Int32) &&& 31)) (6 : Int32)) - (1 : Int32)) s0 s1 k_s1
theorem af_161 (x2 : Int32) (x4 : Int32) (s0 : Int32) (k_s0 : Cd s0) : AF (fun a h => f_L_act_161 x2 x4 s0 (some a) h) := by
  unfold f_L_act_161
  refine AF.low (K := fun v26 a h25 => f_L_act_168 x2 x4 v26 s0 (some a) h25) (by decide) ?_
  show AF (fun a h25 => f_L_act_168 x2 x4 (lowv x4 (12 : Int32)) s0 (some a) h25)
  exact af_168 x2 x4 (lowv x4 (12 : Int32)) s0 k_s0
theorem af_137 (x2 : Int32) (x3 : Int32) (x4 : Int32) (x5 : Int32) (x6 : Int32) (x7 : Int32) (s0 : Int32) : AF (fun a h => f_L_act_137 (some a) x2 x3 x4 x5 x6 x7 s0 h) := by
  unfold f_L_act_137
  refine AF.ite (fun _ => ?_) (fun _ => ?_)
  · exact af_369 x2 x3 x4 x5 x6 x7 s0
  · refine AF.ite (fun _ => ?_) (fun _ => ?_)
    · exact af_202 x2 x3 x4 x5 x6
    · refine AF.ite (fun _ => ?_) (fun _ => ?_)
      · exact af_161 x2 x4 (3 : Int32) (by unfold Cd; decide)
      · exact af_168 x2 x4 x5 (3 : Int32) (by unfold Cd; decide)
theorem af_108 (x2 : Int32) (x3 : Int32) (x4 : Int32) (x5 : Int32) (x6 : Int32) (s0 : Int32) : AF (fun a h => f_L_act_108 (some a) x2 x3 x4 x5 x6 s0 h) := by
  unfold f_L_act_108
  refine AF.ite (fun _ => ?_) (fun _ => ?_)
  · refine AF.low (K := fun v16 a h15 => f_L_act_137 (some a) x2 x3 x4 x5 x6 s0 v16 h15) (by decide) ?_
    show AF (fun a h15 => f_L_act_137 (some a) x2 x3 x4 x5 x6 s0 (lowv (x4 >>> ((3 : Int32) &&& 31)) (12 : Int32)) h15)
    exact af_137 x2 x3 x4 x5 x6 s0 (lowv (x4 >>> ((3 : Int32) &&& 31)) (12 : Int32))
  · refine AF.low (K := fun v18 a h17 => f_L_act_137 (some a) x2 x3 x4 x5 x6 s0 (v18 - (1 : Int32)) h17) (by decide) ?_
    show AF (fun a h17 => f_L_act_137 (some a) x2 x3 x4 x5 x6 s0 ((lowv (x4 >>> ((3 : Int32) &&& 31)) (33 : Int32)) - (1 : Int32)) h17)
    exact af_137 x2 x3 x4 x5 x6 s0 ((lowv (x4 >>> ((3 : Int32) &&& 31)) (33 : Int32)) - (1 : Int32))
theorem af_83 (x2 : Int32) (x3 : Int32) (x4 : Int32) (x5 : Int32) (s0 : Int32) : AF (fun a h => f_L_act_83 (some a) x2 x3 x4 x5 s0 h) := by
  unfold f_L_act_83
  refine AF.ite (fun _ => ?_) (fun _ => ?_)
  · refine AF.low (K := fun v12 a h11 => f_L_act_108 (some a) x2 x3 x4 x5 s0 v12 h11) (by decide) ?_
    show AF (fun a h11 => f_L_act_108 (some a) x2 x3 x4 x5 s0 (lowv x4 (12 : Int32)) h11)
    exact af_108 x2 x3 x4 x5 s0 (lowv x4 (12 : Int32))
  · refine AF.low (K := fun v14 a h13 => f_L_act_108 (some a) x2 x3 x4 x5 s0 (v14 - (1 : Int32)) h13) (by decide) ?_
    show AF (fun a h13 => f_L_act_108 (some a) x2 x3 x4 x5 s0 ((lowv x4 (33 : Int32)) - (1 : Int32)) h13)
    exact af_108 x2 x3 x4 x5 s0 ((lowv x4 (33 : Int32)) - (1 : Int32))
theorem af_54 (x2 : Int32) (x3 : Int32) (x4 : Int32) (s0 : Int32) : AF (fun a h => f_L_act_54 (some a) x2 x3 x4 s0 h) := by
  unfold f_L_act_54
  refine AF.ite (fun _ => ?_) (fun _ => ?_)
  · refine AF.low (K := fun v8 a h7 => f_L_act_83 (some a) x2 x3 x4 s0 v8 h7) (by decide) ?_
    show AF (fun a h7 => f_L_act_83 (some a) x2 x3 x4 s0 (lowv (x4 >>> ((3 : Int32) &&& 31)) (10 : Int32)) h7)
    exact af_83 x2 x3 x4 s0 (lowv (x4 >>> ((3 : Int32) &&& 31)) (10 : Int32))
  · refine AF.low (K := fun v10 a h9 => f_L_act_83 (some a) x2 x3 x4 s0 (v10 - (1 : Int32)) h9) (by decide) ?_
    show AF (fun a h9 => f_L_act_83 (some a) x2 x3 x4 s0 ((lowv (x4 >>> ((3 : Int32) &&& 31)) (23 : Int32)) - (1 : Int32)) h9)
    exact af_83 x2 x3 x4 s0 ((lowv (x4 >>> ((3 : Int32) &&& 31)) (23 : Int32)) - (1 : Int32))
theorem af_17 (x1 : Int32) (s0 : Int32) : AF (fun a h => f_L_act_17 (some a) x1 s0 h) := by
  unfold f_L_act_17
  refine AF.low (K := fun v2 a h1 => if s0 = 0 then (m_bI (f_L_low (x1 >>> ((7 : Int32) &&& 31)) (14 : Int32) h1) fun h3 v4 => f_L_act_54 (some a) s0 v2 (x1 >>> ((7 : Int32) &&& 31)) v4 h3) else (m_bI (f_L_low (x1 >>> ((7 : Int32) &&& 31)) (35 : Int32) h1) fun h5 v6 => f_L_act_54 (some a) s0 v2 (x1 >>> ((7 : Int32) &&& 31)) (v6 - (1 : Int32)) h5)) (by decide) ?_
  show AF (fun a h1 => if s0 = 0 then (m_bI (f_L_low (x1 >>> ((7 : Int32) &&& 31)) (14 : Int32) h1) fun h3 v4 => f_L_act_54 (some a) s0 (lowv x1 (80 : Int32)) (x1 >>> ((7 : Int32) &&& 31)) v4 h3) else (m_bI (f_L_low (x1 >>> ((7 : Int32) &&& 31)) (35 : Int32) h1) fun h5 v6 => f_L_act_54 (some a) s0 (lowv x1 (80 : Int32)) (x1 >>> ((7 : Int32) &&& 31)) (v6 - (1 : Int32)) h5))
  refine AF.ite (fun _ => ?_) (fun _ => ?_)
  · refine AF.low (K := fun v4 a h3 => f_L_act_54 (some a) s0 (lowv x1 (80 : Int32)) (x1 >>> ((7 : Int32) &&& 31)) v4 h3) (by decide) ?_
    show AF (fun a h3 => f_L_act_54 (some a) s0 (lowv x1 (80 : Int32)) (x1 >>> ((7 : Int32) &&& 31)) (lowv (x1 >>> ((7 : Int32) &&& 31)) (14 : Int32)) h3)
    exact af_54 s0 (lowv x1 (80 : Int32)) (x1 >>> ((7 : Int32) &&& 31)) (lowv (x1 >>> ((7 : Int32) &&& 31)) (14 : Int32))
  · refine AF.low (K := fun v6 a h5 => f_L_act_54 (some a) s0 (lowv x1 (80 : Int32)) (x1 >>> ((7 : Int32) &&& 31)) (v6 - (1 : Int32)) h5) (by decide) ?_
    show AF (fun a h5 => f_L_act_54 (some a) s0 (lowv x1 (80 : Int32)) (x1 >>> ((7 : Int32) &&& 31)) ((lowv (x1 >>> ((7 : Int32) &&& 31)) (35 : Int32)) - (1 : Int32)) h5)
    exact af_54 s0 (lowv x1 (80 : Int32)) (x1 >>> ((7 : Int32) &&& 31)) ((lowv (x1 >>> ((7 : Int32) &&& 31)) (35 : Int32)) - (1 : Int32))
theorem af_ (x1 : Int32) : AF (fun a h => f_L_act (some a) x1 h) := by
  unfold f_L_act
  refine AF.ite (fun _ => ?_) (fun _ => ?_)
  · exact af_17 x1 (1 : Int32)
  · exact af_17 x1 (0 : Int32)
