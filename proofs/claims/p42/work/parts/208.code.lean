abbrev m_L_does : am_M := (yL_does, cL_does, 7, some .int, [(0, 192, 193, 57), (0, 192, 198, 60), (0, 192, 203, 62)])
def f_L_does_192  (s0 : Int32) (h : am_H) : am_R := m_ri h s0
theorem t_L_does_192 (d : Nat) (hd : 11 ≤ d)  (s0 : Int32) (h : am_H) : Sim m_L_does d 192 [none, none, none, none, none, none, none] [.inl s0] h (f_L_does_192  s0 h) := by
  unfold f_L_does_192
  exact sim_iret dL_does_192 rfl
def f_L_does_162  (x4 : Int32) (s0 : Int32) (s1 : Int32) (s2 : Option (Nat × Nat)) (h : am_H) : am_R := m_ao s2 10 fun a59 => m_bIx (f_X10_subscribe a59 s1 s0 x4 h) (fun h57 v58 => m_bIx (f_L_bit v58 h57) (fun h62 v63 => f_L_does_192 v63 h62) (fun h64 e65 => if e65 = 0 then (m_ri h64 (-2100000000 : Int32)) else if e65 = 1 then (m_ri h64 (-2100000000 : Int32)) else if e65 = 2 then (m_ri h64 (-2100000000 : Int32)) else none)) (fun h60 e61 => if e61 = 0 then (m_ri h60 (-2100000000 : Int32)) else if e61 = 1 then (m_ri h60 (-2100000000 : Int32)) else if e61 = 2 then (m_ri h60 (-2100000000 : Int32)) else none)
theorem t_L_does_162 (d : Nat) (hd : 11 ≤ d)  (x4 : Int32) (s0 : Int32) (s1 : Int32) (s2 : Option (Nat × Nat)) (h : am_H) : Sim m_L_does d 162 [none, none, none, none, some (.inl x4), none, none] [.inl s0, .inl s1, .inr (.inr s2)] h (f_L_does_162  x4 s0 s1 s2 h) := by
  unfold f_L_does_162
  refine sim_iload dL_does_162 rfl ?_
  refine sim_ao3 (fun a59 e => ?_)
  refine sim_virt (d - 1) e dL_does_164 (k_X10_subscribe (d - 1) (by omega) _ _ _ _ _) q_X10_subscribe rfl rfl wm_RL_47 rfl rfl (by omega) (Nat.le_of_ble_eq_true rfl) am_nIx (am_rIx fun h57 v58 => ?_) (am_eIx fun h9 k9 => ?_)
  · refine sim_static (d - 1) dL_does_167 (k_L_bit (d - 1) (by omega) _ _) q_L_bit wm_RL_24 rfl rfl (by omega) (Nat.le_of_ble_eq_true rfl) am_nIx (am_rIx fun h62 v63 => ?_) (am_eIx fun h9 k9 => ?_)
    · refine sim_goto 192 dL_does_170 (by decide) ?_
      exact sim_lv (am_leN (am_leN (am_leN (am_leN (am_leN (am_leN (am_leN am_leT))))))) (t_L_does_192 d (by omega) _ _)
    · refine simx_case (fun cx => ?_) (fun cx => ?_)
      · subst cx
        refine simx_catch [] (0, 192, 193, 57) [(0, 192, 198, 60), (0, 192, 203, 62)] rfl ⟨by decide, by decide⟩ (by decide) wx_RL_57 wca_0 (by decide) (fun z hz => by cases hz) ?_
        refine sim_astore dL_does_193 (Nat.le_of_ble_eq_true rfl) ?_
        refine sim_ldc (-2100000000) dL_does_195 wk_RL_59 ?_
        exact sim_iret dL_does_197 rfl
      refine simx_case (fun cx => ?_) (fun cx => ?_)
      · subst cx
        refine simx_catch [(0, 192, 193, 57)] (0, 192, 198, 60) [(0, 192, 203, 62)] rfl ⟨by decide, by decide⟩ (by decide) wx_RL_60 wca_1 (by decide) (fun z hz => by simp only [List.mem_cons, List.not_mem_nil, or_false] at hz; subst hz; exact ⟨by decide, 0, _, by decide, by decide, wx_RL_57⟩) ?_
        refine sim_astore dL_does_198 (Nat.le_of_ble_eq_true rfl) ?_
        refine sim_ldc (-2100000000) dL_does_200 wk_RL_59 ?_
        exact sim_iret dL_does_202 rfl
      refine simx_case (fun cx => ?_) (fun cx => ?_)
      · subst cx
        refine simx_catch [(0, 192, 193, 57), (0, 192, 198, 60)] (0, 192, 203, 62) [] rfl ⟨by decide, by decide⟩ (by decide) wx_RL_62 wca_2 (by decide) (fun z hz => by
          simp only [List.mem_cons, List.not_mem_nil, or_false] at hz
          rcases hz with rfl | rfl
          · exact ⟨by decide, 0, _, by decide, by decide, wx_RL_57⟩
          · exact ⟨by decide, 1, _, by decide, by decide, wx_RL_60⟩) ?_
        refine sim_astore dL_does_203 (Nat.le_of_ble_eq_true rfl) ?_
        refine sim_ldc (-2100000000) dL_does_205 wk_RL_59 ?_
        exact sim_iret dL_does_207 rfl
      exact simx_none
  · refine simx_case (fun cx => ?_) (fun cx => ?_)
    · subst cx
      refine simx_catch [] (0, 192, 193, 57) [(0, 192, 198, 60), (0, 192, 203, 62)] rfl ⟨by decide, by decide⟩ (by decide) wx_RL_57 wca_0 (by decide) (fun z hz => by cases hz) ?_
      refine sim_astore dL_does_193 (Nat.le_of_ble_eq_true rfl) ?_
      refine sim_ldc (-2100000000) dL_does_195 wk_RL_59 ?_
      exact sim_iret dL_does_197 rfl
    refine simx_case (fun cx => ?_) (fun cx => ?_)
    · subst cx
      refine simx_catch [(0, 192, 193, 57)] (0, 192, 198, 60) [(0, 192, 203, 62)] rfl ⟨by decide, by decide⟩ (by decide) wx_RL_60 wca_1 (by decide) (fun z hz => by simp only [List.mem_cons, List.not_mem_nil, or_false] at hz; subst hz; exact ⟨by decide, 0, _, by decide, by decide, wx_RL_57⟩) ?_
      refine sim_astore dL_does_198 (Nat.le_of_ble_eq_true rfl) ?_
      refine sim_ldc (-2100000000) dL_does_200 wk_RL_59 ?_
      exact sim_iret dL_does_202 rfl
    refine simx_case (fun cx => ?_) (fun cx => ?_)
    · subst cx
      refine simx_catch [(0, 192, 193, 57), (0, 192, 198, 60)] (0, 192, 203, 62) [] rfl ⟨by decide, by decide⟩ (by decide) wx_RL_62 wca_2 (by decide) (fun z hz => by
        simp only [List.mem_cons, List.not_mem_nil, or_false] at hz
        rcases hz with rfl | rfl
        · exact ⟨by decide, 0, _, by decide, by decide, wx_RL_57⟩
        · exact ⟨by decide, 1, _, by decide, by decide, wx_RL_60⟩) ?_
      refine sim_astore dL_does_203 (Nat.le_of_ble_eq_true rfl) ?_
      refine sim_ldc (-2100000000) dL_does_205 wk_RL_59 ?_
      exact sim_iret dL_does_207 rfl
    exact simx_none
def f_L_does_56  (s0 : Int32) (s1 : Int32) (s2 : Option (Nat × Nat)) (h : am_H) : am_R := m_ao s2 10 fun a50 => m_bIx (f_X10_screen a50 s1 s0 h) (fun h48 v49 => m_bIx (f_L_bit v49 h48) (fun h53 v54 => f_L_does_192 v54 h53) (fun h55 e56 => if e56 = 0 then (m_ri h55 (-2100000000 : Int32)) else if e56 = 1 then (m_ri h55 (-2100000000 : Int32)) else if e56 = 2 then (m_ri h55 (-2100000000 : Int32)) else none)) (fun h51 e52 => if e52 = 0 then (m_ri h51 (-2100000000 : Int32)) else if e52 = 1 then (m_ri h51 (-2100000000 : Int32)) else if e52 = 2 then (m_ri h51 (-2100000000 : Int32)) else none)
theorem t_L_does_56 (d : Nat) (hd : 11 ≤ d)  (s0 : Int32) (s1 : Int32) (s2 : Option (Nat × Nat)) (h : am_H) : Sim m_L_does d 56 [none, none, none, none, none, none, none] [.inl s0, .inl s1, .inr (.inr s2)] h (f_L_does_56  s0 s1 s2 h) := by
  unfold f_L_does_56
  refine sim_ao2 (fun a50 e => ?_)
  refine sim_virt (d - 1) e dL_does_56 (k_X10_screen (d - 1) (by omega) _ _ _ _) q_X10_screen rfl rfl wm_RL_18 rfl rfl (by omega) (Nat.le_of_ble_eq_true rfl) am_nIx (am_rIx fun h48 v49 => ?_) (am_eIx fun h9 k9 => ?_)
  · refine sim_static (d - 1) dL_does_59 (k_L_bit (d - 1) (by omega) _ _) q_L_bit wm_RL_24 rfl rfl (by omega) (Nat.le_of_ble_eq_true rfl) am_nIx (am_rIx fun h53 v54 => ?_) (am_eIx fun h9 k9 => ?_)
    · refine sim_goto 192 dL_does_62 (by decide) ?_
      exact sim_lv (am_leN (am_leN (am_leN (am_leN (am_leN (am_leN (am_leN am_leT))))))) (t_L_does_192 d (by omega) _ _)
    · refine simx_case (fun cx => ?_) (fun cx => ?_)
      · subst cx
        refine simx_catch [] (0, 192, 193, 57) [(0, 192, 198, 60), (0, 192, 203, 62)] rfl ⟨by decide, by decide⟩ (by decide) wx_RL_57 wca_0 (by decide) (fun z hz => by cases hz) ?_
        refine sim_astore dL_does_193 (Nat.le_of_ble_eq_true rfl) ?_
        refine sim_ldc (-2100000000) dL_does_195 wk_RL_59 ?_
        exact sim_iret dL_does_197 rfl
      refine simx_case (fun cx => ?_) (fun cx => ?_)
      · subst cx
        refine simx_catch [(0, 192, 193, 57)] (0, 192, 198, 60) [(0, 192, 203, 62)] rfl ⟨by decide, by decide⟩ (by decide) wx_RL_60 wca_1 (by decide) (fun z hz => by simp only [List.mem_cons, List.not_mem_nil, or_false] at hz; subst hz; exact ⟨by decide, 0, _, by decide, by decide, wx_RL_57⟩) ?_
        refine sim_astore dL_does_198 (Nat.le_of_ble_eq_true rfl) ?_
        refine sim_ldc (-2100000000) dL_does_200 wk_RL_59 ?_
        exact sim_iret dL_does_202 rfl
      refine simx_case (fun cx => ?_) (fun cx => ?_)
      · subst cx
        refine simx_catch [(0, 192, 193, 57), (0, 192, 198, 60)] (0, 192, 203, 62) [] rfl ⟨by decide, by decide⟩ (by decide) wx_RL_62 wca_2 (by decide) (fun z hz => by
          simp only [List.mem_cons, List.not_mem_nil, or_false] at hz
          rcases hz with rfl | rfl
          · exact ⟨by decide, 0, _, by decide, by decide, wx_RL_57⟩
          · exact ⟨by decide, 1, _, by decide, by decide, wx_RL_60⟩) ?_
        refine sim_astore dL_does_203 (Nat.le_of_ble_eq_true rfl) ?_
        refine sim_ldc (-2100000000) dL_does_205 wk_RL_59 ?_
        exact sim_iret dL_does_207 rfl
      exact simx_none
  · refine simx_case (fun cx => ?_) (fun cx => ?_)
    · subst cx
      refine simx_catch [] (0, 192, 193, 57) [(0, 192, 198, 60), (0, 192, 203, 62)] rfl ⟨by decide, by decide⟩ (by decide) wx_RL_57 wca_0 (by decide) (fun z hz => by cases hz) ?_
      refine sim_astore dL_does_193 (Nat.le_of_ble_eq_true rfl) ?_
      refine sim_ldc (-2100000000) dL_does_195 wk_RL_59 ?_
      exact sim_iret dL_does_197 rfl
    refine simx_case (fun cx => ?_) (fun cx => ?_)
    · subst cx
      refine simx_catch [(0, 192, 193, 57)] (0, 192, 198, 60) [(0, 192, 203, 62)] rfl ⟨by decide, by decide⟩ (by decide) wx_RL_60 wca_1 (by decide) (fun z hz => by simp only [List.mem_cons, List.not_mem_nil, or_false] at hz; subst hz; exact ⟨by decide, 0, _, by decide, by decide, wx_RL_57⟩) ?_
      refine sim_astore dL_does_198 (Nat.le_of_ble_eq_true rfl) ?_
      refine sim_ldc (-2100000000) dL_does_200 wk_RL_59 ?_
      exact sim_iret dL_does_202 rfl
    refine simx_case (fun cx => ?_) (fun cx => ?_)
    · subst cx
      refine simx_catch [(0, 192, 193, 57), (0, 192, 198, 60)] (0, 192, 203, 62) [] rfl ⟨by decide, by decide⟩ (by decide) wx_RL_62 wca_2 (by decide) (fun z hz => by
        simp only [List.mem_cons, List.not_mem_nil, or_false] at hz
        rcases hz with rfl | rfl
        · exact ⟨by decide, 0, _, by decide, by decide, wx_RL_57⟩
        · exact ⟨by decide, 1, _, by decide, by decide, wx_RL_60⟩) ?_
      refine sim_astore dL_does_203 (Nat.le_of_ble_eq_true rfl) ?_
      refine sim_ldc (-2100000000) dL_does_205 wk_RL_59 ?_
      exact sim_iret dL_does_207 rfl
    exact simx_none
def f_L_does (x0 : Option (Nat × Nat)) (x1 : Int32) (x2 : Int32) (x3 : Int32) (x4 : Int32) (x5 : Int32) (h : am_H) : am_R := if (17 : Int32) ≤ x1 then (if (26 : Int32) ≤ x1 then (if x1 = (26 : Int32) then (if x3 = (1 : Int32) then (f_L_does_56 (1 : Int32) x2 x0 h) else (f_L_does_56 (0 : Int32) x2 x0 h)) else (if x1 = (27 : Int32) then (m_ao x0 10 fun a37 => m_bIx (f_X10_comment a37 x2 x3 x4 h) (fun h35 v36 => f_L_does_192 v36 h35) (fun h38 e39 => if e39 = 0 then (m_ri h38 (-2100000000 : Int32)) else if e39 = 1 then (m_ri h38 (-2100000000 : Int32)) else if e39 = 2 then (m_ri h38 (-2100000000 : Int32)) else none)) else (if x1 = (28 : Int32) then (m_ao x0 10 fun a28 => m_bIx (f_X10_change a28 x2 x3 h) (fun h26 v27 => m_bIx (f_L_bit v27 h26) (fun h31 v32 => f_L_does_192 v32 h31) (fun h33 e34 => if e34 = 0 then (m_ri h33 (-2100000000 : Int32)) else if e34 = 1 then (m_ri h33 (-2100000000 : Int32)) else if e34 = 2 then (m_ri h33 (-2100000000 : Int32)) else none)) (fun h29 e30 => if e30 = 0 then (m_ri h29 (-2100000000 : Int32)) else if e30 = 1 then (m_ri h29 (-2100000000 : Int32)) else if e30 = 2 then (m_ri h29 (-2100000000 : Int32)) else none)) else (if x1 = (29 : Int32) then (m_ao x0 10 fun a23 => m_bIx (f_X10_reads a23 x2 x3 h) (fun h21 v22 => f_L_does_192 v22 h21) (fun h24 e25 => if e25 = 0 then (m_ri h24 (-2100000000 : Int32)) else if e25 = 1 then (m_ri h24 (-2100000000 : Int32)) else if e25 = 2 then (m_ri h24 (-2100000000 : Int32)) else none)) else (if x1 = (30 : Int32) then (m_ao x0 10 fun a18 => m_bIx (f_X10_kudos a18 x2 x3 h) (fun h16 v17 => f_L_does_192 v17 h16) (fun h19 e20 => if e20 = 0 then (m_ri h19 (-2100000000 : Int32)) else if e20 = 1 then (m_ri h19 (-2100000000 : Int32)) else if e20 = 2 then (m_ri h19 (-2100000000 : Int32)) else none)) else (if x1 = (31 : Int32) then (m_ao x0 10 fun a13 => m_bIx (f_X10_liked a13 x2 h) (fun h11 v12 => f_L_does_192 v12 h11) (fun h14 e15 => if e15 = 0 then (m_ri h14 (-2100000000 : Int32)) else if e15 = 1 then (m_ri h14 (-2100000000 : Int32)) else if e15 = 2 then (m_ri h14 (-2100000000 : Int32)) else none)) else (if x1 = (32 : Int32) then (if x3 = (1 : Int32) then (f_L_does_162 x4 (1 : Int32) x2 x0 h) else (f_L_does_162 x4 (0 : Int32) x2 x0 h)) else (if x1 = (33 : Int32) then (m_ao x0 10 fun a8 => m_bIx (f_X10_news a8 x2 h) (fun h6 v7 => f_L_does_192 v7 h6) (fun h9 e10 => if e10 = 0 then (m_ri h9 (-2100000000 : Int32)) else if e10 = 1 then (m_ri h9 (-2100000000 : Int32)) else if e10 = 2 then (m_ri h9 (-2100000000 : Int32)) else none)) else (m_ao x0 10 fun a3 => m_bIx (f_X10_digest a3 x2 h) (fun h1 v2 => f_L_does_192 v2 h1) (fun h4 e5 => if e5 = 0 then (m_ri h4 (-2100000000 : Int32)) else if e5 = 1 then (m_ri h4 (-2100000000 : Int32)) else if e5 = 2 then (m_ri h4 (-2100000000 : Int32)) else none)))))))))) else (m_bIx (f_L_middle x0 x1 x2 x3 x4 x5 h) (fun h40 v41 => f_L_does_192 v41 h40) (fun h42 e43 => if e43 = 0 then (m_ri h42 (-2100000000 : Int32)) else if e43 = 1 then (m_ri h42 (-2100000000 : Int32)) else if e43 = 2 then (m_ri h42 (-2100000000 : Int32)) else none))) else (m_bIx (f_L_early x0 x1 x2 x3 x4 h) (fun h44 v45 => f_L_does_192 v45 h44) (fun h46 e47 => if e47 = 0 then (m_ri h46 (-2100000000 : Int32)) else if e47 = 1 then (m_ri h46 (-2100000000 : Int32)) else if e47 = 2 then (m_ri h46 (-2100000000 : Int32)) else none))
theorem k_L_does (d : Nat) (hd : 11 ≤ d) (x0 : Option (Nat × Nat)) (x1 : Int32) (x2 : Int32) (x3 : Int32) (x4 : Int32) (x5 : Int32) (h : am_H) : am_Con m_L_does d [.inr (.inr x0), .inl x1, .inl x2, .inl x3, .inl x4, .inl x5] h (f_L_does x0 x1 x2 x3 x4 x5 h) := am_conX (by decide +kernel) (Nat.le_of_ble_eq_true rfl) (by
  unfold f_L_does
  refine sim_iload_n dL_does_0 rfl ?_
  refine sim_bipush (17) dL_does_1 (by decide +kernel) ?_
  refine sim_ic_ge 18 dL_does_3 (by decide) (fun c => ?_) (fun c => ?_)
  · refine sim_iload_n dL_does_18 rfl ?_
    refine sim_bipush (26) dL_does_19 (by decide +kernel) ?_
    refine sim_ic_ge 38 dL_does_21 (by decide) (fun c => ?_) (fun c => ?_)
    · refine sim_iload_n dL_does_38 rfl ?_
      refine sim_bipush (26) dL_does_39 (by decide +kernel) ?_
      refine sim_ic_ne 65 dL_does_41 (by decide) (fun c => ?_) (fun c => ?_)
      · refine sim_iload_n dL_does_65 rfl ?_
        refine sim_bipush (27) dL_does_66 (by decide +kernel) ?_
        refine sim_ic_ne 82 dL_does_68 (by decide) (fun c => ?_) (fun c => ?_)
        · refine sim_iload_n dL_does_82 rfl ?_
          refine sim_bipush (28) dL_does_83 (by decide +kernel) ?_
          refine sim_ic_ne 100 dL_does_85 (by decide) (fun c => ?_) (fun c => ?_)
          · refine sim_iload_n dL_does_100 rfl ?_
            refine sim_bipush (29) dL_does_101 (by decide +kernel) ?_
            refine sim_ic_ne 115 dL_does_103 (by decide) (fun c => ?_) (fun c => ?_)
            · refine sim_iload_n dL_does_115 rfl ?_
              refine sim_bipush (30) dL_does_116 (by decide +kernel) ?_
              refine sim_ic_ne 130 dL_does_118 (by decide) (fun c => ?_) (fun c => ?_)
              · refine sim_iload_n dL_does_130 rfl ?_
                refine sim_bipush (31) dL_does_131 (by decide +kernel) ?_
                refine sim_ic_ne 144 dL_does_133 (by decide) (fun c => ?_) (fun c => ?_)
                · refine sim_iload_n dL_does_144 rfl ?_
                  refine sim_bipush (32) dL_does_145 (by decide +kernel) ?_
                  refine sim_ic_ne 173 dL_does_147 (by decide) (fun c => ?_) (fun c => ?_)
                  · refine sim_iload_n dL_does_173 rfl ?_
                    refine sim_bipush (33) dL_does_174 (by decide +kernel) ?_
                    refine sim_ic_ne 187 dL_does_176 (by decide) (fun c => ?_) (fun c => ?_)
                    · refine sim_aload_n dL_does_187 rfl ?_
                      refine sim_iload_n dL_does_188 rfl ?_
                      refine sim_ao1 (fun a3 e => ?_)
                      refine sim_virt (d - 1) e dL_does_189 (k_X10_digest (d - 1) (by omega) _ _ _) q_X10_digest rfl rfl wm_RL_54 rfl rfl (by omega) (Nat.le_of_ble_eq_true rfl) am_nIx (am_rIx fun h1 v2 => ?_) (am_eIx fun h9 k9 => ?_)
                      · exact sim_lv (am_leN (am_leN (am_leN (am_leN (am_leN (am_leN (am_leN am_leT))))))) (t_L_does_192 d (by omega) _ _)
                      · refine simx_case (fun cx => ?_) (fun cx => ?_)
                        · subst cx
                          refine simx_catch [] (0, 192, 193, 57) [(0, 192, 198, 60), (0, 192, 203, 62)] rfl ⟨by decide, by decide⟩ (by decide) wx_RL_57 wca_0 (by decide) (fun z hz => by cases hz) ?_
                          refine sim_astore dL_does_193 (Nat.le_of_ble_eq_true rfl) ?_
                          refine sim_ldc (-2100000000) dL_does_195 wk_RL_59 ?_
                          exact sim_iret dL_does_197 rfl
                        refine simx_case (fun cx => ?_) (fun cx => ?_)
                        · subst cx
                          refine simx_catch [(0, 192, 193, 57)] (0, 192, 198, 60) [(0, 192, 203, 62)] rfl ⟨by decide, by decide⟩ (by decide) wx_RL_60 wca_1 (by decide) (fun z hz => by simp only [List.mem_cons, List.not_mem_nil, or_false] at hz; subst hz; exact ⟨by decide, 0, _, by decide, by decide, wx_RL_57⟩) ?_
                          refine sim_astore dL_does_198 (Nat.le_of_ble_eq_true rfl) ?_
                          refine sim_ldc (-2100000000) dL_does_200 wk_RL_59 ?_
                          exact sim_iret dL_does_202 rfl
                        refine simx_case (fun cx => ?_) (fun cx => ?_)
                        · subst cx
                          refine simx_catch [(0, 192, 193, 57), (0, 192, 198, 60)] (0, 192, 203, 62) [] rfl ⟨by decide, by decide⟩ (by decide) wx_RL_62 wca_2 (by decide) (fun z hz => by
                            simp only [List.mem_cons, List.not_mem_nil, or_false] at hz
                            rcases hz with rfl | rfl
                            · exact ⟨by decide, 0, _, by decide, by decide, wx_RL_57⟩
                            · exact ⟨by decide, 1, _, by decide, by decide, wx_RL_60⟩) ?_
                          refine sim_astore dL_does_203 (Nat.le_of_ble_eq_true rfl) ?_
                          refine sim_ldc (-2100000000) dL_does_205 wk_RL_59 ?_
                          exact sim_iret dL_does_207 rfl
                        exact simx_none
                    · refine sim_aload_n dL_does_179 rfl ?_
                      refine sim_iload_n dL_does_180 rfl ?_
                      refine sim_ao1 (fun a8 e => ?_)
                      refine sim_virt (d - 1) e dL_does_181 (k_X10_news (d - 1) (by omega) _ _ _) q_X10_news rfl rfl wm_RL_51 rfl rfl (by omega) (Nat.le_of_ble_eq_true rfl) am_nIx (am_rIx fun h6 v7 => ?_) (am_eIx fun h9 k9 => ?_)
                      · refine sim_goto 192 dL_does_184 (by decide) ?_
                        exact sim_lv (am_leN (am_leN (am_leN (am_leN (am_leN (am_leN (am_leN am_leT))))))) (t_L_does_192 d (by omega) _ _)
                      · refine simx_case (fun cx => ?_) (fun cx => ?_)
                        · subst cx
                          refine simx_catch [] (0, 192, 193, 57) [(0, 192, 198, 60), (0, 192, 203, 62)] rfl ⟨by decide, by decide⟩ (by decide) wx_RL_57 wca_0 (by decide) (fun z hz => by cases hz) ?_
                          refine sim_astore dL_does_193 (Nat.le_of_ble_eq_true rfl) ?_
                          refine sim_ldc (-2100000000) dL_does_195 wk_RL_59 ?_
                          exact sim_iret dL_does_197 rfl
                        refine simx_case (fun cx => ?_) (fun cx => ?_)
                        · subst cx
                          refine simx_catch [(0, 192, 193, 57)] (0, 192, 198, 60) [(0, 192, 203, 62)] rfl ⟨by decide, by decide⟩ (by decide) wx_RL_60 wca_1 (by decide) (fun z hz => by simp only [List.mem_cons, List.not_mem_nil, or_false] at hz; subst hz; exact ⟨by decide, 0, _, by decide, by decide, wx_RL_57⟩) ?_
                          refine sim_astore dL_does_198 (Nat.le_of_ble_eq_true rfl) ?_
                          refine sim_ldc (-2100000000) dL_does_200 wk_RL_59 ?_
                          exact sim_iret dL_does_202 rfl
                        refine simx_case (fun cx => ?_) (fun cx => ?_)
                        · subst cx
                          refine simx_catch [(0, 192, 193, 57), (0, 192, 198, 60)] (0, 192, 203, 62) [] rfl ⟨by decide, by decide⟩ (by decide) wx_RL_62 wca_2 (by decide) (fun z hz => by
                            simp only [List.mem_cons, List.not_mem_nil, or_false] at hz
                            rcases hz with rfl | rfl
                            · exact ⟨by decide, 0, _, by decide, by decide, wx_RL_57⟩
                            · exact ⟨by decide, 1, _, by decide, by decide, wx_RL_60⟩) ?_
                          refine sim_astore dL_does_203 (Nat.le_of_ble_eq_true rfl) ?_
                          refine sim_ldc (-2100000000) dL_does_205 wk_RL_59 ?_
                          exact sim_iret dL_does_207 rfl
                        exact simx_none
                  · refine sim_aload_n dL_does_150 rfl ?_
                    refine sim_iload_n dL_does_151 rfl ?_
                    refine sim_iload_n dL_does_152 rfl ?_
                    refine sim_iconst (1) dL_does_153 (by decide +kernel) ?_
                    refine sim_ic_ne 161 dL_does_154 (by decide) (fun c => ?_) (fun c => ?_)
                    · refine sim_iconst (0) dL_does_161 (by decide +kernel) ?_
                      exact sim_lv (am_leN (am_leN (am_leN (am_leN (am_leS (am_leN (am_leN am_leT))))))) (t_L_does_162 d (by omega) _ _ _ _ _)
                    · refine sim_iconst (1) dL_does_157 (by decide +kernel) ?_
                      refine sim_goto 162 dL_does_158 (by decide) ?_
                      exact sim_lv (am_leN (am_leN (am_leN (am_leN (am_leS (am_leN (am_leN am_leT))))))) (t_L_does_162 d (by omega) _ _ _ _ _)
                · refine sim_aload_n dL_does_136 rfl ?_
                  refine sim_iload_n dL_does_137 rfl ?_
                  refine sim_ao1 (fun a13 e => ?_)
                  refine sim_virt (d - 1) e dL_does_138 (k_X10_liked (d - 1) (by omega) _ _ _) q_X10_liked rfl rfl wm_RL_43 rfl rfl (by omega) (Nat.le_of_ble_eq_true rfl) am_nIx (am_rIx fun h11 v12 => ?_) (am_eIx fun h9 k9 => ?_)
                  · refine sim_goto 192 dL_does_141 (by decide) ?_
                    exact sim_lv (am_leN (am_leN (am_leN (am_leN (am_leN (am_leN (am_leN am_leT))))))) (t_L_does_192 d (by omega) _ _)
                  · refine simx_case (fun cx => ?_) (fun cx => ?_)
                    · subst cx
                      refine simx_catch [] (0, 192, 193, 57) [(0, 192, 198, 60), (0, 192, 203, 62)] rfl ⟨by decide, by decide⟩ (by decide) wx_RL_57 wca_0 (by decide) (fun z hz => by cases hz) ?_
                      refine sim_astore dL_does_193 (Nat.le_of_ble_eq_true rfl) ?_
                      refine sim_ldc (-2100000000) dL_does_195 wk_RL_59 ?_
                      exact sim_iret dL_does_197 rfl
                    refine simx_case (fun cx => ?_) (fun cx => ?_)
                    · subst cx
                      refine simx_catch [(0, 192, 193, 57)] (0, 192, 198, 60) [(0, 192, 203, 62)] rfl ⟨by decide, by decide⟩ (by decide) wx_RL_60 wca_1 (by decide) (fun z hz => by simp only [List.mem_cons, List.not_mem_nil, or_false] at hz; subst hz; exact ⟨by decide, 0, _, by decide, by decide, wx_RL_57⟩) ?_
                      refine sim_astore dL_does_198 (Nat.le_of_ble_eq_true rfl) ?_
                      refine sim_ldc (-2100000000) dL_does_200 wk_RL_59 ?_
                      exact sim_iret dL_does_202 rfl
                    refine simx_case (fun cx => ?_) (fun cx => ?_)
                    · subst cx
                      refine simx_catch [(0, 192, 193, 57), (0, 192, 198, 60)] (0, 192, 203, 62) [] rfl ⟨by decide, by decide⟩ (by decide) wx_RL_62 wca_2 (by decide) (fun z hz => by
                        simp only [List.mem_cons, List.not_mem_nil, or_false] at hz
                        rcases hz with rfl | rfl
                        · exact ⟨by decide, 0, _, by decide, by decide, wx_RL_57⟩
                        · exact ⟨by decide, 1, _, by decide, by decide, wx_RL_60⟩) ?_
                      refine sim_astore dL_does_203 (Nat.le_of_ble_eq_true rfl) ?_
                      refine sim_ldc (-2100000000) dL_does_205 wk_RL_59 ?_
                      exact sim_iret dL_does_207 rfl
                    exact simx_none
              · refine sim_aload_n dL_does_121 rfl ?_
                refine sim_iload_n dL_does_122 rfl ?_
                refine sim_iload_n dL_does_123 rfl ?_
                refine sim_ao2 (fun a18 e => ?_)
                refine sim_virt (d - 1) e dL_does_124 (k_X10_kudos (d - 1) (by omega) _ _ _ _) q_X10_kudos rfl rfl wm_RL_40 rfl rfl (by omega) (Nat.le_of_ble_eq_true rfl) am_nIx (am_rIx fun h16 v17 => ?_) (am_eIx fun h9 k9 => ?_)
                · refine sim_goto 192 dL_does_127 (by decide) ?_
                  exact sim_lv (am_leN (am_leN (am_leN (am_leN (am_leN (am_leN (am_leN am_leT))))))) (t_L_does_192 d (by omega) _ _)
                · refine simx_case (fun cx => ?_) (fun cx => ?_)
                  · subst cx
                    refine simx_catch [] (0, 192, 193, 57) [(0, 192, 198, 60), (0, 192, 203, 62)] rfl ⟨by decide, by decide⟩ (by decide) wx_RL_57 wca_0 (by decide) (fun z hz => by cases hz) ?_
                    refine sim_astore dL_does_193 (Nat.le_of_ble_eq_true rfl) ?_
                    refine sim_ldc (-2100000000) dL_does_195 wk_RL_59 ?_
                    exact sim_iret dL_does_197 rfl
                  refine simx_case (fun cx => ?_) (fun cx => ?_)
                  · subst cx
                    refine simx_catch [(0, 192, 193, 57)] (0, 192, 198, 60) [(0, 192, 203, 62)] rfl ⟨by decide, by decide⟩ (by decide) wx_RL_60 wca_1 (by decide) (fun z hz => by simp only [List.mem_cons, List.not_mem_nil, or_false] at hz; subst hz; exact ⟨by decide, 0, _, by decide, by decide, wx_RL_57⟩) ?_
                    refine sim_astore dL_does_198 (Nat.le_of_ble_eq_true rfl) ?_
                    refine sim_ldc (-2100000000) dL_does_200 wk_RL_59 ?_
                    exact sim_iret dL_does_202 rfl
                  refine simx_case (fun cx => ?_) (fun cx => ?_)
                  · subst cx
                    refine simx_catch [(0, 192, 193, 57), (0, 192, 198, 60)] (0, 192, 203, 62) [] rfl ⟨by decide, by decide⟩ (by decide) wx_RL_62 wca_2 (by decide) (fun z hz => by
                      simp only [List.mem_cons, List.not_mem_nil, or_false] at hz
                      rcases hz with rfl | rfl
                      · exact ⟨by decide, 0, _, by decide, by decide, wx_RL_57⟩
                      · exact ⟨by decide, 1, _, by decide, by decide, wx_RL_60⟩) ?_
                    refine sim_astore dL_does_203 (Nat.le_of_ble_eq_true rfl) ?_
                    refine sim_ldc (-2100000000) dL_does_205 wk_RL_59 ?_
                    exact sim_iret dL_does_207 rfl
                  exact simx_none
            · refine sim_aload_n dL_does_106 rfl ?_
              refine sim_iload_n dL_does_107 rfl ?_
              refine sim_iload_n dL_does_108 rfl ?_
              refine sim_ao2 (fun a23 e => ?_)
              refine sim_virt (d - 1) e dL_does_109 (k_X10_reads (d - 1) (by omega) _ _ _ _) q_X10_reads rfl rfl wm_RL_36 rfl rfl (by omega) (Nat.le_of_ble_eq_true rfl) am_nIx (am_rIx fun h21 v22 => ?_) (am_eIx fun h9 k9 => ?_)
              · refine sim_goto 192 dL_does_112 (by decide) ?_
                exact sim_lv (am_leN (am_leN (am_leN (am_leN (am_leN (am_leN (am_leN am_leT))))))) (t_L_does_192 d (by omega) _ _)
              · refine simx_case (fun cx => ?_) (fun cx => ?_)
                · subst cx
                  refine simx_catch [] (0, 192, 193, 57) [(0, 192, 198, 60), (0, 192, 203, 62)] rfl ⟨by decide, by decide⟩ (by decide) wx_RL_57 wca_0 (by decide) (fun z hz => by cases hz) ?_
                  refine sim_astore dL_does_193 (Nat.le_of_ble_eq_true rfl) ?_
                  refine sim_ldc (-2100000000) dL_does_195 wk_RL_59 ?_
                  exact sim_iret dL_does_197 rfl
                refine simx_case (fun cx => ?_) (fun cx => ?_)
                · subst cx
                  refine simx_catch [(0, 192, 193, 57)] (0, 192, 198, 60) [(0, 192, 203, 62)] rfl ⟨by decide, by decide⟩ (by decide) wx_RL_60 wca_1 (by decide) (fun z hz => by simp only [List.mem_cons, List.not_mem_nil, or_false] at hz; subst hz; exact ⟨by decide, 0, _, by decide, by decide, wx_RL_57⟩) ?_
                  refine sim_astore dL_does_198 (Nat.le_of_ble_eq_true rfl) ?_
                  refine sim_ldc (-2100000000) dL_does_200 wk_RL_59 ?_
                  exact sim_iret dL_does_202 rfl
                refine simx_case (fun cx => ?_) (fun cx => ?_)
                · subst cx
                  refine simx_catch [(0, 192, 193, 57), (0, 192, 198, 60)] (0, 192, 203, 62) [] rfl ⟨by decide, by decide⟩ (by decide) wx_RL_62 wca_2 (by decide) (fun z hz => by
                    simp only [List.mem_cons, List.not_mem_nil, or_false] at hz
                    rcases hz with rfl | rfl
                    · exact ⟨by decide, 0, _, by decide, by decide, wx_RL_57⟩
                    · exact ⟨by decide, 1, _, by decide, by decide, wx_RL_60⟩) ?_
                  refine sim_astore dL_does_203 (Nat.le_of_ble_eq_true rfl) ?_
                  refine sim_ldc (-2100000000) dL_does_205 wk_RL_59 ?_
                  exact sim_iret dL_does_207 rfl
                exact simx_none
          · refine sim_aload_n dL_does_88 rfl ?_
            refine sim_iload_n dL_does_89 rfl ?_
            refine sim_iload_n dL_does_90 rfl ?_
            refine sim_ao2 (fun a28 e => ?_)
            refine sim_virt (d - 1) e dL_does_91 (k_X10_change (d - 1) (by omega) _ _ _ _) q_X10_change rfl rfl wm_RL_32 rfl rfl (by omega) (Nat.le_of_ble_eq_true rfl) am_nIx (am_rIx fun h26 v27 => ?_) (am_eIx fun h9 k9 => ?_)
            · refine sim_static (d - 1) dL_does_94 (k_L_bit (d - 1) (by omega) _ _) q_L_bit wm_RL_24 rfl rfl (by omega) (Nat.le_of_ble_eq_true rfl) am_nIx (am_rIx fun h31 v32 => ?_) (am_eIx fun h9 k9 => ?_)
              · refine sim_goto 192 dL_does_97 (by decide) ?_
                exact sim_lv (am_leN (am_leN (am_leN (am_leN (am_leN (am_leN (am_leN am_leT))))))) (t_L_does_192 d (by omega) _ _)
              · refine simx_case (fun cx => ?_) (fun cx => ?_)
                · subst cx
                  refine simx_catch [] (0, 192, 193, 57) [(0, 192, 198, 60), (0, 192, 203, 62)] rfl ⟨by decide, by decide⟩ (by decide) wx_RL_57 wca_0 (by decide) (fun z hz => by cases hz) ?_
                  refine sim_astore dL_does_193 (Nat.le_of_ble_eq_true rfl) ?_
                  refine sim_ldc (-2100000000) dL_does_195 wk_RL_59 ?_
                  exact sim_iret dL_does_197 rfl
                refine simx_case (fun cx => ?_) (fun cx => ?_)
                · subst cx
                  refine simx_catch [(0, 192, 193, 57)] (0, 192, 198, 60) [(0, 192, 203, 62)] rfl ⟨by decide, by decide⟩ (by decide) wx_RL_60 wca_1 (by decide) (fun z hz => by simp only [List.mem_cons, List.not_mem_nil, or_false] at hz; subst hz; exact ⟨by decide, 0, _, by decide, by decide, wx_RL_57⟩) ?_
                  refine sim_astore dL_does_198 (Nat.le_of_ble_eq_true rfl) ?_
                  refine sim_ldc (-2100000000) dL_does_200 wk_RL_59 ?_
                  exact sim_iret dL_does_202 rfl
                refine simx_case (fun cx => ?_) (fun cx => ?_)
                · subst cx
                  refine simx_catch [(0, 192, 193, 57), (0, 192, 198, 60)] (0, 192, 203, 62) [] rfl ⟨by decide, by decide⟩ (by decide) wx_RL_62 wca_2 (by decide) (fun z hz => by
                    simp only [List.mem_cons, List.not_mem_nil, or_false] at hz
                    rcases hz with rfl | rfl
                    · exact ⟨by decide, 0, _, by decide, by decide, wx_RL_57⟩
                    · exact ⟨by decide, 1, _, by decide, by decide, wx_RL_60⟩) ?_
                  refine sim_astore dL_does_203 (Nat.le_of_ble_eq_true rfl) ?_
                  refine sim_ldc (-2100000000) dL_does_205 wk_RL_59 ?_
                  exact sim_iret dL_does_207 rfl
                exact simx_none
            · refine simx_case (fun cx => ?_) (fun cx => ?_)
              · subst cx
                refine simx_catch [] (0, 192, 193, 57) [(0, 192, 198, 60), (0, 192, 203, 62)] rfl ⟨by decide, by decide⟩ (by decide) wx_RL_57 wca_0 (by decide) (fun z hz => by cases hz) ?_
                refine sim_astore dL_does_193 (Nat.le_of_ble_eq_true rfl) ?_
                refine sim_ldc (-2100000000) dL_does_195 wk_RL_59 ?_
                exact sim_iret dL_does_197 rfl
              refine simx_case (fun cx => ?_) (fun cx => ?_)
              · subst cx
                refine simx_catch [(0, 192, 193, 57)] (0, 192, 198, 60) [(0, 192, 203, 62)] rfl ⟨by decide, by decide⟩ (by decide) wx_RL_60 wca_1 (by decide) (fun z hz => by simp only [List.mem_cons, List.not_mem_nil, or_false] at hz; subst hz; exact ⟨by decide, 0, _, by decide, by decide, wx_RL_57⟩) ?_
                refine sim_astore dL_does_198 (Nat.le_of_ble_eq_true rfl) ?_
                refine sim_ldc (-2100000000) dL_does_200 wk_RL_59 ?_
                exact sim_iret dL_does_202 rfl
              refine simx_case (fun cx => ?_) (fun cx => ?_)
              · subst cx
                refine simx_catch [(0, 192, 193, 57), (0, 192, 198, 60)] (0, 192, 203, 62) [] rfl ⟨by decide, by decide⟩ (by decide) wx_RL_62 wca_2 (by decide) (fun z hz => by
                  simp only [List.mem_cons, List.not_mem_nil, or_false] at hz
                  rcases hz with rfl | rfl
                  · exact ⟨by decide, 0, _, by decide, by decide, wx_RL_57⟩
                  · exact ⟨by decide, 1, _, by decide, by decide, wx_RL_60⟩) ?_
                refine sim_astore dL_does_203 (Nat.le_of_ble_eq_true rfl) ?_
                refine sim_ldc (-2100000000) dL_does_205 wk_RL_59 ?_
                exact sim_iret dL_does_207 rfl
              exact simx_none
        · refine sim_aload_n dL_does_71 rfl ?_
          refine sim_iload_n dL_does_72 rfl ?_
          refine sim_iload_n dL_does_73 rfl ?_
          refine sim_iload dL_does_74 rfl ?_
          refine sim_ao3 (fun a37 e => ?_)
          refine sim_virt (d - 1) e dL_does_76 (k_X10_comment (d - 1) (by omega) _ _ _ _ _) q_X10_comment rfl rfl wm_RL_28 rfl rfl (by omega) (Nat.le_of_ble_eq_true rfl) am_nIx (am_rIx fun h35 v36 => ?_) (am_eIx fun h9 k9 => ?_)
          · refine sim_goto 192 dL_does_79 (by decide) ?_
            exact sim_lv (am_leN (am_leN (am_leN (am_leN (am_leN (am_leN (am_leN am_leT))))))) (t_L_does_192 d (by omega) _ _)
          · refine simx_case (fun cx => ?_) (fun cx => ?_)
            · subst cx
              refine simx_catch [] (0, 192, 193, 57) [(0, 192, 198, 60), (0, 192, 203, 62)] rfl ⟨by decide, by decide⟩ (by decide) wx_RL_57 wca_0 (by decide) (fun z hz => by cases hz) ?_
              refine sim_astore dL_does_193 (Nat.le_of_ble_eq_true rfl) ?_
              refine sim_ldc (-2100000000) dL_does_195 wk_RL_59 ?_
              exact sim_iret dL_does_197 rfl
            refine simx_case (fun cx => ?_) (fun cx => ?_)
            · subst cx
              refine simx_catch [(0, 192, 193, 57)] (0, 192, 198, 60) [(0, 192, 203, 62)] rfl ⟨by decide, by decide⟩ (by decide) wx_RL_60 wca_1 (by decide) (fun z hz => by simp only [List.mem_cons, List.not_mem_nil, or_false] at hz; subst hz; exact ⟨by decide, 0, _, by decide, by decide, wx_RL_57⟩) ?_
              refine sim_astore dL_does_198 (Nat.le_of_ble_eq_true rfl) ?_
              refine sim_ldc (-2100000000) dL_does_200 wk_RL_59 ?_
              exact sim_iret dL_does_202 rfl
            refine simx_case (fun cx => ?_) (fun cx => ?_)
            · subst cx
              refine simx_catch [(0, 192, 193, 57), (0, 192, 198, 60)] (0, 192, 203, 62) [] rfl ⟨by decide, by decide⟩ (by decide) wx_RL_62 wca_2 (by decide) (fun z hz => by
                simp only [List.mem_cons, List.not_mem_nil, or_false] at hz
                rcases hz with rfl | rfl
                · exact ⟨by decide, 0, _, by decide, by decide, wx_RL_57⟩
                · exact ⟨by decide, 1, _, by decide, by decide, wx_RL_60⟩) ?_
              refine sim_astore dL_does_203 (Nat.le_of_ble_eq_true rfl) ?_
              refine sim_ldc (-2100000000) dL_does_205 wk_RL_59 ?_
              exact sim_iret dL_does_207 rfl
            exact simx_none
      · refine sim_aload_n dL_does_44 rfl ?_
        refine sim_iload_n dL_does_45 rfl ?_
        refine sim_iload_n dL_does_46 rfl ?_
        refine sim_iconst (1) dL_does_47 (by decide +kernel) ?_
        refine sim_ic_ne 55 dL_does_48 (by decide) (fun c => ?_) (fun c => ?_)
        · refine sim_iconst (0) dL_does_55 (by decide +kernel) ?_
          exact sim_lv (am_leN (am_leN (am_leN (am_leN (am_leN (am_leN (am_leN am_leT))))))) (t_L_does_56 d (by omega) _ _ _ _)
        · refine sim_iconst (1) dL_does_51 (by decide +kernel) ?_
          refine sim_goto 56 dL_does_52 (by decide) ?_
          exact sim_lv (am_leN (am_leN (am_leN (am_leN (am_leN (am_leN (am_leN am_leT))))))) (t_L_does_56 d (by omega) _ _ _ _)
    · refine sim_aload_n dL_does_24 rfl ?_
      refine sim_iload_n dL_does_25 rfl ?_
      refine sim_iload_n dL_does_26 rfl ?_
      refine sim_iload_n dL_does_27 rfl ?_
      refine sim_iload dL_does_28 rfl ?_
      refine sim_iload dL_does_30 rfl ?_
      refine sim_static (d - 1) dL_does_32 (k_L_middle (d - 1) (by omega) _ _ _ _ _ _ _) q_L_middle wm_RL_14 rfl rfl (by omega) (Nat.le_of_ble_eq_true rfl) am_nIx (am_rIx fun h40 v41 => ?_) (am_eIx fun h9 k9 => ?_)
      · refine sim_goto 192 dL_does_35 (by decide) ?_
        exact sim_lv (am_leN (am_leN (am_leN (am_leN (am_leN (am_leN (am_leN am_leT))))))) (t_L_does_192 d (by omega) _ _)
      · refine simx_case (fun cx => ?_) (fun cx => ?_)
        · subst cx
          refine simx_catch [] (0, 192, 193, 57) [(0, 192, 198, 60), (0, 192, 203, 62)] rfl ⟨by decide, by decide⟩ (by decide) wx_RL_57 wca_0 (by decide) (fun z hz => by cases hz) ?_
          refine sim_astore dL_does_193 (Nat.le_of_ble_eq_true rfl) ?_
          refine sim_ldc (-2100000000) dL_does_195 wk_RL_59 ?_
          exact sim_iret dL_does_197 rfl
        refine simx_case (fun cx => ?_) (fun cx => ?_)
        · subst cx
          refine simx_catch [(0, 192, 193, 57)] (0, 192, 198, 60) [(0, 192, 203, 62)] rfl ⟨by decide, by decide⟩ (by decide) wx_RL_60 wca_1 (by decide) (fun z hz => by simp only [List.mem_cons, List.not_mem_nil, or_false] at hz; subst hz; exact ⟨by decide, 0, _, by decide, by decide, wx_RL_57⟩) ?_
          refine sim_astore dL_does_198 (Nat.le_of_ble_eq_true rfl) ?_
          refine sim_ldc (-2100000000) dL_does_200 wk_RL_59 ?_
          exact sim_iret dL_does_202 rfl
        refine simx_case (fun cx => ?_) (fun cx => ?_)
        · subst cx
          refine simx_catch [(0, 192, 193, 57), (0, 192, 198, 60)] (0, 192, 203, 62) [] rfl ⟨by decide, by decide⟩ (by decide) wx_RL_62 wca_2 (by decide) (fun z hz => by
            simp only [List.mem_cons, List.not_mem_nil, or_false] at hz
            rcases hz with rfl | rfl
            · exact ⟨by decide, 0, _, by decide, by decide, wx_RL_57⟩
            · exact ⟨by decide, 1, _, by decide, by decide, wx_RL_60⟩) ?_
          refine sim_astore dL_does_203 (Nat.le_of_ble_eq_true rfl) ?_
          refine sim_ldc (-2100000000) dL_does_205 wk_RL_59 ?_
          exact sim_iret dL_does_207 rfl
        exact simx_none
  · refine sim_aload_n dL_does_6 rfl ?_
    refine sim_iload_n dL_does_7 rfl ?_
    refine sim_iload_n dL_does_8 rfl ?_
    refine sim_iload_n dL_does_9 rfl ?_
    refine sim_iload dL_does_10 rfl ?_
    refine sim_static (d - 1) dL_does_12 (k_L_early (d - 1) (by omega) _ _ _ _ _ _) q_L_early wm_RL_8 rfl rfl (by omega) (Nat.le_of_ble_eq_true rfl) am_nIx (am_rIx fun h44 v45 => ?_) (am_eIx fun h9 k9 => ?_)
    · refine sim_goto 192 dL_does_15 (by decide) ?_
      exact sim_lv (am_leN (am_leN (am_leN (am_leN (am_leN (am_leN (am_leN am_leT))))))) (t_L_does_192 d (by omega) _ _)
    · refine simx_case (fun cx => ?_) (fun cx => ?_)
      · subst cx
        refine simx_catch [] (0, 192, 193, 57) [(0, 192, 198, 60), (0, 192, 203, 62)] rfl ⟨by decide, by decide⟩ (by decide) wx_RL_57 wca_0 (by decide) (fun z hz => by cases hz) ?_
        refine sim_astore dL_does_193 (Nat.le_of_ble_eq_true rfl) ?_
        refine sim_ldc (-2100000000) dL_does_195 wk_RL_59 ?_
        exact sim_iret dL_does_197 rfl
      refine simx_case (fun cx => ?_) (fun cx => ?_)
      · subst cx
        refine simx_catch [(0, 192, 193, 57)] (0, 192, 198, 60) [(0, 192, 203, 62)] rfl ⟨by decide, by decide⟩ (by decide) wx_RL_60 wca_1 (by decide) (fun z hz => by simp only [List.mem_cons, List.not_mem_nil, or_false] at hz; subst hz; exact ⟨by decide, 0, _, by decide, by decide, wx_RL_57⟩) ?_
        refine sim_astore dL_does_198 (Nat.le_of_ble_eq_true rfl) ?_
        refine sim_ldc (-2100000000) dL_does_200 wk_RL_59 ?_
        exact sim_iret dL_does_202 rfl
      refine simx_case (fun cx => ?_) (fun cx => ?_)
      · subst cx
        refine simx_catch [(0, 192, 193, 57), (0, 192, 198, 60)] (0, 192, 203, 62) [] rfl ⟨by decide, by decide⟩ (by decide) wx_RL_62 wca_2 (by decide) (fun z hz => by
          simp only [List.mem_cons, List.not_mem_nil, or_false] at hz
          rcases hz with rfl | rfl
          · exact ⟨by decide, 0, _, by decide, by decide, wx_RL_57⟩
          · exact ⟨by decide, 1, _, by decide, by decide, wx_RL_60⟩) ?_
        refine sim_astore dL_does_203 (Nat.le_of_ble_eq_true rfl) ?_
        refine sim_ldc (-2100000000) dL_does_205 wk_RL_59 ?_
        exact sim_iret dL_does_207 rfl
      exact simx_none)
theorem q_L_does : am_Cal m_L_does 6 0 := ⟨am_mem 417 (w := Cond.codeWith yL_does cL_does 7 (some .int) [(0, 192, 193, 57), (0, 192, 198, 60), (0, 192, 203, 62)]) (by decide +kernel) rfl, am_mem 29 (w := Cond.initialized RL) (by decide +kernel) rfl, fun _ => am_mem 416 (w := Cond.static yL_does) (by decide +kernel) rfl, fun z => absurd rfl z, fun z => absurd z (by decide), fun z => absurd z (by decide), by decide +kernel, by decide +kernel, Nat.le_of_ble_eq_true rfl⟩
abbrev m_L_low : am_M := (yL_low, cL_low, 2, some .int, [])
def f_L_low (x0 : Int32) (x1 : Int32) (h : am_H) : am_R := m_dv x1 <| m_ri h ((x0 &&& (2147483647 : Int32)) - (x0 &&& (2147483647 : Int32)) / x1 * x1)
theorem k_L_low (d : Nat) (hd : 0 ≤ d) (x0 : Int32) (x1 : Int32) (h : am_H) : am_Con m_L_low d [.inl x0, .inl x1] h (f_L_low x0 x1 h) := am_con (by decide +kernel) (Nat.le_of_ble_eq_true rfl) (by
  unfold f_L_low
  refine sim_iload_n dL_low_0 rfl ?_
  refine sim_ldc (2147483647) dL_low_1 wk_RL_7 ?_
  refine sim_iand dL_low_3 ?_
  refine sim_iload_n dL_low_4 rfl ?_
  refine sim_rm dL_low_5 ?_
  exact sim_iret dL_low_6 rfl)
theorem q_L_low : am_Cal m_L_low 2 0 := ⟨am_mem 413 (w := Cond.code yL_low cL_low 2 (some .int)) (by decide +kernel) rfl, am_mem 29 (w := Cond.initialized RL) (by decide +kernel) rfl, fun _ => am_mem 412 (w := Cond.static yL_low) (by decide +kernel) rfl, fun z => absurd rfl z, fun z => absurd z (by decide), fun z => absurd z (by decide), by decide +kernel, by decide +kernel, Nat.le_of_ble_eq_true rfl⟩
abbrev m_L_types : am_M := (yL_types, cL_types, 7, some .boolean, [])
def f_L_types_201  (s0 : Int32) (h : am_H) : am_R := m_rz h s0
theorem t_L_types_201 (d : Nat) (hd : 12 ≤ d)  (s0 : Int32) (h : am_H) : Sim m_L_types d 201 [none, none, none, none, none, none, none] [.inl s0] h (f_L_types_201  s0 h) := by
  unfold f_L_types_201
  exact sim_zret dL_types_201 rfl
def f_L_types_200   (h : am_H) : am_R := f_L_types_201 (0 : Int32) h
theorem t_L_types_200 (d : Nat) (hd : 12 ≤ d)   (h : am_H) : Sim m_L_types d 200 [none, none, none, none, none, none, none] [] h (f_L_types_200   h) := by
  unfold f_L_types_200
  refine sim_iconst (0) dL_types_200 (by decide +kernel) ?_
  exact sim_lv (am_leN (am_leN (am_leN (am_leN (am_leN (am_leN (am_leN am_leT))))))) (t_L_types_201 d (by omega) _ _)
def f_L_types_165  (x3 : Int32) (s0 : Int32) (s1 : Int32) (s2 : Option (Nat × Nat)) (h : am_H) : am_R := m_dv (10 : Int32) <| m_dv (10 : Int32) <| m_bI (f_L_does s2 s1 ((s0 ||| (((48 : Int32) + (x3 / (10 : Int32))) <<< ((8 : Int32) &&& 31))) ||| (((48 : Int32) + (x3 - x3 / (10 : Int32) * (10 : Int32))) <<< ((16 : Int32) &&& 31))) (3 : Int32) (0 : Int32) (0 : Int32) h) fun h5 v6 => if v6 ≤ 0 then (f_L_types_200 h5) else (f_L_types_201 (1 : Int32) h5)
theorem t_L_types_165 (d : Nat) (hd : 12 ≤ d)  (x3 : Int32) (s0 : Int32) (s1 : Int32) (s2 : Option (Nat × Nat)) (h : am_H) : Sim m_L_types d 165 [none, none, none, some (.inl x3), none, none, none] [.inl s0, .inl s1, .inr (.inr s2)] h (f_L_types_165  x3 s0 s1 s2 h) := by
  unfold f_L_types_165
  refine sim_bipush (48) dL_types_165 (by decide +kernel) ?_
  refine sim_iload_n dL_types_167 rfl ?_
  refine sim_bipush (10) dL_types_168 (by decide +kernel) ?_
  refine sim_dv dL_types_170 ?_
  refine sim_iadd dL_types_171 ?_
  refine sim_bipush (8) dL_types_172 (by decide +kernel) ?_
  refine sim_ishl dL_types_174 ?_
  refine sim_ior dL_types_175 ?_
  refine sim_bipush (48) dL_types_176 (by decide +kernel) ?_
  refine sim_iload_n dL_types_178 rfl ?_
  refine sim_bipush (10) dL_types_179 (by decide +kernel) ?_
  refine sim_rm dL_types_181 ?_
  refine sim_iadd dL_types_182 ?_
  refine sim_bipush (16) dL_types_183 (by decide +kernel) ?_
  refine sim_ishl dL_types_185 ?_
  refine sim_ior dL_types_186 ?_
  refine sim_iconst (3) dL_types_187 (by decide +kernel) ?_
  refine sim_iconst (0) dL_types_188 (by decide +kernel) ?_
  refine sim_iconst (0) dL_types_189 (by decide +kernel) ?_
  refine sim_staticX (d - 1) dL_types_190 (k_L_does (d - 1) (by omega) _ _ _ _ _ _ _) q_L_does wm_RL_152 rfl rfl (by omega) (Nat.le_of_ble_eq_true rfl) am_nI (am_rI fun h5 v6 => ?_) am_eI
  refine sim_if_le 200 dL_types_193 (by decide) (fun c => ?_) (fun c => ?_)
  · exact sim_lv (am_leN (am_leN (am_leN (am_leN (am_leN (am_leN (am_leN am_leT))))))) (t_L_types_200 d (by omega) _)
  · refine sim_iconst (1) dL_types_196 (by decide +kernel) ?_
    refine sim_goto 201 dL_types_197 (by decide) ?_
    exact sim_lv (am_leN (am_leN (am_leN (am_leN (am_leN (am_leN (am_leN am_leT))))))) (t_L_types_201 d (by omega) _ _)
def f_L_types_135  (s0 : Int32) (h : am_H) : am_R := m_rz h s0
theorem t_L_types_135 (d : Nat) (hd : 12 ≤ d)  (s0 : Int32) (h : am_H) : Sim m_L_types d 135 [none, none, none, none, none, none, none] [.inl s0] h (f_L_types_135  s0 h) := by
  unfold f_L_types_135
  exact sim_zret dL_types_135 rfl
def f_L_types_134   (h : am_H) : am_R := f_L_types_135 (0 : Int32) h
theorem t_L_types_134 (d : Nat) (hd : 12 ≤ d)   (h : am_H) : Sim m_L_types d 134 [none, none, none, none, none, none, none] [] h (f_L_types_134   h) := by
  unfold f_L_types_134
  refine sim_iconst (0) dL_types_134 (by decide +kernel) ?_
  exact sim_lv (am_leN (am_leN (am_leN (am_leN (am_leN (am_leN (am_leN am_leT))))))) (t_L_types_135 d (by omega) _ _)
def f_L_types_98  (x0 : Option (Nat × Nat)) (x2 : Int32) (x3 : Int32) (x4 : Int32) (h : am_H) : am_R := if x2 = (2 : Int32) then (if x4 = 0 then (f_L_types_134 h) else (m_bI (f_L_does x0 (21 : Int32) ((114 : Int32) ||| (((48 : Int32) + x3) <<< ((8 : Int32) &&& 31))) (2 : Int32) (0 : Int32) (0 : Int32) h) fun h3 v4 => if v4 ≤ 0 then (f_L_types_134 h3) else (f_L_types_135 (1 : Int32) h3))) else (if x2 ≤ (2 : Int32) then (if x4 = 0 then (f_L_types_200 h) else (if x2 = 0 then (f_L_types_165 x3 (116 : Int32) (21 : Int32) x0 h) else (f_L_types_165 x3 (97 : Int32) (21 : Int32) x0 h))) else (f_L_types_201 x4 h))
theorem t_L_types_98 (d : Nat) (hd : 12 ≤ d)  (x0 : Option (Nat × Nat)) (x2 : Int32) (x3 : Int32) (x4 : Int32) (h : am_H) : Sim m_L_types d 98 [some (.inr (.inr x0)), none, some (.inl x2), some (.inl x3), some (.inl x4), none, none] [] h (f_L_types_98  x0 x2 x3 x4 h) := by
  unfold f_L_types_98
  refine sim_iload_n dL_types_98 rfl ?_
  refine sim_iconst (2) dL_types_99 (by decide +kernel) ?_
  refine sim_ic_ne 136 dL_types_100 (by decide) (fun c => ?_) (fun c => ?_)
  · refine sim_iload_n dL_types_136 rfl ?_
    refine sim_iconst (2) dL_types_137 (by decide +kernel) ?_
    refine sim_ic_le 146 dL_types_138 (by decide) (fun c => ?_) (fun c => ?_)
    · refine sim_iload dL_types_146 rfl ?_
      refine sim_if_eq 200 dL_types_148 (by decide) (fun c => ?_) (fun c => ?_)
      · exact sim_lv (am_leN (am_leN (am_leN (am_leN (am_leN (am_leN (am_leN am_leT))))))) (t_L_types_200 d (by omega) _)
      · refine sim_aload_n dL_types_151 rfl ?_
        refine sim_bipush (21) dL_types_152 (by decide +kernel) ?_
        refine sim_iload_n dL_types_154 rfl ?_
        refine sim_if_ne 163 dL_types_155 (by decide) (fun c => ?_) (fun c => ?_)
        · refine sim_bipush (97) dL_types_163 (by decide +kernel) ?_
          exact sim_lv (am_leN (am_leN (am_leN (am_leS (am_leN (am_leN (am_leN am_leT))))))) (t_L_types_165 d (by omega) _ _ _ _ _)
        · refine sim_bipush (116) dL_types_158 (by decide +kernel) ?_
          refine sim_goto 165 dL_types_160 (by decide) ?_
          exact sim_lv (am_leN (am_leN (am_leN (am_leS (am_leN (am_leN (am_leN am_leT))))))) (t_L_types_165 d (by omega) _ _ _ _ _)
    · refine sim_iload dL_types_141 rfl ?_
      refine sim_goto 201 dL_types_143 (by decide) ?_
      exact sim_lv (am_leN (am_leN (am_leN (am_leN (am_leN (am_leN (am_leN am_leT))))))) (t_L_types_201 d (by omega) _ _)
  · refine sim_iload dL_types_103 rfl ?_
    refine sim_if_eq 134 dL_types_105 (by decide) (fun c => ?_) (fun c => ?_)
    · exact sim_lv (am_leN (am_leN (am_leN (am_leN (am_leN (am_leN (am_leN am_leT))))))) (t_L_types_134 d (by omega) _)
    · refine sim_aload_n dL_types_108 rfl ?_
      refine sim_bipush (21) dL_types_109 (by decide +kernel) ?_
      refine sim_bipush (114) dL_types_111 (by decide +kernel) ?_
      refine sim_bipush (48) dL_types_113 (by decide +kernel) ?_
      refine sim_iload_n dL_types_115 rfl ?_
      refine sim_iadd dL_types_116 ?_
      refine sim_bipush (8) dL_types_117 (by decide +kernel) ?_
      refine sim_ishl dL_types_119 ?_
      refine sim_ior dL_types_120 ?_
      refine sim_iconst (2) dL_types_121 (by decide +kernel) ?_
      refine sim_iconst (0) dL_types_122 (by decide +kernel) ?_
      refine sim_iconst (0) dL_types_123 (by decide +kernel) ?_
      refine sim_staticX (d - 1) dL_types_124 (k_L_does (d - 1) (by omega) _ _ _ _ _ _ _) q_L_does wm_RL_152 rfl rfl (by omega) (Nat.le_of_ble_eq_true rfl) am_nI (am_rI fun h3 v4 => ?_) am_eI
      refine sim_if_le 134 dL_types_127 (by decide) (fun c => ?_) (fun c => ?_)
      · exact sim_lv (am_leN (am_leN (am_leN (am_leN (am_leN (am_leN (am_leN am_leT))))))) (t_L_types_134 d (by omega) _)
      · refine sim_iconst (1) dL_types_130 (by decide +kernel) ?_
        refine sim_goto 135 dL_types_131 (by decide) ?_
        exact sim_lv (am_leN (am_leN (am_leN (am_leN (am_leN (am_leN (am_leN am_leT))))))) (t_L_types_135 d (by omega) _ _)
def f_L_types_86 (rc6 : Option (Nat × Nat) → Int32 → Int32 → Int32 → Int32 → am_H → am_R) (x0 : Option (Nat × Nat)) (x2 : Int32) (x3 : Int32) (x5 : Int32) (s0 : Int32) (h : am_H) : am_R := m_dv (10 : Int32) <| rc6 x0 x2 x3 s0 (x5 / (10 : Int32)) h
theorem t_L_types_86 (d : Nat) (hd : 12 ≤ d) (rc6 : Option (Nat × Nat) → Int32 → Int32 → Int32 → Int32 → am_H → am_R) (hrc6 : ∀ x0 x2 x3 x4 x5 h, Sim m_L_types d 6 [some (.inr (.inr x0)), none, some (.inl x2), some (.inl x3), some (.inl x4), some (.inl x5), none] [] h (rc6 x0 x2 x3 x4 x5 h)) (x0 : Option (Nat × Nat)) (x2 : Int32) (x3 : Int32) (x5 : Int32) (s0 : Int32) (h : am_H) : Sim m_L_types d 86 [some (.inr (.inr x0)), none, some (.inl x2), some (.inl x3), none, some (.inl x5), none] [.inl s0] h (f_L_types_86 rc6 x0 x2 x3 x5 s0 h) := by
  unfold f_L_types_86
  refine sim_istore dL_types_86 (Nat.le_of_ble_eq_true rfl) ?_
  refine sim_iload dL_types_88 rfl ?_
  refine sim_bipush (10) dL_types_90 (by decide +kernel) ?_
  refine sim_dv dL_types_92 ?_
  refine sim_istore dL_types_93 (Nat.le_of_ble_eq_true rfl) ?_
  refine sim_goto 6 dL_types_95 (by decide) ?_
  exact sim_lv (am_leS (am_leN (am_leS (am_leS (am_leS (am_leS (am_leN am_leT))))))) (hrc6 _ _ _ _ _ _)
def f_L_types_72 (rc6 : Option (Nat × Nat) → Int32 → Int32 → Int32 → Int32 → am_H → am_R) (x0 : Option (Nat × Nat)) (x2 : Int32) (x3 : Int32) (x5 : Int32) (s0 : Int32) (s1 : Int32) (s2 : Option (Nat × Nat)) (h : am_H) : am_R := m_bI (f_L_does s2 s1 s0 (1 : Int32) (0 : Int32) (0 : Int32) h) fun h1 v2 => if v2 ≤ 0 then (f_L_types_86 rc6 x0 x2 x3 x5 (0 : Int32) h1) else (f_L_types_86 rc6 x0 x2 x3 x5 (1 : Int32) h1)
theorem t_L_types_72 (d : Nat) (hd : 12 ≤ d) (rc6 : Option (Nat × Nat) → Int32 → Int32 → Int32 → Int32 → am_H → am_R) (hrc6 : ∀ x0 x2 x3 x4 x5 h, Sim m_L_types d 6 [some (.inr (.inr x0)), none, some (.inl x2), some (.inl x3), some (.inl x4), some (.inl x5), none] [] h (rc6 x0 x2 x3 x4 x5 h)) (x0 : Option (Nat × Nat)) (x2 : Int32) (x3 : Int32) (x5 : Int32) (s0 : Int32) (s1 : Int32) (s2 : Option (Nat × Nat)) (h : am_H) : Sim m_L_types d 72 [some (.inr (.inr x0)), none, some (.inl x2), some (.inl x3), none, some (.inl x5), none] [.inl s0, .inl s1, .inr (.inr s2)] h (f_L_types_72 rc6 x0 x2 x3 x5 s0 s1 s2 h) := by
  unfold f_L_types_72
  refine sim_iconst (1) dL_types_72 (by decide +kernel) ?_
  refine sim_iconst (0) dL_types_73 (by decide +kernel) ?_
  refine sim_iconst (0) dL_types_74 (by decide +kernel) ?_
  refine sim_staticX (d - 1) dL_types_75 (k_L_does (d - 1) (by omega) _ _ _ _ _ _ _) q_L_does wm_RL_152 rfl rfl (by omega) (Nat.le_of_ble_eq_true rfl) am_nI (am_rI fun h1 v2 => ?_) am_eI
  refine sim_if_le 85 dL_types_78 (by decide) (fun c => ?_) (fun c => ?_)
  · refine sim_iconst (0) dL_types_85 (by decide +kernel) ?_
    exact sim_lv (am_leS (am_leN (am_leS (am_leS (am_leN (am_leS (am_leN am_leT))))))) (t_L_types_86 d (by omega) _ hrc6 _ _ _ _ _ _)
  · refine sim_iconst (1) dL_types_81 (by decide +kernel) ?_
    refine sim_goto 86 dL_types_82 (by decide) ?_
    exact sim_lv (am_leS (am_leN (am_leS (am_leS (am_leN (am_leS (am_leN am_leT))))))) (t_L_types_86 d (by omega) _ hrc6 _ _ _ _ _ _)
def f_L_types_6  : Nat → Option (Nat × Nat) → Int32 → Int32 → Int32 → Int32 → am_H → am_R
  | 0, _, _, _, _, _, _ => none
  | n + 1, x0, x2, x3, x4, x5, h => if x5 ≤ 0 then (f_L_types_98 x0 x2 x3 x4 h) else (if x4 = 0 then (f_L_types_98 x0 x2 x3 x4 h) else (m_dv (10 : Int32) <| if (x5 - x5 / (10 : Int32) * (10 : Int32)) = (1 : Int32) then (f_L_types_72 (f_L_types_6  n) x0 x2 x3 x5 (33 : Int32) (21 : Int32) x0 h) else (if (x5 - x5 / (10 : Int32) * (10 : Int32)) = (2 : Int32) then (f_L_types_72 (f_L_types_6  n) x0 x2 x3 x5 (40 : Int32) (21 : Int32) x0 h) else (if (x5 - x5 / (10 : Int32) * (10 : Int32)) = (3 : Int32) then (f_L_types_72 (f_L_types_6  n) x0 x2 x3 x5 (41 : Int32) (21 : Int32) x0 h) else (if (x5 - x5 / (10 : Int32) * (10 : Int32)) = (4 : Int32) then (f_L_types_72 (f_L_types_6  n) x0 x2 x3 x5 (38 : Int32) (21 : Int32) x0 h) else (f_L_types_72 (f_L_types_6  n) x0 x2 x3 x5 (124 : Int32) (21 : Int32) x0 h))))))
theorem t_L_types_6 (d : Nat) (hd : 12 ≤ d)  : ∀ (n : Nat) (x0 : Option (Nat × Nat)) (x2 : Int32) (x3 : Int32) (x4 : Int32) (x5 : Int32) (h : am_H), Sim m_L_types d 6 [some (.inr (.inr x0)), none, some (.inl x2), some (.inl x3), some (.inl x4), some (.inl x5), none] [] h (f_L_types_6  n x0 x2 x3 x4 x5 h) := by
  intro n
  induction n with
  | zero => intros; exact sim_none
  | succ n hrc6 =>
    intro x0 x2 x3 x4 x5 h
    rw [f_L_types_6]
    refine sim_iload dL_types_6 rfl ?_
    refine sim_if_le 98 dL_types_8 (by decide) (fun c => ?_) (fun c => ?_)
    · exact sim_lv (am_leS (am_leN (am_leS (am_leS (am_leS (am_leN (am_leN am_leT))))))) (t_L_types_98 d (by omega) _ _ _ _ _)
    · refine sim_iload dL_types_11 rfl ?_
      refine sim_if_eq 98 dL_types_13 (by decide) (fun c => ?_) (fun c => ?_)
      · exact sim_lv (am_leS (am_leN (am_leS (am_leS (am_leS (am_leN (am_leN am_leT))))))) (t_L_types_98 d (by omega) _ _ _ _ _)
      · refine sim_iload dL_types_16 rfl ?_
        refine sim_bipush (10) dL_types_18 (by decide +kernel) ?_
        refine sim_rm dL_types_20 ?_
        refine sim_istore dL_types_21 (Nat.le_of_ble_eq_true rfl) ?_
        refine sim_aload_n dL_types_23 rfl ?_
        refine sim_bipush (21) dL_types_24 (by decide +kernel) ?_
        refine sim_iload dL_types_26 rfl ?_
        refine sim_iconst (1) dL_types_28 (by decide +kernel) ?_
        refine sim_ic_ne 37 dL_types_29 (by decide) (fun c => ?_) (fun c => ?_)
        · refine sim_iload dL_types_37 rfl ?_
          refine sim_iconst (2) dL_types_39 (by decide +kernel) ?_
          refine sim_ic_ne 48 dL_types_40 (by decide) (fun c => ?_) (fun c => ?_)
          · refine sim_iload dL_types_48 rfl ?_
            refine sim_iconst (3) dL_types_50 (by decide +kernel) ?_
            refine sim_ic_ne 59 dL_types_51 (by decide) (fun c => ?_) (fun c => ?_)
            · refine sim_iload dL_types_59 rfl ?_
              refine sim_iconst (4) dL_types_61 (by decide +kernel) ?_
              refine sim_ic_ne 70 dL_types_62 (by decide) (fun c => ?_) (fun c => ?_)
              · refine sim_bipush (124) dL_types_70 (by decide +kernel) ?_
                exact sim_lv (am_leS (am_leN (am_leS (am_leS (am_leN (am_leS (am_leN am_leT))))))) (t_L_types_72 d (by omega) _ hrc6 _ _ _ _ _ _ _ _)
              · refine sim_bipush (38) dL_types_65 (by decide +kernel) ?_
                refine sim_goto 72 dL_types_67 (by decide) ?_
                exact sim_lv (am_leS (am_leN (am_leS (am_leS (am_leN (am_leS (am_leN am_leT))))))) (t_L_types_72 d (by omega) _ hrc6 _ _ _ _ _ _ _ _)
            · refine sim_bipush (41) dL_types_54 (by decide +kernel) ?_
              refine sim_goto 72 dL_types_56 (by decide) ?_
              exact sim_lv (am_leS (am_leN (am_leS (am_leS (am_leN (am_leS (am_leN am_leT))))))) (t_L_types_72 d (by omega) _ hrc6 _ _ _ _ _ _ _ _)
          · refine sim_bipush (40) dL_types_43 (by decide +kernel) ?_
            refine sim_goto 72 dL_types_45 (by decide) ?_
            exact sim_lv (am_leS (am_leN (am_leS (am_leS (am_leN (am_leS (am_leN am_leT))))))) (t_L_types_72 d (by omega) _ hrc6 _ _ _ _ _ _ _ _)
        · refine sim_bipush (33) dL_types_32 (by decide +kernel) ?_
          refine sim_goto 72 dL_types_34 (by decide) ?_
          exact sim_lv (am_leS (am_leN (am_leS (am_leS (am_leN (am_leS (am_leN am_leT))))))) (t_L_types_72 d (by omega) _ hrc6 _ _ _ _ _ _ _ _)
def f_L_types (x0 : Option (Nat × Nat)) (x1 : Int32) (x2 : Int32) (x3 : Int32) (h : am_H) : am_R := f_L_types_6 5000 x0 x2 x3 (1 : Int32) x1 h
theorem k_L_types (d : Nat) (hd : 12 ≤ d) (x0 : Option (Nat × Nat)) (x1 : Int32) (x2 : Int32) (x3 : Int32) (h : am_H) : am_Con m_L_types d [.inr (.inr x0), .inl x1, .inl x2, .inl x3] h (f_L_types x0 x1 x2 x3 h) := am_con (by decide +kernel) (Nat.le_of_ble_eq_true rfl) (by
  unfold f_L_types
  refine sim_iconst (1) dL_types_0 (by decide +kernel) ?_
  refine sim_istore dL_types_1 (Nat.le_of_ble_eq_true rfl) ?_
  refine sim_iload_n dL_types_3 rfl ?_
  refine sim_istore dL_types_4 (Nat.le_of_ble_eq_true rfl) ?_
  exact sim_lv (am_leS (am_leN (am_leS (am_leS (am_leS (am_leS (am_leN am_leT))))))) (t_L_types_6 d (by omega) _ _ _ _ _ _ _))
theorem q_L_types : am_Cal m_L_types 4 0 := ⟨am_mem 979 (w := Cond.code yL_types cL_types 7 (some .boolean)) (by decide +kernel) rfl, am_mem 29 (w := Cond.initialized RL) (by decide +kernel) rfl, fun _ => am_mem 978 (w := Cond.static yL_types) (by decide +kernel) rfl, fun z => absurd rfl z, fun z => absurd z (by decide), fun z => absurd z (by decide), by decide +kernel, by decide +kernel, Nat.le_of_ble_eq_true rfl⟩
abbrev m_L_item : am_M := (yL_item, cL_item, 4, some .int, [])
def f_L_item_82  (s0 : Int32) (h : am_H) : am_R := m_ri h s0
theorem t_L_item_82 (d : Nat) (hd : 13 ≤ d)  (s0 : Int32) (h : am_H) : Sim m_L_item d 82 [none, none, none, none] [.inl s0] h (f_L_item_82  s0 h) := by
  unfold f_L_item_82
  exact sim_iret dL_item_82 rfl
def f_L_item_68  (s0 : Int32) (s1 : Int32) (s2 : Int32) (s3 : Int32) (s4 : Option (Nat × Nat)) (h : am_H) : am_R := m_bI (f_L_low s1 s0 h) fun h5 v6 => m_bI (f_L_types s4 s3 s2 v6 h5) fun h7 v8 => if v8 = 0 then (f_L_item_82 (0 : Int32) h7) else (f_L_item_82 (1 : Int32) h7)
theorem t_L_item_68 (d : Nat) (hd : 13 ≤ d)  (s0 : Int32) (s1 : Int32) (s2 : Int32) (s3 : Int32) (s4 : Option (Nat × Nat)) (h : am_H) : Sim m_L_item d 68 [none, none, none, none] [.inl s0, .inl s1, .inl s2, .inl s3, .inr (.inr s4)] h (f_L_item_68  s0 s1 s2 s3 s4 h) := by
  unfold f_L_item_68
  refine sim_static (d - 1) dL_item_68 (k_L_low (d - 1) (by omega) _ _ _) q_L_low wm_RL_155 rfl rfl (by omega) (Nat.le_of_ble_eq_true rfl) am_nI (am_rI fun h5 v6 => ?_) am_eI
  refine sim_static (d - 1) dL_item_71 (k_L_types (d - 1) (by omega) _ _ _ _ _) q_L_types wm_RL_158 rfl rfl (by omega) (Nat.le_of_ble_eq_true rfl) am_nI (am_rI fun h7 v8 => ?_) am_eI
  refine sim_if_eq 81 dL_item_74 (by decide) (fun c => ?_) (fun c => ?_)
  · refine sim_iconst (0) dL_item_81 (by decide +kernel) ?_
    exact sim_lv (am_leN (am_leN (am_leN (am_leN am_leT)))) (t_L_item_82 d (by omega) _ _)
  · refine sim_iconst (1) dL_item_77 (by decide +kernel) ?_
    refine sim_goto 82 dL_item_78 (by decide) ?_
    exact sim_lv (am_leN (am_leN (am_leN (am_leN am_leT)))) (t_L_item_82 d (by omega) _ _)
def f_L_item_44  (x1 : Int32) (x2 : Int32) (s0 : Int32) (s1 : Int32) (s2 : Option (Nat × Nat)) (h : am_H) : am_R := if (3 : Int32) ≤ x2 then (if (5 : Int32) ≤ x2 then (f_L_item_68 (4 : Int32) (x1 >>> ((3 : Int32) &&& 31)) s0 s1 s2 h) else (f_L_item_68 (12 : Int32) (x1 >>> ((3 : Int32) &&& 31)) s0 s1 s2 h)) else (f_L_item_68 (14 : Int32) (x1 >>> ((3 : Int32) &&& 31)) s0 s1 s2 h)
theorem t_L_item_44 (d : Nat) (hd : 13 ≤ d)  (x1 : Int32) (x2 : Int32) (s0 : Int32) (s1 : Int32) (s2 : Option (Nat × Nat)) (h : am_H) : Sim m_L_item d 44 [none, some (.inl x1), some (.inl x2), none] [.inl s0, .inl s1, .inr (.inr s2)] h (f_L_item_44  x1 x2 s0 s1 s2 h) := by
  unfold f_L_item_44
  refine sim_iload_n dL_item_44 rfl ?_
  refine sim_iconst (3) dL_item_45 (by decide +kernel) ?_
  refine sim_ishr dL_item_46 ?_
  refine sim_iload_n dL_item_47 rfl ?_
  refine sim_iconst (3) dL_item_48 (by decide +kernel) ?_
  refine sim_ic_ge 57 dL_item_49 (by decide) (fun c => ?_) (fun c => ?_)
  · refine sim_iload_n dL_item_57 rfl ?_
    refine sim_iconst (5) dL_item_58 (by decide +kernel) ?_
    refine sim_ic_ge 67 dL_item_59 (by decide) (fun c => ?_) (fun c => ?_)
    · refine sim_iconst (4) dL_item_67 (by decide +kernel) ?_
      exact sim_lv (am_leN (am_leN (am_leN (am_leN am_leT)))) (t_L_item_68 d (by omega) _ _ _ _ _ _)
    · refine sim_bipush (12) dL_item_62 (by decide +kernel) ?_
      refine sim_goto 68 dL_item_64 (by decide) ?_
      exact sim_lv (am_leN (am_leN (am_leN (am_leN am_leT)))) (t_L_item_68 d (by omega) _ _ _ _ _ _)
  · refine sim_bipush (14) dL_item_52 (by decide +kernel) ?_
    refine sim_goto 68 dL_item_54 (by decide) ?_
    exact sim_lv (am_leN (am_leN (am_leN (am_leN am_leT)))) (t_L_item_68 d (by omega) _ _ _ _ _ _)
def f_L_item_22  (x0 : Option (Nat × Nat)) (x1 : Int32) (x2 : Int32) (s0 : Int32) (h : am_H) : am_R := if (3 : Int32) ≤ x2 then (if (5 : Int32) ≤ x2 then (f_L_item_44 x1 x2 (2 : Int32) s0 x0 h) else (f_L_item_44 x1 x2 (1 : Int32) s0 x0 h)) else (f_L_item_44 x1 x2 (0 : Int32) s0 x0 h)
theorem t_L_item_22 (d : Nat) (hd : 13 ≤ d)  (x0 : Option (Nat × Nat)) (x1 : Int32) (x2 : Int32) (s0 : Int32) (h : am_H) : Sim m_L_item d 22 [some (.inr (.inr x0)), some (.inl x1), some (.inl x2), none] [.inl s0] h (f_L_item_22  x0 x1 x2 s0 h) := by
  unfold f_L_item_22
  refine sim_istore_n dL_item_22 (Nat.le_of_ble_eq_true rfl) ?_
  refine sim_aload_n dL_item_23 rfl ?_
  refine sim_iload_n dL_item_24 rfl ?_
  refine sim_iload_n dL_item_25 rfl ?_
  refine sim_iconst (3) dL_item_26 (by decide +kernel) ?_
  refine sim_ic_ge 34 dL_item_27 (by decide) (fun c => ?_) (fun c => ?_)
  · refine sim_iload_n dL_item_34 rfl ?_
    refine sim_iconst (5) dL_item_35 (by decide +kernel) ?_
    refine sim_ic_ge 43 dL_item_36 (by decide) (fun c => ?_) (fun c => ?_)
    · refine sim_iconst (2) dL_item_43 (by decide +kernel) ?_
      exact sim_lv (am_leN (am_leS (am_leS (am_leN am_leT)))) (t_L_item_44 d (by omega) _ _ _ _ _ _)
    · refine sim_iconst (1) dL_item_39 (by decide +kernel) ?_
      refine sim_goto 44 dL_item_40 (by decide) ?_
      exact sim_lv (am_leN (am_leS (am_leS (am_leN am_leT)))) (t_L_item_44 d (by omega) _ _ _ _ _ _)
  · refine sim_iconst (0) dL_item_30 (by decide +kernel) ?_
    refine sim_goto 44 dL_item_31 (by decide) ?_
    exact sim_lv (am_leN (am_leS (am_leS (am_leN am_leT)))) (t_L_item_44 d (by omega) _ _ _ _ _ _)
def f_L_item (x0 : Option (Nat × Nat)) (x1 : Int32) (h : am_H) : am_R := m_bI (f_L_low x1 (6 : Int32) h) fun h1 v2 => m_bI (f_L_low (x1 >>> ((5 : Int32) &&& 31)) (4 : Int32) h1) fun h3 v4 => if v4 = 0 then (f_L_item_22 x0 x1 v2 (1 : Int32) h3) else (f_L_item_22 x0 x1 v2 (0 : Int32) h3)
theorem k_L_item (d : Nat) (hd : 13 ≤ d) (x0 : Option (Nat × Nat)) (x1 : Int32) (h : am_H) : am_Con m_L_item d [.inr (.inr x0), .inl x1] h (f_L_item x0 x1 h) := am_con (by decide +kernel) (Nat.le_of_ble_eq_true rfl) (by
  unfold f_L_item
  refine sim_iload_n dL_item_0 rfl ?_
  refine sim_bipush (6) dL_item_1 (by decide +kernel) ?_
  refine sim_static (d - 1) dL_item_3 (k_L_low (d - 1) (by omega) _ _ _) q_L_low wm_RL_155 rfl rfl (by omega) (Nat.le_of_ble_eq_true rfl) am_nI (am_rI fun h1 v2 => ?_) am_eI
  refine sim_istore_n dL_item_6 (Nat.le_of_ble_eq_true rfl) ?_
  refine sim_iload_n dL_item_7 rfl ?_
  refine sim_iconst (5) dL_item_8 (by decide +kernel) ?_
  refine sim_ishr dL_item_9 ?_
  refine sim_iconst (4) dL_item_10 (by decide +kernel) ?_
  refine sim_static (d - 1) dL_item_11 (k_L_low (d - 1) (by omega) _ _ _) q_L_low wm_RL_155 rfl rfl (by omega) (Nat.le_of_ble_eq_true rfl) am_nI (am_rI fun h3 v4 => ?_) am_eI
  refine sim_if_ne 21 dL_item_14 (by decide) (fun c => ?_) (fun c => ?_)
  · refine sim_iconst (0) dL_item_21 (by decide +kernel) ?_
    exact sim_lv (am_leS (am_leS (am_leS (am_leN am_leT)))) (t_L_item_22 d (by omega) _ _ _ _ _)
  · refine sim_iconst (1) dL_item_17 (by decide +kernel) ?_
    refine sim_goto 22 dL_item_18 (by decide) ?_
    exact sim_lv (am_leS (am_leS (am_leS (am_leN am_leT)))) (t_L_item_22 d (by omega) _ _ _ _ _))
theorem q_L_item : am_Cal m_L_item 2 0 := ⟨am_mem 976 (w := Cond.code yL_item cL_item 4 (some .int)) (by decide +kernel) rfl, am_mem 29 (w := Cond.initialized RL) (by decide +kernel) rfl, fun _ => am_mem 975 (w := Cond.static yL_item) (by decide +kernel) rfl, fun z => absurd rfl z, fun z => absurd z (by decide), fun z => absurd z (by decide), by decide +kernel, by decide +kernel, Nat.le_of_ble_eq_true rfl⟩
abbrev m_X10_wipe : am_M := (yX10_wipe, cX10_wipe, 2, some .int, [])
def f_X10_wipe (a0 : Nat × Nat) (h : am_H) : am_R := m_gR (some a0) 10 8 h fun o1 => m_gI o1 8 1 h fun v2 => m_gR (some a0) 10 8 h fun o3 => m_pI o3 8 1 (0 : Int32) h fun h4 => m_ri h4 v2
theorem k_X10_wipe (d : Nat) (hd : 0 ≤ d) (a0 : Nat × Nat) (h : am_H) : am_Con m_X10_wipe d [.inr (.inr (some a0))] h (f_X10_wipe a0 h) := am_con (by decide +kernel) (Nat.le_of_ble_eq_true rfl) (by
  unfold f_X10_wipe
  refine sim_aload_n dX10_wipe_0 rfl ?_
  refine sim_gR 10 8 dX10_wipe_1 rfl wf_RX10_41 (Nat.le_of_ble_eq_true rfl) rfl (fun o1 => ?_)
  refine sim_gI 8 1 dX10_wipe_4 rfl wf_RX10_263 (Nat.le_of_ble_eq_true rfl) rfl (fun v2 => ?_)
  refine sim_istore_n dX10_wipe_7 (Nat.le_of_ble_eq_true rfl) ?_
  refine sim_aload_n dX10_wipe_8 rfl ?_
  refine sim_gR 10 8 dX10_wipe_9 rfl wf_RX10_41 (Nat.le_of_ble_eq_true rfl) rfl (fun o3 => ?_)
  refine sim_iconst (0) dX10_wipe_12 (by decide +kernel) ?_
  refine sim_pI 8 1 dX10_wipe_13 rfl wf_RX10_263 (Nat.le_of_ble_eq_true rfl) rfl (Or.inl rfl) rfl (fun h4 => ?_)
  refine sim_iload_n dX10_wipe_16 rfl ?_
  exact sim_iret dX10_wipe_17 rfl)
theorem q_X10_wipe : am_Cal m_X10_wipe 0 2 := ⟨am_mem 973 (w := Cond.code yX10_wipe cX10_wipe 2 (some .int)) (by decide +kernel) rfl, am_mem 30 (w := Cond.initialized RX10) (by decide +kernel) rfl, fun z => absurd z (by decide), fun _ => am_mem 971 (w := Cond.instanceMethod yX10_wipe) (by decide +kernel) rfl, fun z => absurd z (by decide), fun _ => am_mem 972 (w := Cond.selects RX10 yX10_wipe yX10_wipe) (by decide +kernel) rfl, by decide +kernel, by decide +kernel, Nat.le_of_ble_eq_true rfl⟩
