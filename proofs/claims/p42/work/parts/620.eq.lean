theorem e_X11_holds_14 {S : Nat × Nat → Bool} {ρ : Nat × Nat → Nat × Nat} (O : RhoOk S ρ)  {h g : am_H} (R : eqR S ρ h g) (s0 : Int32) : eqQ S ρ h g (f_X11_holds_14 s0 h) (f_X11_holds_14 s0 g) := by
  rw [f_X11_holds_14, f_X11_holds_14]
  exact q_rz R
theorem e_X11_holds {S : Nat × Nat → Bool} {ρ : Nat × Nat → Nat × Nat} (O : RhoOk S ρ)  {h g : am_H} (R : eqR S ρ h g) (a0 : Nat × Nat) (s_a0 : S a0 = true) (x1 : Int32) : eqQ S ρ h g (f_X11_holds a0 x1 h) (f_X11_holds (ρ a0) x1 g) := by
  rw [f_X11_holds, f_X11_holds]
  refine q_pI O R (okp_s s_a0) (fun h1 gh1 R => ?_)
  refine q_ite (fun _ => ?_) (fun _ => ?_)
  · exact e_X11_holds_14 O R _
  · exact e_X11_holds_14 O R _
theorem e_X11_in_15 {S : Nat × Nat → Bool} {ρ : Nat × Nat → Nat × Nat} (O : RhoOk S ρ)  {h g : am_H} (R : eqR S ρ h g) (s0 : Int32) : eqQ S ρ h g (f_X11_in_15 s0 h) (f_X11_in_15 s0 g) := by
  rw [f_X11_in_15, f_X11_in_15]
  exact q_rz R
theorem e_X11_in_14 {S : Nat × Nat → Bool} {ρ : Nat × Nat → Nat × Nat} (O : RhoOk S ρ)  {h g : am_H} (R : eqR S ρ h g)  : eqQ S ρ h g (f_X11_in_14  h) (f_X11_in_14  g) := by
  unfold f_X11_in_14
  exact e_X11_in_15 O R _
theorem e_X11_in {S : Nat × Nat → Bool} {ρ : Nat × Nat → Nat × Nat} (O : RhoOk S ρ)  {h g : am_H} (R : eqR S ρ h g) (x0 : Int32) (x1 : Int32) (x2 : Int32) : eqQ S ρ h g (f_X11_in x0 x1 x2 h) (f_X11_in x0 x1 x2 g) := by
  rw [f_X11_in, f_X11_in]
  refine q_ite (fun _ => ?_) (fun _ => ?_)
  · exact e_X11_in_14 O R
  · refine q_ite (fun _ => ?_) (fun _ => ?_)
    · exact e_X11_in_14 O R
    · exact e_X11_in_15 O R _
theorem e_X11_isPerson {S : Nat × Nat → Bool} {ρ : Nat × Nat → Nat × Nat} (O : RhoOk S ρ)  {h g : am_H} (R : eqR S ρ h g) (x0 : Int32) : eqQ S ρ h g (f_X11_isPerson x0 h) (f_X11_isPerson x0 g) := by
  rw [f_X11_isPerson, f_X11_isPerson]
  refine q_bI (e_X11_in O R _ _ _) (fun h1 gh1 v2 R => ?_)
  exact q_rz R
theorem e_X11_block_29 {S : Nat × Nat → Bool} {ρ : Nat × Nat → Nat × Nat} (O : RhoOk S ρ)  {h g : am_H} (R : eqR S ρ h g) (a0 : Nat × Nat) (s_a0 : S a0 = true) (x1 : Int32) (x2 : Int32) (x3 : Int32) (s0 : Int32) (s1 : Option (Nat × Nat)) (p_s1 : okp S s1) : eqQ S ρ h g (f_X11_block_29 a0 x1 x2 x3 s0 s1 h) (f_X11_block_29 (ρ a0) x1 x2 x3 s0 (s1.map ρ) g) := by
  rw [f_X11_block_29, f_X11_block_29]
  refine q_ao O p_s1 (fun a7 s_a7 => ?_)
  refine q_bI (e_X11_holds O R _ s_a7 _) (fun h5 gh5 v6 R => ?_)
  refine q_ite (fun _ => ?_) (fun _ => ?_)
  · exact q_rz R
  · refine q_gR O R (okp_s s_a0) (fun o8 p_o8 => ?_)
    refine q_aI O R p_o8 (fun v9 => ?_)
    refine q_gR O R (okp_s s_a0) (fun o10 p_o10 => ?_)
    refine q_sZ O R p_o10 (fun h11 gh11 R => ?_)
    exact q_rz R
theorem e_X11_block_15 {S : Nat × Nat → Bool} {ρ : Nat × Nat → Nat × Nat} (O : RhoOk S ρ)  {h g : am_H} (R : eqR S ρ h g) (a0 : Nat × Nat) (s_a0 : S a0 = true) (x1 : Int32) (x2 : Int32) (x3 : Int32) (s0 : Option (Nat × Nat)) (p_s0 : okp S s0) : eqQ S ρ h g (f_X11_block_15 a0 x1 x2 x3 s0 h) (f_X11_block_15 (ρ a0) x1 x2 x3 (s0.map ρ) g) := by
  rw [f_X11_block_15, f_X11_block_15]
  exact e_X11_block_29 O R _ s_a0 _ _ _ _ _ p_s0
theorem e_X11_block {S : Nat × Nat → Bool} {ρ : Nat × Nat → Nat × Nat} (O : RhoOk S ρ)  {h g : am_H} (R : eqR S ρ h g) (a0 : Nat × Nat) (s_a0 : S a0 = true) (x1 : Int32) (x2 : Int32) (x3 : Int32) : eqQ S ρ h g (f_X11_block a0 x1 x2 x3 h) (f_X11_block (ρ a0) x1 x2 x3 g) := by
  rw [f_X11_block, f_X11_block]
  refine q_bI (e_X11_isPerson O R _) (fun h1 gh1 v2 R => ?_)
  refine q_ite (fun _ => ?_) (fun _ => ?_)
  · exact e_X11_block_15 O R _ s_a0 _ _ _ _ (okp_s s_a0)
  · refine q_bI (e_X11_isPerson O R _) (fun h3 gh3 v4 R => ?_)
    refine q_ite (fun _ => ?_) (fun _ => ?_)
    · exact e_X11_block_15 O R _ s_a0 _ _ _ _ (okp_s s_a0)
    · refine q_ite (fun _ => ?_) (fun _ => ?_)
      · exact e_X11_block_29 O R _ s_a0 _ _ _ _ _ (okp_s s_a0)
      · exact e_X11_block_29 O R _ s_a0 _ _ _ _ _ (okp_s s_a0)
theorem e_X11_change_179 {S : Nat × Nat → Bool} {ρ : Nat × Nat → Nat × Nat} (O : RhoOk S ρ)  {h g : am_H} (R : eqR S ρ h g) (x3 : Int32) (s0 : Int32) (s1 : Int32) (s2 : Option (Nat × Nat)) (p_s2 : okp S s2) : eqQ S ρ h g (f_X11_change_179 x3 s0 s1 s2 h) (f_X11_change_179 x3 s0 s1 (s2.map ρ) g) := by
  rw [f_X11_change_179, f_X11_change_179]
  refine q_sZ O R p_s2 (fun h26 gh26 R => ?_)
  exact q_rz R
theorem e_X11_change_174 {S : Nat × Nat → Bool} {ρ : Nat × Nat → Nat × Nat} (O : RhoOk S ρ)  {h g : am_H} (R : eqR S ρ h g) (x3 : Int32) (s0 : Int32) (s1 : Option (Nat × Nat)) (p_s1 : okp S s1) : eqQ S ρ h g (f_X11_change_174 x3 s0 s1 h) (f_X11_change_174 x3 s0 (s1.map ρ) g) := by
  rw [f_X11_change_174, f_X11_change_174]
  exact e_X11_change_179 O R _ _ _ _ p_s1
theorem e_X11_change_154 {S : Nat × Nat → Bool} {ρ : Nat × Nat → Nat × Nat} (O : RhoOk S ρ)  {h g : am_H} (R : eqR S ρ h g) (a0 : Nat × Nat) (s_a0 : S a0 = true) (x1 : Int32) (x2 : Int32) (x3 : Int32) (s0 : Int32) (s1 : Int32) (s2 : Option (Nat × Nat)) (p_s2 : okp S s2) : eqQ S ρ h g (f_X11_change_154 a0 x1 x2 x3 s0 s1 s2 h) (f_X11_change_154 (ρ a0) x1 x2 x3 s0 s1 (s2.map ρ) g) := by
  rw [f_X11_change_154, f_X11_change_154]
  refine q_sZ O R p_s2 (fun h22 gh22 R => ?_)
  refine q_gR O R (okp_s s_a0) (fun o23 p_o23 => ?_)
  refine q_ite (fun _ => ?_) (fun _ => ?_)
  · exact e_X11_change_174 O R _ _ _ p_o23
  · refine q_gR O R (okp_s s_a0) (fun o24 p_o24 => ?_)
    refine q_aI O R p_o24 (fun v25 => ?_)
    refine q_ite (fun _ => ?_) (fun _ => ?_)
    · exact e_X11_change_179 O R _ _ _ _ p_o23
    · exact e_X11_change_174 O R _ _ _ p_o23
theorem e_X11_change_153 {S : Nat × Nat → Bool} {ρ : Nat × Nat → Nat × Nat} (O : RhoOk S ρ)  {h g : am_H} (R : eqR S ρ h g) (a0 : Nat × Nat) (s_a0 : S a0 = true) (x1 : Int32) (x2 : Int32) (x3 : Int32) (s0 : Int32) (s1 : Option (Nat × Nat)) (p_s1 : okp S s1) : eqQ S ρ h g (f_X11_change_153 a0 x1 x2 x3 s0 s1 h) (f_X11_change_153 (ρ a0) x1 x2 x3 s0 (s1.map ρ) g) := by
  rw [f_X11_change_153, f_X11_change_153]
  exact e_X11_change_154 O R _ s_a0 _ _ _ _ _ _ p_s1
theorem e_X11_change_129 {S : Nat × Nat → Bool} {ρ : Nat × Nat → Nat × Nat} (O : RhoOk S ρ)  {h g : am_H} (R : eqR S ρ h g) (a0 : Nat × Nat) (s_a0 : S a0 = true) (x1 : Int32) (x2 : Int32) (x3 : Int32) (s0 : Int32) (s1 : Int32) (s2 : Option (Nat × Nat)) (p_s2 : okp S s2) : eqQ S ρ h g (f_X11_change_129 a0 x1 x2 x3 s0 s1 s2 h) (f_X11_change_129 (ρ a0) x1 x2 x3 s0 s1 (s2.map ρ) g) := by
  rw [f_X11_change_129, f_X11_change_129]
  refine q_sZ O R p_s2 (fun h18 gh18 R => ?_)
  refine q_gR O R (okp_s s_a0) (fun o19 p_o19 => ?_)
  refine q_ite (fun _ => ?_) (fun _ => ?_)
  · exact e_X11_change_153 O R _ s_a0 _ _ _ _ _ p_o19
  · refine q_gR O R (okp_s s_a0) (fun o20 p_o20 => ?_)
    refine q_aI O R p_o20 (fun v21 => ?_)
    refine q_ite (fun _ => ?_) (fun _ => ?_)
    · exact e_X11_change_153 O R _ s_a0 _ _ _ _ _ p_o19
    · exact e_X11_change_154 O R _ s_a0 _ _ _ _ _ _ p_o19
theorem e_X11_change_128 {S : Nat × Nat → Bool} {ρ : Nat × Nat → Nat × Nat} (O : RhoOk S ρ)  {h g : am_H} (R : eqR S ρ h g) (a0 : Nat × Nat) (s_a0 : S a0 = true) (x1 : Int32) (x2 : Int32) (x3 : Int32) (s0 : Int32) (s1 : Option (Nat × Nat)) (p_s1 : okp S s1) : eqQ S ρ h g (f_X11_change_128 a0 x1 x2 x3 s0 s1 h) (f_X11_change_128 (ρ a0) x1 x2 x3 s0 (s1.map ρ) g) := by
  rw [f_X11_change_128, f_X11_change_128]
  exact e_X11_change_129 O R _ s_a0 _ _ _ _ _ _ p_s1
theorem e_X11_change_124 {S : Nat × Nat → Bool} {ρ : Nat × Nat → Nat × Nat} (O : RhoOk S ρ)  {h g : am_H} (R : eqR S ρ h g) (a0 : Nat × Nat) (s_a0 : S a0 = true) (x1 : Int32) (x2 : Int32) (x3 : Int32) (s0 : Int32) (s1 : Option (Nat × Nat)) (p_s1 : okp S s1) : eqQ S ρ h g (f_X11_change_124 a0 x1 x2 x3 s0 s1 h) (f_X11_change_124 (ρ a0) x1 x2 x3 s0 (s1.map ρ) g) := by
  rw [f_X11_change_124, f_X11_change_124]
  exact e_X11_change_129 O R _ s_a0 _ _ _ _ _ _ p_s1
theorem e_X11_change_100 {S : Nat × Nat → Bool} {ρ : Nat × Nat → Nat × Nat} (O : RhoOk S ρ)  {h g : am_H} (R : eqR S ρ h g) (a0 : Nat × Nat) (s_a0 : S a0 = true) (x1 : Int32) (x2 : Int32) (s0 : Int32) : eqQ S ρ h g (f_X11_change_100 a0 x1 x2 s0 h) (f_X11_change_100 (ρ a0) x1 x2 s0 g) := by
  rw [f_X11_change_100, f_X11_change_100]
  refine q_gR O R (okp_s s_a0) (fun o15 p_o15 => ?_)
  refine q_ite (fun _ => ?_) (fun _ => ?_)
  · exact e_X11_change_124 O R _ s_a0 _ _ _ _ _ p_o15
  · refine q_ite (fun _ => ?_) (fun _ => ?_)
    · exact e_X11_change_128 O R _ s_a0 _ _ _ _ _ p_o15
    · refine q_gR O R (okp_s s_a0) (fun o16 p_o16 => ?_)
      refine q_aI O R p_o16 (fun v17 => ?_)
      refine q_ite (fun _ => ?_) (fun _ => ?_)
      · exact e_X11_change_128 O R _ s_a0 _ _ _ _ _ p_o15
      · exact e_X11_change_124 O R _ s_a0 _ _ _ _ _ p_o15
theorem e_X11_change_92 {S : Nat × Nat → Bool} {ρ : Nat × Nat → Nat × Nat} (O : RhoOk S ρ)  {h g : am_H} (R : eqR S ρ h g) (a0 : Nat × Nat) (s_a0 : S a0 = true) (x1 : Int32) (x2 : Int32) (s0 : Int32) (s1 : Int32) : eqQ S ρ h g (f_X11_change_92 a0 x1 x2 s0 s1 h) (f_X11_change_92 (ρ a0) x1 x2 s0 s1 g) := by
  rw [f_X11_change_92, f_X11_change_92]
  refine q_ite (fun _ => ?_) (fun _ => ?_)
  · exact e_X11_change_100 O R _ s_a0 _ _ _
  · exact e_X11_change_100 O R _ s_a0 _ _ _
theorem e_X11_change_33 {S : Nat × Nat → Bool} {ρ : Nat × Nat → Nat × Nat} (O : RhoOk S ρ)  {h g : am_H} (R : eqR S ρ h g) (a0 : Nat × Nat) (s_a0 : S a0 = true) (x1 : Int32) (x2 : Int32) (s0 : Int32) (s1 : Option (Nat × Nat)) (p_s1 : okp S s1) : eqQ S ρ h g (f_X11_change_33 a0 x1 x2 s0 s1 h) (f_X11_change_33 (ρ a0) x1 x2 s0 (s1.map ρ) g) := by
  rw [f_X11_change_33, f_X11_change_33]
  refine q_ao O p_s1 (fun a8 s_a8 => ?_)
  refine q_bI (e_X11_holds O R _ s_a8 _) (fun h6 gh6 v7 R => ?_)
  refine q_ite (fun _ => ?_) (fun _ => ?_)
  · exact q_rz R
  · refine q_ite (fun _ => ?_) (fun _ => ?_)
    · refine q_gR O R (okp_s s_a0) (fun o13 p_o13 => ?_)
      refine q_aI O R p_o13 (fun v14 => ?_)
      exact e_X11_change_100 O R _ s_a0 _ _ _
    · refine q_ite (fun _ => ?_) (fun _ => ?_)
      · refine q_gR O R (okp_s s_a0) (fun o11 p_o11 => ?_)
        refine q_aI O R p_o11 (fun v12 => ?_)
        refine q_ite (fun _ => ?_) (fun _ => ?_)
        · exact e_X11_change_100 O R _ s_a0 _ _ _
        · exact e_X11_change_100 O R _ s_a0 _ _ _
      · refine q_gR O R (okp_s s_a0) (fun o9 p_o9 => ?_)
        refine q_aI O R p_o9 (fun v10 => ?_)
        refine q_ite (fun _ => ?_) (fun _ => ?_)
        · exact e_X11_change_92 O R _ s_a0 _ _ _ _
        · exact e_X11_change_92 O R _ s_a0 _ _ _ _
theorem e_X11_change {S : Nat × Nat → Bool} {ρ : Nat × Nat → Nat × Nat} (O : RhoOk S ρ)  {h g : am_H} (R : eqR S ρ h g) (a0 : Nat × Nat) (s_a0 : S a0 = true) (x1 : Int32) (x2 : Int32) : eqQ S ρ h g (f_X11_change a0 x1 x2 h) (f_X11_change (ρ a0) x1 x2 g) := by
  rw [f_X11_change, f_X11_change]
  refine q_gI O R (okp_s s_a0) (fun v1 => ?_)
  refine q_bI (e_X11_in O R _ _ _) (fun h2 gh2 v3 R => ?_)
  refine q_ite (fun _ => ?_) (fun _ => ?_)
  · exact e_X11_change_33 O R _ s_a0 _ _ _ _ (okp_s s_a0)
  · refine q_bI (e_X11_in O R _ _ _) (fun h4 gh4 v5 R => ?_)
    refine q_ite (fun _ => ?_) (fun _ => ?_)
    · exact e_X11_change_33 O R _ s_a0 _ _ _ _ (okp_s s_a0)
    · exact e_X11_change_33 O R _ s_a0 _ _ _ _ (okp_s s_a0)
theorem e_X11_isWork {S : Nat × Nat → Bool} {ρ : Nat × Nat → Nat × Nat} (O : RhoOk S ρ)  {h g : am_H} (R : eqR S ρ h g) (a0 : Nat × Nat) (s_a0 : S a0 = true) (x1 : Int32) : eqQ S ρ h g (f_X11_isWork a0 x1 h) (f_X11_isWork (ρ a0) x1 g) := by
  rw [f_X11_isWork, f_X11_isWork]
  refine q_gI O R (okp_s s_a0) (fun v1 => ?_)
  refine q_bI (e_X11_in O R _ _ _) (fun h2 gh2 v3 R => ?_)
  exact q_rz R
theorem e_X11_chapter_31 {S : Nat × Nat → Bool} {ρ : Nat × Nat → Nat × Nat} (O : RhoOk S ρ)  {h g : am_H} (R : eqR S ρ h g) (a0 : Nat × Nat) (s_a0 : S a0 = true) (x1 : Int32) (s0 : Int32) (s1 : Option (Nat × Nat)) (p_s1 : okp S s1) : eqQ S ρ h g (f_X11_chapter_31 a0 x1 s0 s1 h) (f_X11_chapter_31 (ρ a0) x1 s0 (s1.map ρ) g) := by
  rw [f_X11_chapter_31, f_X11_chapter_31]
  refine q_ao O p_s1 (fun a8 s_a8 => ?_)
  refine q_bI (e_X11_holds O R _ s_a8 _) (fun h6 gh6 v7 R => ?_)
  refine q_ite (fun _ => ?_) (fun _ => ?_)
  · exact q_ri R
  · refine q_gR O R (okp_s s_a0) (fun o9 p_o9 => ?_)
    refine q_gR O R (okp_s s_a0) (fun o10 p_o10 => ?_)
    refine q_aI O R p_o10 (fun v11 => ?_)
    refine q_gI O R (okp_s s_a0) (fun v12 => ?_)
    refine q_sI O R p_o9 (fun h13 gh13 R => ?_)
    refine q_gR O R (okp_s s_a0) (fun o14 p_o14 => ?_)
    refine q_aI O R p_o14 (fun v15 => ?_)
    refine q_sI O R p_o14 (fun h16 gh16 R => ?_)
    refine q_gR O R (okp_s s_a0) (fun o17 p_o17 => ?_)
    refine q_aI O R p_o17 (fun v18 => ?_)
    exact q_ri R
theorem e_X11_chapter {S : Nat × Nat → Bool} {ρ : Nat × Nat → Nat × Nat} (O : RhoOk S ρ)  {h g : am_H} (R : eqR S ρ h g) (a0 : Nat × Nat) (s_a0 : S a0 = true) (x1 : Int32) : eqQ S ρ h g (f_X11_chapter a0 x1 h) (f_X11_chapter (ρ a0) x1 g) := by
  rw [f_X11_chapter, f_X11_chapter]
  refine q_ao O (okp_s s_a0) (fun a3 s_a3 => ?_)
  refine q_bI (e_X11_isWork O R _ s_a3 _) (fun h1 gh1 v2 R => ?_)
  refine q_ite (fun _ => ?_) (fun _ => ?_)
  · exact e_X11_chapter_31 O R _ s_a0 _ _ _ (okp_s s_a0)
  · refine q_gR O R (okp_s s_a0) (fun o4 p_o4 => ?_)
    refine q_aI O R p_o4 (fun v5 => ?_)
    refine q_ite (fun _ => ?_) (fun _ => ?_)
    · exact e_X11_chapter_31 O R _ s_a0 _ _ _ (okp_s s_a0)
    · exact e_X11_chapter_31 O R _ s_a0 _ _ _ (okp_s s_a0)
theorem e_X11_collect_65 {S : Nat × Nat → Bool} {ρ : Nat × Nat → Nat × Nat} (O : RhoOk S ρ)  {h g : am_H} (R : eqR S ρ h g)  : eqQ S ρ h g (f_X11_collect_65  h) (f_X11_collect_65  g) := by
  unfold f_X11_collect_65
  exact q_rtn R
theorem e_X11_collect_52 {S : Nat × Nat → Bool} {ρ : Nat × Nat → Nat × Nat} (O : RhoOk S ρ)  {h g : am_H} (R : eqR S ρ h g) (a0 : Nat × Nat) (s_a0 : S a0 = true) (x1 : Int32) (x2 : Int32) (s0 : Int32) (s1 : Option (Nat × Nat)) (p_s1 : okp S s1) : eqQ S ρ h g (f_X11_collect_52 a0 x1 x2 s0 s1 h) (f_X11_collect_52 (ρ a0) x1 x2 s0 (s1.map ρ) g) := by
  rw [f_X11_collect_52, f_X11_collect_52]
  refine q_ao O p_s1 (fun a11 s_a11 => ?_)
  refine q_bI (e_X11_holds O R _ s_a11 _) (fun h9 gh9 v10 R => ?_)
  refine q_ite (fun _ => ?_) (fun _ => ?_)
  · exact e_X11_collect_65 O R
  · refine q_gR O R (okp_s s_a0) (fun o12 p_o12 => ?_)
    refine q_sI O R p_o12 (fun h13 gh13 R => ?_)
    exact e_X11_collect_65 O R
theorem e_X11_collect_27 {S : Nat × Nat → Bool} {ρ : Nat × Nat → Nat × Nat} (O : RhoOk S ρ)  {h g : am_H} (R : eqR S ρ h g) (a0 : Nat × Nat) (s_a0 : S a0 = true) (x1 : Int32) (x2 : Int32) (s0 : Int32) : eqQ S ρ h g (f_X11_collect_27 a0 x1 x2 s0 h) (f_X11_collect_27 (ρ a0) x1 x2 s0 g) := by
  rw [f_X11_collect_27, f_X11_collect_27]
  refine q_ite (fun _ => ?_) (fun _ => ?_)
  · exact e_X11_collect_52 O R _ s_a0 _ _ _ _ (okp_s s_a0)
  · refine q_gR O R (okp_s s_a0) (fun o7 p_o7 => ?_)
    refine q_aI O R p_o7 (fun v8 => ?_)
    refine q_ite (fun _ => ?_) (fun _ => ?_)
    · exact e_X11_collect_52 O R _ s_a0 _ _ _ _ (okp_s s_a0)
    · exact e_X11_collect_52 O R _ s_a0 _ _ _ _ (okp_s s_a0)
theorem e_X11_collect_26 {S : Nat × Nat → Bool} {ρ : Nat × Nat → Nat × Nat} (O : RhoOk S ρ)  {h g : am_H} (R : eqR S ρ h g) (a0 : Nat × Nat) (s_a0 : S a0 = true) (x1 : Int32) (x2 : Int32) : eqQ S ρ h g (f_X11_collect_26 a0 x1 x2 h) (f_X11_collect_26 (ρ a0) x1 x2 g) := by
  rw [f_X11_collect_26, f_X11_collect_26]
  exact e_X11_collect_27 O R _ s_a0 _ _ _
theorem e_X11_collect {S : Nat × Nat → Bool} {ρ : Nat × Nat → Nat × Nat} (O : RhoOk S ρ)  {h g : am_H} (R : eqR S ρ h g) (a0 : Nat × Nat) (s_a0 : S a0 = true) (x1 : Int32) (x2 : Int32) : eqQ S ρ h g (f_X11_collect a0 x1 x2 h) (f_X11_collect (ρ a0) x1 x2 g) := by
  rw [f_X11_collect, f_X11_collect]
  refine q_ao O (okp_s s_a0) (fun a3 s_a3 => ?_)
  refine q_bI (e_X11_isWork O R _ s_a3 _) (fun h1 gh1 v2 R => ?_)
  refine q_ite (fun _ => ?_) (fun _ => ?_)
  · exact e_X11_collect_26 O R _ s_a0 _ _
  · refine q_gI O R (okp_s s_a0) (fun v4 => ?_)
    refine q_bI (e_X11_in O R _ _ _) (fun h5 gh5 v6 R => ?_)
    refine q_ite (fun _ => ?_) (fun _ => ?_)
    · exact e_X11_collect_26 O R _ s_a0 _ _
    · exact e_X11_collect_27 O R _ s_a0 _ _ _
theorem e_X11_collection_51 {S : Nat × Nat → Bool} {ρ : Nat × Nat → Nat × Nat} (O : RhoOk S ρ)  {h g : am_H} (R : eqR S ρ h g) (a0 : Nat × Nat) (s_a0 : S a0 = true) (x1 : Int32) (x2 : Int32) (s0 : Int32) (s1 : Option (Nat × Nat)) (p_s1 : okp S s1) : eqQ S ρ h g (f_X11_collection_51 a0 x1 x2 s0 s1 h) (f_X11_collection_51 (ρ a0) x1 x2 s0 (s1.map ρ) g) := by
  rw [f_X11_collection_51, f_X11_collection_51]
  refine q_ao O p_s1 (fun a8 s_a8 => ?_)
  refine q_bI (e_X11_holds O R _ s_a8 _) (fun h6 gh6 v7 R => ?_)
  refine q_ite (fun _ => ?_) (fun _ => ?_)
  · exact q_ri R
  · refine q_gR O R (okp_s s_a0) (fun o9 p_o9 => ?_)
    refine q_gI O R (okp_s s_a0) (fun v10 => ?_)
    refine q_sI O R p_o9 (fun h11 gh11 R => ?_)
    refine q_gR O R (okp_s s_a0) (fun o12 p_o12 => ?_)
    refine q_gI O R (okp_s s_a0) (fun v13 => ?_)
    refine q_sI O R p_o12 (fun h14 gh14 R => ?_)
    refine q_gI O R (okp_s s_a0) (fun v15 => ?_)
    refine q_pI O R (okp_s s_a0) (fun h16 gh16 R => ?_)
    refine q_gI O R (okp_s s_a0) (fun v17 => ?_)
    exact q_ri R
theorem e_X11_collection_27 {S : Nat × Nat → Bool} {ρ : Nat × Nat → Nat × Nat} (O : RhoOk S ρ)  {h g : am_H} (R : eqR S ρ h g) (a0 : Nat × Nat) (s_a0 : S a0 = true) (x1 : Int32) (x2 : Int32) (s0 : Int32) : eqQ S ρ h g (f_X11_collection_27 a0 x1 x2 s0 h) (f_X11_collection_27 (ρ a0) x1 x2 s0 g) := by
  rw [f_X11_collection_27, f_X11_collection_27]
  refine q_ite (fun _ => ?_) (fun _ => ?_)
  · exact e_X11_collection_51 O R _ s_a0 _ _ _ _ (okp_s s_a0)
  · refine q_gI O R (okp_s s_a0) (fun v5 => ?_)
    refine q_ite (fun _ => ?_) (fun _ => ?_)
    · exact e_X11_collection_51 O R _ s_a0 _ _ _ _ (okp_s s_a0)
    · exact e_X11_collection_51 O R _ s_a0 _ _ _ _ (okp_s s_a0)
theorem e_X11_collection_26 {S : Nat × Nat → Bool} {ρ : Nat × Nat → Nat × Nat} (O : RhoOk S ρ)  {h g : am_H} (R : eqR S ρ h g) (a0 : Nat × Nat) (s_a0 : S a0 = true) (x1 : Int32) (x2 : Int32) : eqQ S ρ h g (f_X11_collection_26 a0 x1 x2 h) (f_X11_collection_26 (ρ a0) x1 x2 g) := by
  rw [f_X11_collection_26, f_X11_collection_26]
  exact e_X11_collection_27 O R _ s_a0 _ _ _
theorem e_X11_collection {S : Nat × Nat → Bool} {ρ : Nat × Nat → Nat × Nat} (O : RhoOk S ρ)  {h g : am_H} (R : eqR S ρ h g) (a0 : Nat × Nat) (s_a0 : S a0 = true) (x1 : Int32) (x2 : Int32) : eqQ S ρ h g (f_X11_collection a0 x1 x2 h) (f_X11_collection (ρ a0) x1 x2 g) := by
  rw [f_X11_collection, f_X11_collection]
  refine q_bI (e_X11_in O R _ _ _) (fun h1 gh1 v2 R => ?_)
  refine q_ite (fun _ => ?_) (fun _ => ?_)
  · exact e_X11_collection_26 O R _ s_a0 _ _
  · refine q_bI (e_X11_in O R _ _ _) (fun h3 gh3 v4 R => ?_)
    refine q_ite (fun _ => ?_) (fun _ => ?_)
    · exact e_X11_collection_26 O R _ s_a0 _ _
    · exact e_X11_collection_27 O R _ s_a0 _ _ _
theorem e_X11_has_14 {S : Nat × Nat → Bool} {ρ : Nat × Nat → Nat × Nat} (O : RhoOk S ρ)  {h g : am_H} (R : eqR S ρ h g) (s0 : Int32) : eqQ S ρ h g (f_X11_has_14 s0 h) (f_X11_has_14 s0 g) := by
  rw [f_X11_has_14, f_X11_has_14]
  exact q_rz R
theorem e_X11_has {S : Nat × Nat → Bool} {ρ : Nat × Nat → Nat × Nat} (O : RhoOk S ρ)  {h g : am_H} (R : eqR S ρ h g) (x0 : Int32) (x1 : Int32) : eqQ S ρ h g (f_X11_has x0 x1 h) (f_X11_has x0 x1 g) := by
  rw [f_X11_has, f_X11_has]
  refine q_ite (fun _ => ?_) (fun _ => ?_)
  · exact e_X11_has_14 O R _
  · exact e_X11_has_14 O R _
theorem e_X11_isBlocked_31 {S : Nat × Nat → Bool} {ρ : Nat × Nat → Nat × Nat} (O : RhoOk S ρ)  {h g : am_H} (R : eqR S ρ h g) (s0 : Int32) : eqQ S ρ h g (f_X11_isBlocked_31 s0 h) (f_X11_isBlocked_31 s0 g) := by
  rw [f_X11_isBlocked_31, f_X11_isBlocked_31]
  exact q_rz R
theorem e_X11_isBlocked_30 {S : Nat × Nat → Bool} {ρ : Nat × Nat → Nat × Nat} (O : RhoOk S ρ)  {h g : am_H} (R : eqR S ρ h g)  : eqQ S ρ h g (f_X11_isBlocked_30  h) (f_X11_isBlocked_30  g) := by
  unfold f_X11_isBlocked_30
  exact e_X11_isBlocked_31 O R _
theorem e_X11_isBlocked {S : Nat × Nat → Bool} {ρ : Nat × Nat → Nat × Nat} (O : RhoOk S ρ)  {h g : am_H} (R : eqR S ρ h g) (a0 : Nat × Nat) (s_a0 : S a0 = true) (x1 : Int32) (x2 : Int32) : eqQ S ρ h g (f_X11_isBlocked a0 x1 x2 h) (f_X11_isBlocked (ρ a0) x1 x2 g) := by
  rw [f_X11_isBlocked, f_X11_isBlocked]
  refine q_ite (fun _ => ?_) (fun _ => ?_)
  · exact e_X11_isBlocked_30 O R
  · refine q_ite (fun _ => ?_) (fun _ => ?_)
    · exact e_X11_isBlocked_30 O R
    · refine q_gR O R (okp_s s_a0) (fun o1 p_o1 => ?_)
      refine q_aI O R p_o1 (fun v2 => ?_)
      refine q_ite (fun _ => ?_) (fun _ => ?_)
      · exact e_X11_isBlocked_30 O R
      · exact e_X11_isBlocked_31 O R _
theorem e_X11_isOwner_24 {S : Nat × Nat → Bool} {ρ : Nat × Nat → Nat × Nat} (O : RhoOk S ρ)  {h g : am_H} (R : eqR S ρ h g) (s0 : Int32) : eqQ S ρ h g (f_X11_isOwner_24 s0 h) (f_X11_isOwner_24 s0 g) := by
  rw [f_X11_isOwner_24, f_X11_isOwner_24]
  exact q_rz R
theorem e_X11_isOwner_23 {S : Nat × Nat → Bool} {ρ : Nat × Nat → Nat × Nat} (O : RhoOk S ρ)  {h g : am_H} (R : eqR S ρ h g)  : eqQ S ρ h g (f_X11_isOwner_23  h) (f_X11_isOwner_23  g) := by
  unfold f_X11_isOwner_23
  exact e_X11_isOwner_24 O R _
theorem e_X11_isOwner {S : Nat × Nat → Bool} {ρ : Nat × Nat → Nat × Nat} (O : RhoOk S ρ)  {h g : am_H} (R : eqR S ρ h g) (a0 : Nat × Nat) (s_a0 : S a0 = true) (x1 : Int32) (x2 : Int32) : eqQ S ρ h g (f_X11_isOwner a0 x1 x2 h) (f_X11_isOwner (ρ a0) x1 x2 g) := by
  rw [f_X11_isOwner, f_X11_isOwner]
  refine q_ite (fun _ => ?_) (fun _ => ?_)
  · exact e_X11_isOwner_23 O R
  · refine q_gR O R (okp_s s_a0) (fun o1 p_o1 => ?_)
    refine q_aI O R p_o1 (fun v2 => ?_)
    refine q_bI (e_X11_has O R _ _) (fun h3 gh3 v4 R => ?_)
    refine q_ite (fun _ => ?_) (fun _ => ?_)
    · exact e_X11_isOwner_23 O R
    · exact e_X11_isOwner_24 O R _
theorem e_X11_isSeen_77 {S : Nat × Nat → Bool} {ρ : Nat × Nat → Nat × Nat} (O : RhoOk S ρ)  {h g : am_H} (R : eqR S ρ h g) (s0 : Int32) : eqQ S ρ h g (f_X11_isSeen_77 s0 h) (f_X11_isSeen_77 s0 g) := by
  rw [f_X11_isSeen_77, f_X11_isSeen_77]
  exact q_rz R
theorem e_X11_isSeen_76 {S : Nat × Nat → Bool} {ρ : Nat × Nat → Nat × Nat} (O : RhoOk S ρ)  {h g : am_H} (R : eqR S ρ h g)  : eqQ S ρ h g (f_X11_isSeen_76  h) (f_X11_isSeen_76  g) := by
  unfold f_X11_isSeen_76
  exact e_X11_isSeen_77 O R _
theorem e_X11_isSeen_72 {S : Nat × Nat → Bool} {ρ : Nat × Nat → Nat × Nat} (O : RhoOk S ρ)  {h g : am_H} (R : eqR S ρ h g)  : eqQ S ρ h g (f_X11_isSeen_72  h) (f_X11_isSeen_72  g) := by
  unfold f_X11_isSeen_72
  exact e_X11_isSeen_77 O R _
theorem e_X11_isSeen_33 {S : Nat × Nat → Bool} {ρ : Nat × Nat → Nat × Nat} (O : RhoOk S ρ)  {h g : am_H} (R : eqR S ρ h g) (a0 : Nat × Nat) (s_a0 : S a0 = true) (x1 : Int32) (x2 : Int32) (s0 : Int32) : eqQ S ρ h g (f_X11_isSeen_33 a0 x1 x2 s0 h) (f_X11_isSeen_33 (ρ a0) x1 x2 s0 g) := by
  rw [f_X11_isSeen_33, f_X11_isSeen_33]
  refine q_ao O (okp_s s_a0) (fun a10 s_a10 => ?_)
  refine q_bI (e_X11_isOwner O R _ s_a10 _ _) (fun h8 gh8 v9 R => ?_)
  refine q_ite (fun _ => ?_) (fun _ => ?_)
  · refine q_gR O R (okp_s s_a0) (fun o11 p_o11 => ?_)
    refine q_aI O R p_o11 (fun v12 => ?_)
    refine q_ite (fun _ => ?_) (fun _ => ?_)
    · exact e_X11_isSeen_76 O R
    · refine q_ite (fun _ => ?_) (fun _ => ?_)
      · exact e_X11_isSeen_76 O R
      · refine q_gR O R (okp_s s_a0) (fun o13 p_o13 => ?_)
        refine q_aI O R p_o13 (fun v14 => ?_)
        refine q_ite (fun _ => ?_) (fun _ => ?_)
        · exact e_X11_isSeen_72 O R
        · refine q_ite (fun _ => ?_) (fun _ => ?_)
          · exact e_X11_isSeen_76 O R
          · exact e_X11_isSeen_72 O R
  · exact e_X11_isSeen_72 O R
theorem e_X11_isSeen_28 {S : Nat × Nat → Bool} {ρ : Nat × Nat → Nat × Nat} (O : RhoOk S ρ)  {h g : am_H} (R : eqR S ρ h g) (a0 : Nat × Nat) (s_a0 : S a0 = true) (x1 : Int32) (x2 : Int32) : eqQ S ρ h g (f_X11_isSeen_28 a0 x1 x2 h) (f_X11_isSeen_28 (ρ a0) x1 x2 g) := by
  rw [f_X11_isSeen_28, f_X11_isSeen_28]
  exact e_X11_isSeen_33 O R _ s_a0 _ _ _
theorem e_X11_isSeen {S : Nat × Nat → Bool} {ρ : Nat × Nat → Nat × Nat} (O : RhoOk S ρ)  {h g : am_H} (R : eqR S ρ h g) (a0 : Nat × Nat) (s_a0 : S a0 = true) (x1 : Int32) (x2 : Int32) : eqQ S ρ h g (f_X11_isSeen a0 x1 x2 h) (f_X11_isSeen (ρ a0) x1 x2 g) := by
  rw [f_X11_isSeen, f_X11_isSeen]
  refine q_gR O R (okp_s s_a0) (fun o1 p_o1 => ?_)
  refine q_aI O R p_o1 (fun v2 => ?_)
  refine q_ite (fun _ => ?_) (fun _ => ?_)
  · exact e_X11_isSeen_28 O R _ s_a0 _ _
  · refine q_gR O R (okp_s s_a0) (fun o3 p_o3 => ?_)
    refine q_gR O R (okp_s s_a0) (fun o4 p_o4 => ?_)
    refine q_aI O R p_o4 (fun v5 => ?_)
    refine q_aI O R p_o3 (fun v6 => ?_)
    refine q_gI O R (okp_s s_a0) (fun v7 => ?_)
    refine q_ite (fun _ => ?_) (fun _ => ?_)
    · exact e_X11_isSeen_33 O R _ s_a0 _ _ _
    · exact e_X11_isSeen_28 O R _ s_a0 _ _
theorem e_X11_isRead_70 {S : Nat × Nat → Bool} {ρ : Nat × Nat → Nat × Nat} (O : RhoOk S ρ)  {h g : am_H} (R : eqR S ρ h g) (s0 : Int32) : eqQ S ρ h g (f_X11_isRead_70 s0 h) (f_X11_isRead_70 s0 g) := by
  rw [f_X11_isRead_70, f_X11_isRead_70]
  exact q_rz R
theorem e_X11_isRead_69 {S : Nat × Nat → Bool} {ρ : Nat × Nat → Nat × Nat} (O : RhoOk S ρ)  {h g : am_H} (R : eqR S ρ h g)  : eqQ S ρ h g (f_X11_isRead_69  h) (f_X11_isRead_69  g) := by
  unfold f_X11_isRead_69
  exact e_X11_isRead_70 O R _
theorem e_X11_isRead_40 {S : Nat × Nat → Bool} {ρ : Nat × Nat → Nat × Nat} (O : RhoOk S ρ)  {h g : am_H} (R : eqR S ρ h g) (a0 : Nat × Nat) (s_a0 : S a0 = true) (x1 : Int32) (x2 : Int32) (x3 : Int32) (s0 : Int32) : eqQ S ρ h g (f_X11_isRead_40 a0 x1 x2 x3 s0 h) (f_X11_isRead_40 (ρ a0) x1 x2 x3 s0 g) := by
  rw [f_X11_isRead_40, f_X11_isRead_40]
  refine q_ao O (okp_s s_a0) (fun a12 s_a12 => ?_)
  refine q_bI (e_X11_isSeen O R _ s_a12 _ _) (fun h10 gh10 v11 R => ?_)
  refine q_ite (fun _ => ?_) (fun _ => ?_)
  · exact e_X11_isRead_69 O R
  · refine q_gR O R (okp_s s_a0) (fun o13 p_o13 => ?_)
    refine q_aI O R p_o13 (fun v14 => ?_)
    refine q_ite (fun _ => ?_) (fun _ => ?_)
    · refine q_ite (fun _ => ?_) (fun _ => ?_)
      · exact e_X11_isRead_69 O R
      · exact e_X11_isRead_70 O R _
    · exact e_X11_isRead_69 O R
theorem e_X11_isRead_35 {S : Nat × Nat → Bool} {ρ : Nat × Nat → Nat × Nat} (O : RhoOk S ρ)  {h g : am_H} (R : eqR S ρ h g) (a0 : Nat × Nat) (s_a0 : S a0 = true) (x1 : Int32) (x2 : Int32) (x3 : Int32) : eqQ S ρ h g (f_X11_isRead_35 a0 x1 x2 x3 h) (f_X11_isRead_35 (ρ a0) x1 x2 x3 g) := by
  rw [f_X11_isRead_35, f_X11_isRead_35]
  exact e_X11_isRead_40 O R _ s_a0 _ _ _ _
theorem e_X11_isRead {S : Nat × Nat → Bool} {ρ : Nat × Nat → Nat × Nat} (O : RhoOk S ρ)  {h g : am_H} (R : eqR S ρ h g) (a0 : Nat × Nat) (s_a0 : S a0 = true) (x1 : Int32) (x2 : Int32) : eqQ S ρ h g (f_X11_isRead a0 x1 x2 h) (f_X11_isRead (ρ a0) x1 x2 g) := by
  rw [f_X11_isRead, f_X11_isRead]
  refine q_gR O R (okp_s s_a0) (fun o1 p_o1 => ?_)
  refine q_aI O R p_o1 (fun v2 => ?_)
  refine q_gR O R (okp_s s_a0) (fun o3 p_o3 => ?_)
  refine q_aI O R p_o3 (fun v4 => ?_)
  refine q_ite (fun _ => ?_) (fun _ => ?_)
  · exact e_X11_isRead_35 O R _ s_a0 _ _ _
  · refine q_gR O R (okp_s s_a0) (fun o5 p_o5 => ?_)
    refine q_aI O R p_o5 (fun v6 => ?_)
    refine q_ite (fun _ => ?_) (fun _ => ?_)
    · exact e_X11_isRead_35 O R _ s_a0 _ _ _
    · refine q_ao O (okp_s s_a0) (fun a9 s_a9 => ?_)
      refine q_bI (e_X11_isOwner O R _ s_a9 _ _) (fun h7 gh7 v8 R => ?_)
      refine q_ite (fun _ => ?_) (fun _ => ?_)
      · exact e_X11_isRead_40 O R _ s_a0 _ _ _ _
      · exact e_X11_isRead_35 O R _ s_a0 _ _ _
theorem e_X11_canComment_146 {S : Nat × Nat → Bool} {ρ : Nat × Nat → Nat × Nat} (O : RhoOk S ρ) {rc120 : Nat × Nat → Int32 → Int32 → am_H → am_R} (hrc120 : ∀ {h g : am_H} (_ : eqR S ρ h g) (y0 : Nat × Nat) (s_y0 : S y0 = true) (y1 : Int32) (y2 : Int32), eqQ S ρ h g (rc120 y0 y1 y2 h) (rc120 (ρ y0) y1 y2 g)) {h g : am_H} (R : eqR S ρ h g) (a0 : Nat × Nat) (s_a0 : S a0 = true) (x5 : Int32) (s0 : Int32) : eqQ S ρ h g (f_X11_canComment_146 rc120 a0 x5 s0 h) (f_X11_canComment_146 rc120 (ρ a0) x5 s0 g) := by
  rw [f_X11_canComment_146, f_X11_canComment_146]
  refine q_gR O R (okp_s s_a0) (fun o22 p_o22 => ?_)
  refine q_aI O R p_o22 (fun v23 => ?_)
  exact hrc120 R _ s_a0 _ _
theorem e_X11_canComment_145 {S : Nat × Nat → Bool} {ρ : Nat × Nat → Nat × Nat} (O : RhoOk S ρ) {rc120 : Nat × Nat → Int32 → Int32 → am_H → am_R} (hrc120 : ∀ {h g : am_H} (_ : eqR S ρ h g) (y0 : Nat × Nat) (s_y0 : S y0 = true) (y1 : Int32) (y2 : Int32), eqQ S ρ h g (rc120 y0 y1 y2 h) (rc120 (ρ y0) y1 y2 g)) {h g : am_H} (R : eqR S ρ h g) (a0 : Nat × Nat) (s_a0 : S a0 = true) (x5 : Int32) : eqQ S ρ h g (f_X11_canComment_145 rc120 a0 x5 h) (f_X11_canComment_145 rc120 (ρ a0) x5 g) := by
  rw [f_X11_canComment_145, f_X11_canComment_145]
  exact e_X11_canComment_146 O hrc120 R _ s_a0 _ _
theorem e_X11_canComment_120 {S : Nat × Nat → Bool} {ρ : Nat × Nat → Nat × Nat} (O : RhoOk S ρ)  : ∀ (n : Nat) {h g : am_H} (_ : eqR S ρ h g) (a0 : Nat × Nat) (s_a0 : S a0 = true) (x4 : Int32) (x5 : Int32), eqQ S ρ h g (f_X11_canComment_120 n a0 x4 x5 h) (f_X11_canComment_120 n (ρ a0) x4 x5 g) := by
  intro n
  induction n with
  | zero => intros; exact q_none
  | succ n ih =>
    intro h g R a0 s_a0 x4 x5
    rw [f_X11_canComment_120, f_X11_canComment_120]
    refine q_ite (fun _ => ?_) (fun _ => ?_)
    · exact q_rz R
    · refine q_ite (fun _ => ?_) (fun _ => ?_)
      · exact e_X11_canComment_145 O ih R _ s_a0 _
      · refine q_gR O R (okp_s s_a0) (fun o20 p_o20 => ?_)
        refine q_aI O R p_o20 (fun v21 => ?_)
        refine q_ite (fun _ => ?_) (fun _ => ?_)
        · exact e_X11_canComment_146 O ih R _ s_a0 _ _
        · exact e_X11_canComment_145 O ih R _ s_a0 _
theorem e_X11_canComment_115 {S : Nat × Nat → Bool} {ρ : Nat × Nat → Nat × Nat} (O : RhoOk S ρ)  {h g : am_H} (R : eqR S ρ h g) (a0 : Nat × Nat) (s_a0 : S a0 = true) (x3 : Int32) (s0 : Int32) : eqQ S ρ h g (f_X11_canComment_115 a0 x3 s0 h) (f_X11_canComment_115 (ρ a0) x3 s0 g) := by
  rw [f_X11_canComment_115, f_X11_canComment_115]
  exact e_X11_canComment_120 O _ R _ s_a0 _ _
theorem e_X11_canComment_114 {S : Nat × Nat → Bool} {ρ : Nat × Nat → Nat × Nat} (O : RhoOk S ρ)  {h g : am_H} (R : eqR S ρ h g) (a0 : Nat × Nat) (s_a0 : S a0 = true) (x3 : Int32) : eqQ S ρ h g (f_X11_canComment_114 a0 x3 h) (f_X11_canComment_114 (ρ a0) x3 g) := by
  rw [f_X11_canComment_114, f_X11_canComment_114]
  exact e_X11_canComment_115 O R _ s_a0 _ _
theorem e_X11_canComment_110 {S : Nat × Nat → Bool} {ρ : Nat × Nat → Nat × Nat} (O : RhoOk S ρ)  {h g : am_H} (R : eqR S ρ h g) (a0 : Nat × Nat) (s_a0 : S a0 = true) (x3 : Int32) : eqQ S ρ h g (f_X11_canComment_110 a0 x3 h) (f_X11_canComment_110 (ρ a0) x3 g) := by
  rw [f_X11_canComment_110, f_X11_canComment_110]
  exact e_X11_canComment_115 O R _ s_a0 _ _
theorem e_X11_canComment_69 {S : Nat × Nat → Bool} {ρ : Nat × Nat → Nat × Nat} (O : RhoOk S ρ) {rc28 : Nat × Nat → Int32 → Int32 → Int32 → Int32 → Int32 → am_H → am_R} (hrc28 : ∀ {h g : am_H} (_ : eqR S ρ h g) (y0 : Nat × Nat) (s_y0 : S y0 = true) (y1 : Int32) (y2 : Int32) (y3 : Int32) (y4 : Int32) (y5 : Int32), eqQ S ρ h g (rc28 y0 y1 y2 y3 y4 y5 h) (rc28 (ρ y0) y1 y2 y3 y4 y5 g)) {h g : am_H} (R : eqR S ρ h g) (a0 : Nat × Nat) (s_a0 : S a0 = true) (x1 : Int32) (x2 : Int32) (x3 : Int32) (x5 : Int32) (s0 : Int32) : eqQ S ρ h g (f_X11_canComment_69 rc28 a0 x1 x2 x3 x5 s0 h) (f_X11_canComment_69 rc28 (ρ a0) x1 x2 x3 x5 s0 g) := by
  rw [f_X11_canComment_69, f_X11_canComment_69]
  exact hrc28 R _ s_a0 _ _ _ _ _
theorem e_X11_canComment_68 {S : Nat × Nat → Bool} {ρ : Nat × Nat → Nat × Nat} (O : RhoOk S ρ) {rc28 : Nat × Nat → Int32 → Int32 → Int32 → Int32 → Int32 → am_H → am_R} (hrc28 : ∀ {h g : am_H} (_ : eqR S ρ h g) (y0 : Nat × Nat) (s_y0 : S y0 = true) (y1 : Int32) (y2 : Int32) (y3 : Int32) (y4 : Int32) (y5 : Int32), eqQ S ρ h g (rc28 y0 y1 y2 y3 y4 y5 h) (rc28 (ρ y0) y1 y2 y3 y4 y5 g)) {h g : am_H} (R : eqR S ρ h g) (a0 : Nat × Nat) (s_a0 : S a0 = true) (x1 : Int32) (x2 : Int32) (x3 : Int32) (x5 : Int32) : eqQ S ρ h g (f_X11_canComment_68 rc28 a0 x1 x2 x3 x5 h) (f_X11_canComment_68 rc28 (ρ a0) x1 x2 x3 x5 g) := by
  rw [f_X11_canComment_68, f_X11_canComment_68]
  exact e_X11_canComment_69 O hrc28 R _ s_a0 _ _ _ _ _
theorem e_X11_canComment_64 {S : Nat × Nat → Bool} {ρ : Nat × Nat → Nat × Nat} (O : RhoOk S ρ) {rc28 : Nat × Nat → Int32 → Int32 → Int32 → Int32 → Int32 → am_H → am_R} (hrc28 : ∀ {h g : am_H} (_ : eqR S ρ h g) (y0 : Nat × Nat) (s_y0 : S y0 = true) (y1 : Int32) (y2 : Int32) (y3 : Int32) (y4 : Int32) (y5 : Int32), eqQ S ρ h g (rc28 y0 y1 y2 y3 y4 y5 h) (rc28 (ρ y0) y1 y2 y3 y4 y5 g)) {h g : am_H} (R : eqR S ρ h g) (a0 : Nat × Nat) (s_a0 : S a0 = true) (x1 : Int32) (x2 : Int32) (x3 : Int32) (x5 : Int32) : eqQ S ρ h g (f_X11_canComment_64 rc28 a0 x1 x2 x3 x5 h) (f_X11_canComment_64 rc28 (ρ a0) x1 x2 x3 x5 g) := by
  rw [f_X11_canComment_64, f_X11_canComment_64]
  exact e_X11_canComment_69 O hrc28 R _ s_a0 _ _ _ _ _
theorem e_X11_canComment_28 {S : Nat × Nat → Bool} {ρ : Nat × Nat → Nat × Nat} (O : RhoOk S ρ)  : ∀ (n : Nat) {h g : am_H} (_ : eqR S ρ h g) (a0 : Nat × Nat) (s_a0 : S a0 = true) (x1 : Int32) (x2 : Int32) (x3 : Int32) (x4 : Int32) (x5 : Int32), eqQ S ρ h g (f_X11_canComment_28 n a0 x1 x2 x3 x4 x5 h) (f_X11_canComment_28 n (ρ a0) x1 x2 x3 x4 x5 g) := by
  intro n
  induction n with
  | zero => intros; exact q_none
  | succ n ih =>
    intro h g R a0 s_a0 x1 x2 x3 x4 x5
    rw [f_X11_canComment_28, f_X11_canComment_28]
    refine q_ite (fun _ => ?_) (fun _ => ?_)
    · refine q_ite (fun _ => ?_) (fun _ => ?_)
      · exact e_X11_canComment_114 O R _ s_a0 _
      · refine q_ite (fun _ => ?_) (fun _ => ?_)
        · exact e_X11_canComment_110 O R _ s_a0 _
        · refine q_ao O (okp_s s_a0) (fun a7 s_a7 => ?_)
          refine q_bI (e_X11_isRead O R _ s_a7 _ _) (fun h5 gh5 v6 R => ?_)
          refine q_ite (fun _ => ?_) (fun _ => ?_)
          · exact e_X11_canComment_114 O R _ s_a0 _
          · refine q_gR O R (okp_s s_a0) (fun o8 p_o8 => ?_)
            refine q_aI O R p_o8 (fun v9 => ?_)
            refine q_ao O (okp_s s_a0) (fun a12 s_a12 => ?_)
            refine q_bI (e_X11_isBlocked O R _ s_a12 _ _) (fun h10 gh10 v11 R => ?_)
            refine q_ite (fun _ => ?_) (fun _ => ?_)
            · exact e_X11_canComment_110 O R _ s_a0 _
            · exact e_X11_canComment_114 O R _ s_a0 _
    · refine q_ite (fun _ => ?_) (fun _ => ?_)
      · exact e_X11_canComment_68 O ih R _ s_a0 _ _ _ _
      · refine q_gR O R (okp_s s_a0) (fun o13 p_o13 => ?_)
        refine q_aI O R p_o13 (fun v14 => ?_)
        refine q_bI (e_X11_has O R _ _) (fun h15 gh15 v16 R => ?_)
        refine q_ite (fun _ => ?_) (fun _ => ?_)
        · exact e_X11_canComment_64 O ih R _ s_a0 _ _ _ _
        · refine q_ao O (okp_s s_a0) (fun a19 s_a19 => ?_)
          refine q_bI (e_X11_isBlocked O R _ s_a19 _ _) (fun h17 gh17 v18 R => ?_)
          refine q_ite (fun _ => ?_) (fun _ => ?_)
          · exact e_X11_canComment_64 O ih R _ s_a0 _ _ _ _
          · exact e_X11_canComment_68 O ih R _ s_a0 _ _ _ _
theorem e_X11_canComment_23 {S : Nat × Nat → Bool} {ρ : Nat × Nat → Nat × Nat} (O : RhoOk S ρ)  {h g : am_H} (R : eqR S ρ h g) (a0 : Nat × Nat) (s_a0 : S a0 = true) (x1 : Int32) (x2 : Int32) (x3 : Int32) (s0 : Int32) : eqQ S ρ h g (f_X11_canComment_23 a0 x1 x2 x3 s0 h) (f_X11_canComment_23 (ρ a0) x1 x2 x3 s0 g) := by
  rw [f_X11_canComment_23, f_X11_canComment_23]
  exact e_X11_canComment_28 O _ R _ s_a0 _ _ _ _ _
theorem e_X11_canComment_22 {S : Nat × Nat → Bool} {ρ : Nat × Nat → Nat × Nat} (O : RhoOk S ρ)  {h g : am_H} (R : eqR S ρ h g) (a0 : Nat × Nat) (s_a0 : S a0 = true) (x1 : Int32) (x2 : Int32) (x3 : Int32) : eqQ S ρ h g (f_X11_canComment_22 a0 x1 x2 x3 h) (f_X11_canComment_22 (ρ a0) x1 x2 x3 g) := by
  rw [f_X11_canComment_22, f_X11_canComment_22]
  exact e_X11_canComment_23 O R _ s_a0 _ _ _ _
theorem e_X11_canComment {S : Nat × Nat → Bool} {ρ : Nat × Nat → Nat × Nat} (O : RhoOk S ρ)  {h g : am_H} (R : eqR S ρ h g) (a0 : Nat × Nat) (s_a0 : S a0 = true) (x1 : Int32) (x2 : Int32) (x3 : Int32) : eqQ S ρ h g (f_X11_canComment a0 x1 x2 x3 h) (f_X11_canComment (ρ a0) x1 x2 x3 g) := by
  rw [f_X11_canComment, f_X11_canComment]
  refine q_gI O R (okp_s s_a0) (fun v1 => ?_)
  refine q_ite (fun _ => ?_) (fun _ => ?_)
  · exact e_X11_canComment_22 O R _ s_a0 _ _ _
  · refine q_ao O (okp_s s_a0) (fun a4 s_a4 => ?_)
    refine q_bI (e_X11_isSeen O R _ s_a4 _ _) (fun h2 gh2 v3 R => ?_)
    refine q_ite (fun _ => ?_) (fun _ => ?_)
    · exact e_X11_canComment_22 O R _ s_a0 _ _ _
    · exact e_X11_canComment_23 O R _ s_a0 _ _ _ _
theorem e_X11_isFace {S : Nat × Nat → Bool} {ρ : Nat × Nat → Nat × Nat} (O : RhoOk S ρ)  {h g : am_H} (R : eqR S ρ h g) (x0 : Int32) : eqQ S ρ h g (f_X11_isFace x0 h) (f_X11_isFace x0 g) := by
  rw [f_X11_isFace, f_X11_isFace]
  refine q_bI (e_X11_in O R _ _ _) (fun h1 gh1 v2 R => ?_)
  exact q_rz R
theorem e_X11_comment_171 {S : Nat × Nat → Bool} {ρ : Nat × Nat → Nat × Nat} (O : RhoOk S ρ)  {h g : am_H} (R : eqR S ρ h g) (a0 : Nat × Nat) (s_a0 : S a0 = true) (s0 : Int32) (s1 : Int32) (s2 : Option (Nat × Nat)) (p_s2 : okp S s2) : eqQ S ρ h g (f_X11_comment_171 a0 s0 s1 s2 h) (f_X11_comment_171 (ρ a0) s0 s1 (s2.map ρ) g) := by
  rw [f_X11_comment_171, f_X11_comment_171]
  refine q_sZ O R p_s2 (fun h33 gh33 R => ?_)
  refine q_gI O R (okp_s s_a0) (fun v34 => ?_)
  refine q_pI O R (okp_s s_a0) (fun h35 gh35 R => ?_)
  refine q_gI O R (okp_s s_a0) (fun v36 => ?_)
  exact q_ri R
theorem e_X11_comment_170 {S : Nat × Nat → Bool} {ρ : Nat × Nat → Nat × Nat} (O : RhoOk S ρ)  {h g : am_H} (R : eqR S ρ h g) (a0 : Nat × Nat) (s_a0 : S a0 = true) (s0 : Int32) (s1 : Option (Nat × Nat)) (p_s1 : okp S s1) : eqQ S ρ h g (f_X11_comment_170 a0 s0 s1 h) (f_X11_comment_170 (ρ a0) s0 (s1.map ρ) g) := by
  rw [f_X11_comment_170, f_X11_comment_170]
  exact e_X11_comment_171 O R _ s_a0 _ _ _ p_s1
theorem e_X11_comment_102 {S : Nat × Nat → Bool} {ρ : Nat × Nat → Nat × Nat} (O : RhoOk S ρ)  {h g : am_H} (R : eqR S ρ h g) (a0 : Nat × Nat) (s_a0 : S a0 = true) (x1 : Int32) (x2 : Int32) (x3 : Int32) (s0 : Int32) (s1 : Option (Nat × Nat)) (p_s1 : okp S s1) : eqQ S ρ h g (f_X11_comment_102 a0 x1 x2 x3 s0 s1 h) (f_X11_comment_102 (ρ a0) x1 x2 x3 s0 (s1.map ρ) g) := by
  rw [f_X11_comment_102, f_X11_comment_102]
  refine q_ao O p_s1 (fun a16 s_a16 => ?_)
  refine q_bI (e_X11_holds O R _ s_a16 _) (fun h14 gh14 v15 R => ?_)
  refine q_ite (fun _ => ?_) (fun _ => ?_)
  · exact q_ri R
  · refine q_gR O R (okp_s s_a0) (fun o17 p_o17 => ?_)
    refine q_gI O R (okp_s s_a0) (fun v18 => ?_)
    refine q_sI O R p_o17 (fun h19 gh19 R => ?_)
    refine q_gR O R (okp_s s_a0) (fun o20 p_o20 => ?_)
    refine q_gI O R (okp_s s_a0) (fun v21 => ?_)
    refine q_sI O R p_o20 (fun h22 gh22 R => ?_)
    refine q_gR O R (okp_s s_a0) (fun o23 p_o23 => ?_)
    refine q_gI O R (okp_s s_a0) (fun v24 => ?_)
    refine q_sI O R p_o23 (fun h25 gh25 R => ?_)
    refine q_gR O R (okp_s s_a0) (fun o26 p_o26 => ?_)
    refine q_gI O R (okp_s s_a0) (fun v27 => ?_)
    refine q_gR O R (okp_s s_a0) (fun o28 p_o28 => ?_)
    refine q_aI O R p_o28 (fun v29 => ?_)
    refine q_ite (fun _ => ?_) (fun _ => ?_)
    · exact e_X11_comment_170 O R _ s_a0 _ _ p_o26
    · refine q_ao O (okp_s s_a0) (fun a32 s_a32 => ?_)
      refine q_bI (e_X11_isOwner O R _ s_a32 _ _) (fun h30 gh30 v31 R => ?_)
      refine q_ite (fun _ => ?_) (fun _ => ?_)
      · exact e_X11_comment_171 O R _ s_a0 _ _ _ p_o26
      · exact e_X11_comment_170 O R _ s_a0 _ _ p_o26
theorem e_X11_comment_66 {S : Nat × Nat → Bool} {ρ : Nat × Nat → Nat × Nat} (O : RhoOk S ρ)  {h g : am_H} (R : eqR S ρ h g) (a0 : Nat × Nat) (s_a0 : S a0 = true) (x1 : Int32) (x2 : Int32) (x3 : Int32) (x4 : Int32) (s0 : Int32) : eqQ S ρ h g (f_X11_comment_66 a0 x1 x2 x3 x4 s0 h) (f_X11_comment_66 (ρ a0) x1 x2 x3 x4 s0 g) := by
  rw [f_X11_comment_66, f_X11_comment_66]
  refine q_ite (fun _ => ?_) (fun _ => ?_)
  · exact e_X11_comment_102 O R _ s_a0 _ _ _ _ _ (okp_s s_a0)
  · refine q_ite (fun _ => ?_) (fun _ => ?_)
    · exact e_X11_comment_102 O R _ s_a0 _ _ _ _ _ (okp_s s_a0)
    · refine q_ao O (okp_s s_a0) (fun a13 s_a13 => ?_)
      refine q_bI (e_X11_canComment O R _ s_a13 _ _ _) (fun h11 gh11 v12 R => ?_)
      refine q_ite (fun _ => ?_) (fun _ => ?_)
      · exact e_X11_comment_102 O R _ s_a0 _ _ _ _ _ (okp_s s_a0)
      · exact e_X11_comment_102 O R _ s_a0 _ _ _ _ _ (okp_s s_a0)
theorem e_X11_comment_65 {S : Nat × Nat → Bool} {ρ : Nat × Nat → Nat × Nat} (O : RhoOk S ρ)  {h g : am_H} (R : eqR S ρ h g) (a0 : Nat × Nat) (s_a0 : S a0 = true) (x1 : Int32) (x2 : Int32) (x3 : Int32) (x4 : Int32) : eqQ S ρ h g (f_X11_comment_65 a0 x1 x2 x3 x4 h) (f_X11_comment_65 (ρ a0) x1 x2 x3 x4 g) := by
  rw [f_X11_comment_65, f_X11_comment_65]
  exact e_X11_comment_66 O R _ s_a0 _ _ _ _ _
theorem e_X11_comment_61 {S : Nat × Nat → Bool} {ρ : Nat × Nat → Nat × Nat} (O : RhoOk S ρ)  {h g : am_H} (R : eqR S ρ h g) (a0 : Nat × Nat) (s_a0 : S a0 = true) (x1 : Int32) (x2 : Int32) (x3 : Int32) (x4 : Int32) : eqQ S ρ h g (f_X11_comment_61 a0 x1 x2 x3 x4 h) (f_X11_comment_61 (ρ a0) x1 x2 x3 x4 g) := by
  rw [f_X11_comment_61, f_X11_comment_61]
  exact e_X11_comment_66 O R _ s_a0 _ _ _ _ _
theorem e_X11_comment_39 {S : Nat × Nat → Bool} {ρ : Nat × Nat → Nat × Nat} (O : RhoOk S ρ)  {h g : am_H} (R : eqR S ρ h g) (a0 : Nat × Nat) (s_a0 : S a0 = true) (x1 : Int32) (x2 : Int32) (x3 : Int32) (s0 : Int32) : eqQ S ρ h g (f_X11_comment_39 a0 x1 x2 x3 s0 h) (f_X11_comment_39 (ρ a0) x1 x2 x3 s0 g) := by
  rw [f_X11_comment_39, f_X11_comment_39]
  refine q_ite (fun _ => ?_) (fun _ => ?_)
  · exact e_X11_comment_65 O R _ s_a0 _ _ _ _
  · refine q_ite (fun _ => ?_) (fun _ => ?_)
    · exact e_X11_comment_61 O R _ s_a0 _ _ _ _
    · refine q_gR O R (okp_s s_a0) (fun o9 p_o9 => ?_)
      refine q_aI O R p_o9 (fun v10 => ?_)
      refine q_ite (fun _ => ?_) (fun _ => ?_)
      · exact e_X11_comment_61 O R _ s_a0 _ _ _ _
      · exact e_X11_comment_65 O R _ s_a0 _ _ _ _
theorem e_X11_comment_38 {S : Nat × Nat → Bool} {ρ : Nat × Nat → Nat × Nat} (O : RhoOk S ρ)  {h g : am_H} (R : eqR S ρ h g) (a0 : Nat × Nat) (s_a0 : S a0 = true) (x1 : Int32) (x2 : Int32) (x3 : Int32) : eqQ S ρ h g (f_X11_comment_38 a0 x1 x2 x3 h) (f_X11_comment_38 (ρ a0) x1 x2 x3 g) := by
  rw [f_X11_comment_38, f_X11_comment_38]
  exact e_X11_comment_39 O R _ s_a0 _ _ _ _
theorem e_X11_comment_34 {S : Nat × Nat → Bool} {ρ : Nat × Nat → Nat × Nat} (O : RhoOk S ρ)  {h g : am_H} (R : eqR S ρ h g) (a0 : Nat × Nat) (s_a0 : S a0 = true) (x1 : Int32) (x2 : Int32) (x3 : Int32) : eqQ S ρ h g (f_X11_comment_34 a0 x1 x2 x3 h) (f_X11_comment_34 (ρ a0) x1 x2 x3 g) := by
  rw [f_X11_comment_34, f_X11_comment_34]
  exact e_X11_comment_39 O R _ s_a0 _ _ _ _
theorem e_X11_comment {S : Nat × Nat → Bool} {ρ : Nat × Nat → Nat × Nat} (O : RhoOk S ρ)  {h g : am_H} (R : eqR S ρ h g) (a0 : Nat × Nat) (s_a0 : S a0 = true) (x1 : Int32) (x2 : Int32) (x3 : Int32) : eqQ S ρ h g (f_X11_comment a0 x1 x2 x3 h) (f_X11_comment (ρ a0) x1 x2 x3 g) := by
  rw [f_X11_comment, f_X11_comment]
  refine q_ao O (okp_s s_a0) (fun a3 s_a3 => ?_)
  refine q_bI (e_X11_isWork O R _ s_a3 _) (fun h1 gh1 v2 R => ?_)
  refine q_ite (fun _ => ?_) (fun _ => ?_)
  · exact e_X11_comment_38 O R _ s_a0 _ _ _
  · refine q_bI (e_X11_isFace O R _) (fun h4 gh4 v5 R => ?_)
    refine q_ite (fun _ => ?_) (fun _ => ?_)
    · exact e_X11_comment_38 O R _ s_a0 _ _ _
    · refine q_ite (fun _ => ?_) (fun _ => ?_)
      · exact e_X11_comment_34 O R _ s_a0 _ _ _
      · refine q_gI O R (okp_s s_a0) (fun v6 => ?_)
        refine q_bI (e_X11_in O R _ _ _) (fun h7 gh7 v8 R => ?_)
        refine q_ite (fun _ => ?_) (fun _ => ?_)
        · exact e_X11_comment_38 O R _ s_a0 _ _ _
        · exact e_X11_comment_34 O R _ s_a0 _ _ _
theorem e_X11_areTold_61 {S : Nat × Nat → Bool} {ρ : Nat × Nat → Nat × Nat} (O : RhoOk S ρ)  {h g : am_H} (R : eqR S ρ h g) (s0 : Int32) : eqQ S ρ h g (f_X11_areTold_61 s0 h) (f_X11_areTold_61 s0 g) := by
  rw [f_X11_areTold_61, f_X11_areTold_61]
  exact q_rz R
theorem e_X11_areTold_60 {S : Nat × Nat → Bool} {ρ : Nat × Nat → Nat × Nat} (O : RhoOk S ρ)  {h g : am_H} (R : eqR S ρ h g)  : eqQ S ρ h g (f_X11_areTold_60  h) (f_X11_areTold_60  g) := by
  unfold f_X11_areTold_60
  exact e_X11_areTold_61 O R _
theorem e_X11_areTold_56 {S : Nat × Nat → Bool} {ρ : Nat × Nat → Nat × Nat} (O : RhoOk S ρ)  {h g : am_H} (R : eqR S ρ h g)  : eqQ S ρ h g (f_X11_areTold_56  h) (f_X11_areTold_56  g) := by
  unfold f_X11_areTold_56
  exact e_X11_areTold_61 O R _
theorem e_X11_areTold_33 {S : Nat × Nat → Bool} {ρ : Nat × Nat → Nat × Nat} (O : RhoOk S ρ)  {h g : am_H} (R : eqR S ρ h g) (a0 : Nat × Nat) (s_a0 : S a0 = true) (x1 : Int32) (x2 : Int32) (s0 : Int32) : eqQ S ρ h g (f_X11_areTold_33 a0 x1 x2 s0 h) (f_X11_areTold_33 (ρ a0) x1 x2 s0 g) := by
  rw [f_X11_areTold_33, f_X11_areTold_33]
  refine q_ao O (okp_s s_a0) (fun a10 s_a10 => ?_)
  refine q_bI (e_X11_isSeen O R _ s_a10 _ _) (fun h8 gh8 v9 R => ?_)
  refine q_ite (fun _ => ?_) (fun _ => ?_)
  · exact e_X11_areTold_60 O R
  · refine q_ao O (okp_s s_a0) (fun a13 s_a13 => ?_)
    refine q_bI (e_X11_isOwner O R _ s_a13 _ _) (fun h11 gh11 v12 R => ?_)
    refine q_ite (fun _ => ?_) (fun _ => ?_)
    · refine q_ite (fun _ => ?_) (fun _ => ?_)
      · exact e_X11_areTold_60 O R
      · exact e_X11_areTold_56 O R
    · exact e_X11_areTold_56 O R
theorem e_X11_areTold_28 {S : Nat × Nat → Bool} {ρ : Nat × Nat → Nat × Nat} (O : RhoOk S ρ)  {h g : am_H} (R : eqR S ρ h g) (a0 : Nat × Nat) (s_a0 : S a0 = true) (x1 : Int32) (x2 : Int32) : eqQ S ρ h g (f_X11_areTold_28 a0 x1 x2 h) (f_X11_areTold_28 (ρ a0) x1 x2 g) := by
  rw [f_X11_areTold_28, f_X11_areTold_28]
  exact e_X11_areTold_33 O R _ s_a0 _ _ _
theorem e_X11_areTold {S : Nat × Nat → Bool} {ρ : Nat × Nat → Nat × Nat} (O : RhoOk S ρ)  {h g : am_H} (R : eqR S ρ h g) (a0 : Nat × Nat) (s_a0 : S a0 = true) (x1 : Int32) (x2 : Int32) : eqQ S ρ h g (f_X11_areTold a0 x1 x2 h) (f_X11_areTold (ρ a0) x1 x2 g) := by
  rw [f_X11_areTold, f_X11_areTold]
  refine q_gR O R (okp_s s_a0) (fun o1 p_o1 => ?_)
  refine q_aI O R p_o1 (fun v2 => ?_)
  refine q_ite (fun _ => ?_) (fun _ => ?_)
  · exact e_X11_areTold_28 O R _ s_a0 _ _
  · refine q_gR O R (okp_s s_a0) (fun o3 p_o3 => ?_)
    refine q_gR O R (okp_s s_a0) (fun o4 p_o4 => ?_)
    refine q_aI O R p_o4 (fun v5 => ?_)
    refine q_aI O R p_o3 (fun v6 => ?_)
    refine q_gI O R (okp_s s_a0) (fun v7 => ?_)
    refine q_ite (fun _ => ?_) (fun _ => ?_)
    · exact e_X11_areTold_33 O R _ s_a0 _ _ _
    · exact e_X11_areTold_28 O R _ s_a0 _ _
theorem e_X11_outDay_32 {S : Nat × Nat → Bool} {ρ : Nat × Nat → Nat × Nat} (O : RhoOk S ρ)  {h g : am_H} (R : eqR S ρ h g) (s0 : Int32) : eqQ S ρ h g (f_X11_outDay_32 s0 h) (f_X11_outDay_32 s0 g) := by
  rw [f_X11_outDay_32, f_X11_outDay_32]
  exact q_ri R
theorem e_X11_outDay {S : Nat × Nat → Bool} {ρ : Nat × Nat → Nat × Nat} (O : RhoOk S ρ)  {h g : am_H} (R : eqR S ρ h g) (a0 : Nat × Nat) (s_a0 : S a0 = true) (x1 : Int32) (x2 : Int32) : eqQ S ρ h g (f_X11_outDay a0 x1 x2 h) (f_X11_outDay (ρ a0) x1 x2 g) := by
  rw [f_X11_outDay, f_X11_outDay]
  refine q_gR O R (okp_s s_a0) (fun o1 p_o1 => ?_)
  refine q_aI O R p_o1 (fun v2 => ?_)
  refine q_gR O R (okp_s s_a0) (fun o3 p_o3 => ?_)
  refine q_aI O R p_o3 (fun v4 => ?_)
  refine q_ite (fun _ => ?_) (fun _ => ?_)
  · refine q_gR O R (okp_s s_a0) (fun o5 p_o5 => ?_)
    refine q_aI O R p_o5 (fun v6 => ?_)
    exact e_X11_outDay_32 O R _
  · exact e_X11_outDay_32 O R _
theorem e_X11_isNews_164 {S : Nat × Nat → Bool} {ρ : Nat × Nat → Nat × Nat} (O : RhoOk S ρ) {rc93 : Nat × Nat → Int32 → Int32 → Int32 → Int32 → Int32 → am_H → am_R} (hrc93 : ∀ {h g : am_H} (_ : eqR S ρ h g) (y0 : Nat × Nat) (s_y0 : S y0 = true) (y1 : Int32) (y2 : Int32) (y3 : Int32) (y4 : Int32) (y5 : Int32), eqQ S ρ h g (rc93 y0 y1 y2 y3 y4 y5 h) (rc93 (ρ y0) y1 y2 y3 y4 y5 g)) {h g : am_H} (R : eqR S ρ h g) (a0 : Nat × Nat) (s_a0 : S a0 = true) (x1 : Int32) (x2 : Int32) (x4 : Int32) (x7 : Int32) (s0 : Int32) : eqQ S ρ h g (f_X11_isNews_164 rc93 a0 x1 x2 x4 x7 s0 h) (f_X11_isNews_164 rc93 (ρ a0) x1 x2 x4 x7 s0 g) := by
  rw [f_X11_isNews_164, f_X11_isNews_164]
  exact hrc93 R _ s_a0 _ _ _ _ _
theorem e_X11_isNews_163 {S : Nat × Nat → Bool} {ρ : Nat × Nat → Nat × Nat} (O : RhoOk S ρ) {rc93 : Nat × Nat → Int32 → Int32 → Int32 → Int32 → Int32 → am_H → am_R} (hrc93 : ∀ {h g : am_H} (_ : eqR S ρ h g) (y0 : Nat × Nat) (s_y0 : S y0 = true) (y1 : Int32) (y2 : Int32) (y3 : Int32) (y4 : Int32) (y5 : Int32), eqQ S ρ h g (rc93 y0 y1 y2 y3 y4 y5 h) (rc93 (ρ y0) y1 y2 y3 y4 y5 g)) {h g : am_H} (R : eqR S ρ h g) (a0 : Nat × Nat) (s_a0 : S a0 = true) (x1 : Int32) (x2 : Int32) (x4 : Int32) (x7 : Int32) : eqQ S ρ h g (f_X11_isNews_163 rc93 a0 x1 x2 x4 x7 h) (f_X11_isNews_163 rc93 (ρ a0) x1 x2 x4 x7 g) := by
  rw [f_X11_isNews_163, f_X11_isNews_163]
  exact e_X11_isNews_164 O hrc93 R _ s_a0 _ _ _ _ _
theorem e_X11_isNews_159 {S : Nat × Nat → Bool} {ρ : Nat × Nat → Nat × Nat} (O : RhoOk S ρ) {rc93 : Nat × Nat → Int32 → Int32 → Int32 → Int32 → Int32 → am_H → am_R} (hrc93 : ∀ {h g : am_H} (_ : eqR S ρ h g) (y0 : Nat × Nat) (s_y0 : S y0 = true) (y1 : Int32) (y2 : Int32) (y3 : Int32) (y4 : Int32) (y5 : Int32), eqQ S ρ h g (rc93 y0 y1 y2 y3 y4 y5 h) (rc93 (ρ y0) y1 y2 y3 y4 y5 g)) {h g : am_H} (R : eqR S ρ h g) (a0 : Nat × Nat) (s_a0 : S a0 = true) (x1 : Int32) (x2 : Int32) (x4 : Int32) (x7 : Int32) : eqQ S ρ h g (f_X11_isNews_159 rc93 a0 x1 x2 x4 x7 h) (f_X11_isNews_159 rc93 (ρ a0) x1 x2 x4 x7 g) := by
  rw [f_X11_isNews_159, f_X11_isNews_159]
  exact e_X11_isNews_164 O hrc93 R _ s_a0 _ _ _ _ _
theorem e_X11_isNews_139 {S : Nat × Nat → Bool} {ρ : Nat × Nat → Nat × Nat} (O : RhoOk S ρ) {rc93 : Nat × Nat → Int32 → Int32 → Int32 → Int32 → Int32 → am_H → am_R} (hrc93 : ∀ {h g : am_H} (_ : eqR S ρ h g) (y0 : Nat × Nat) (s_y0 : S y0 = true) (y1 : Int32) (y2 : Int32) (y3 : Int32) (y4 : Int32) (y5 : Int32), eqQ S ρ h g (rc93 y0 y1 y2 y3 y4 y5 h) (rc93 (ρ y0) y1 y2 y3 y4 y5 g)) {h g : am_H} (R : eqR S ρ h g) (a0 : Nat × Nat) (s_a0 : S a0 = true) (x1 : Int32) (x2 : Int32) (x4 : Int32) (x6 : Int32) (x7 : Int32) (s0 : Int32) : eqQ S ρ h g (f_X11_isNews_139 rc93 a0 x1 x2 x4 x6 x7 s0 h) (f_X11_isNews_139 rc93 (ρ a0) x1 x2 x4 x6 x7 s0 g) := by
  rw [f_X11_isNews_139, f_X11_isNews_139]
  refine q_ite (fun _ => ?_) (fun _ => ?_)
  · refine q_ite (fun _ => ?_) (fun _ => ?_)
    · exact e_X11_isNews_163 O hrc93 R _ s_a0 _ _ _ _
    · refine q_ite (fun _ => ?_) (fun _ => ?_)
      · exact e_X11_isNews_163 O hrc93 R _ s_a0 _ _ _ _
      · exact e_X11_isNews_159 O hrc93 R _ s_a0 _ _ _ _
  · exact e_X11_isNews_159 O hrc93 R _ s_a0 _ _ _ _
theorem e_X11_isNews_138 {S : Nat × Nat → Bool} {ρ : Nat × Nat → Nat × Nat} (O : RhoOk S ρ) {rc93 : Nat × Nat → Int32 → Int32 → Int32 → Int32 → Int32 → am_H → am_R} (hrc93 : ∀ {h g : am_H} (_ : eqR S ρ h g) (y0 : Nat × Nat) (s_y0 : S y0 = true) (y1 : Int32) (y2 : Int32) (y3 : Int32) (y4 : Int32) (y5 : Int32), eqQ S ρ h g (rc93 y0 y1 y2 y3 y4 y5 h) (rc93 (ρ y0) y1 y2 y3 y4 y5 g)) {h g : am_H} (R : eqR S ρ h g) (a0 : Nat × Nat) (s_a0 : S a0 = true) (x1 : Int32) (x2 : Int32) (x4 : Int32) (x6 : Int32) (x7 : Int32) : eqQ S ρ h g (f_X11_isNews_138 rc93 a0 x1 x2 x4 x6 x7 h) (f_X11_isNews_138 rc93 (ρ a0) x1 x2 x4 x6 x7 g) := by
  rw [f_X11_isNews_138, f_X11_isNews_138]
  exact e_X11_isNews_139 O hrc93 R _ s_a0 _ _ _ _ _ _
theorem e_X11_isNews_93 {S : Nat × Nat → Bool} {ρ : Nat × Nat → Nat × Nat} (O : RhoOk S ρ)  : ∀ (n : Nat) {h g : am_H} (_ : eqR S ρ h g) (a0 : Nat × Nat) (s_a0 : S a0 = true) (x1 : Int32) (x2 : Int32) (x4 : Int32) (x6 : Int32) (x7 : Int32), eqQ S ρ h g (f_X11_isNews_93 n a0 x1 x2 x4 x6 x7 h) (f_X11_isNews_93 n (ρ a0) x1 x2 x4 x6 x7 g) := by
  intro n
  induction n with
  | zero => intros; exact q_none
  | succ n ih =>
    intro h g R a0 s_a0 x1 x2 x4 x6 x7
    rw [f_X11_isNews_93, f_X11_isNews_93]
    refine q_ite (fun _ => ?_) (fun _ => ?_)
    · exact q_rz R
    · refine q_gR O R (okp_s s_a0) (fun o16 p_o16 => ?_)
      refine q_aI O R p_o16 (fun v17 => ?_)
      refine q_bI (e_X11_has O R _ _) (fun h18 gh18 v19 R => ?_)
      refine q_ite (fun _ => ?_) (fun _ => ?_)
      · exact e_X11_isNews_138 O ih R _ s_a0 _ _ _ _ _
      · refine q_ao O (okp_s s_a0) (fun a22 s_a22 => ?_)
        refine q_bI (e_X11_areTold O R _ s_a22 _ _) (fun h20 gh20 v21 R => ?_)
        refine q_ite (fun _ => ?_) (fun _ => ?_)
        · exact e_X11_isNews_138 O ih R _ s_a0 _ _ _ _ _
        · refine q_gR O R (okp_s s_a0) (fun o23 p_o23 => ?_)
          refine q_aI O R p_o23 (fun v24 => ?_)
          exact e_X11_isNews_139 O ih R _ s_a0 _ _ _ _ _ _
theorem e_X11_isNews_88 {S : Nat × Nat → Bool} {ρ : Nat × Nat → Nat × Nat} (O : RhoOk S ρ)  {h g : am_H} (R : eqR S ρ h g) (a0 : Nat × Nat) (s_a0 : S a0 = true) (x1 : Int32) (x2 : Int32) (x4 : Int32) (s0 : Int32) : eqQ S ρ h g (f_X11_isNews_88 a0 x1 x2 x4 s0 h) (f_X11_isNews_88 (ρ a0) x1 x2 x4 s0 g) := by
  rw [f_X11_isNews_88, f_X11_isNews_88]
  exact e_X11_isNews_93 O _ R _ s_a0 _ _ _ _ _
