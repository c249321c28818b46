theorem e_X11_result_110 {S : Nat × Nat → Bool} {ρ : Nat × Nat → Nat × Nat} (O : RhoOk S ρ) {rc50 : Nat × Nat → Int32 → Int32 → Int32 → Int32 → am_H → am_R} (hrc50 : ∀ {h g : am_H} (_ : eqR S ρ h g) (y0 : Nat × Nat) (s_y0 : S y0 = true) (y1 : Int32) (y2 : Int32) (y3 : Int32) (y4 : Int32), eqQ S ρ h g (rc50 y0 y1 y2 y3 y4 h) (rc50 (ρ y0) y1 y2 y3 y4 g)) {rc66 : Nat × Nat → Int32 → Int32 → Int32 → Int32 → Int32 → am_H → am_R} (hrc66 : ∀ {h g : am_H} (_ : eqR S ρ h g) (y0 : Nat × Nat) (s_y0 : S y0 = true) (y1 : Int32) (y2 : Int32) (y3 : Int32) (y4 : Int32) (y5 : Int32), eqQ S ρ h g (rc66 y0 y1 y2 y3 y4 y5 h) (rc66 (ρ y0) y1 y2 y3 y4 y5 g)) {h g : am_H} (R : eqR S ρ h g) (a0 : Nat × Nat) (s_a0 : S a0 = true) (x2 : Int32) (x3 : Int32) (x4 : Int32) (x5 : Int32) (x6 : Int32) : eqQ S ρ h g (f_X11_result_110 rc50 rc66 a0 x2 x3 x4 x5 x6 h) (f_X11_result_110 rc50 rc66 (ρ a0) x2 x3 x4 x5 x6 g) := by
  rw [f_X11_result_110, f_X11_result_110]
  exact e_X11_result_112 O hrc50 hrc66 R _ s_a0 _ _ _ _ _
theorem e_X11_result_105 {S : Nat × Nat → Bool} {ρ : Nat × Nat → Nat × Nat} (O : RhoOk S ρ) {rc50 : Nat × Nat → Int32 → Int32 → Int32 → Int32 → am_H → am_R} (hrc50 : ∀ {h g : am_H} (_ : eqR S ρ h g) (y0 : Nat × Nat) (s_y0 : S y0 = true) (y1 : Int32) (y2 : Int32) (y3 : Int32) (y4 : Int32), eqQ S ρ h g (rc50 y0 y1 y2 y3 y4 h) (rc50 (ρ y0) y1 y2 y3 y4 g)) {rc66 : Nat × Nat → Int32 → Int32 → Int32 → Int32 → Int32 → am_H → am_R} (hrc66 : ∀ {h g : am_H} (_ : eqR S ρ h g) (y0 : Nat × Nat) (s_y0 : S y0 = true) (y1 : Int32) (y2 : Int32) (y3 : Int32) (y4 : Int32) (y5 : Int32), eqQ S ρ h g (rc66 y0 y1 y2 y3 y4 y5 h) (rc66 (ρ y0) y1 y2 y3 y4 y5 g)) {h g : am_H} (R : eqR S ρ h g) (a0 : Nat × Nat) (s_a0 : S a0 = true) (x2 : Int32) (x3 : Int32) (x5 : Int32) (x6 : Int32) : eqQ S ρ h g (f_X11_result_105 rc50 rc66 a0 x2 x3 x5 x6 h) (f_X11_result_105 rc50 rc66 (ρ a0) x2 x3 x5 x6 g) := by
  rw [f_X11_result_105, f_X11_result_105]
  exact e_X11_result_112 O hrc50 hrc66 R _ s_a0 _ _ _ _ _
theorem e_X11_result_66 {S : Nat × Nat → Bool} {ρ : Nat × Nat → Nat × Nat} (O : RhoOk S ρ) {rc50 : Nat × Nat → Int32 → Int32 → Int32 → Int32 → am_H → am_R} (hrc50 : ∀ {h g : am_H} (_ : eqR S ρ h g) (y0 : Nat × Nat) (s_y0 : S y0 = true) (y1 : Int32) (y2 : Int32) (y3 : Int32) (y4 : Int32), eqQ S ρ h g (rc50 y0 y1 y2 y3 y4 h) (rc50 (ρ y0) y1 y2 y3 y4 g)) : ∀ (n : Nat) {h g : am_H} (_ : eqR S ρ h g) (a0 : Nat × Nat) (s_a0 : S a0 = true) (x2 : Int32) (x3 : Int32) (x4 : Int32) (x5 : Int32) (x6 : Int32), eqQ S ρ h g (f_X11_result_66 rc50 n a0 x2 x3 x4 x5 x6 h) (f_X11_result_66 rc50 n (ρ a0) x2 x3 x4 x5 x6 g) := by
  intro n
  induction n with
  | zero => intros; exact q_none
  | succ n ih =>
    intro h g R a0 s_a0 x2 x3 x4 x5 x6
    rw [f_X11_result_66, f_X11_result_66]
    refine q_gI O R (okp_s s_a0) (fun v12 => ?_)
    refine q_ite (fun _ => ?_) (fun _ => ?_)
    · refine q_ite (fun _ => ?_) (fun _ => ?_)
      · exact e_X11_result_141 O hrc50 R _ s_a0 _ _ _ _
      · exact e_X11_result_141 O hrc50 R _ s_a0 _ _ _ _
    · refine q_bI (e_X11_has O R _ _) (fun h13 gh13 v14 R => ?_)
      refine q_ite (fun _ => ?_) (fun _ => ?_)
      · exact e_X11_result_110 O hrc50 ih R _ s_a0 _ _ _ _ _
      · refine q_ite (fun _ => ?_) (fun _ => ?_)
        · exact e_X11_result_105 O hrc50 ih R _ s_a0 _ _ _ _
        · refine q_ao O (okp_s s_a0) (fun a17 s_a17 => ?_)
          refine q_bI (e_X11_latest O R _ s_a17 _) (fun h15 gh15 v16 R => ?_)
          refine q_ao O (okp_s s_a0) (fun a20 s_a20 => ?_)
          refine q_bI (e_X11_latest O R _ s_a20 _) (fun h18 gh18 v19 R => ?_)
          refine q_ite (fun _ => ?_) (fun _ => ?_)
          · exact e_X11_result_110 O hrc50 ih R _ s_a0 _ _ _ _ _
          · exact e_X11_result_105 O hrc50 ih R _ s_a0 _ _ _ _
theorem e_X11_result_50 {S : Nat × Nat → Bool} {ρ : Nat × Nat → Nat × Nat} (O : RhoOk S ρ)  : ∀ (n : Nat) {h g : am_H} (_ : eqR S ρ h g) (a0 : Nat × Nat) (s_a0 : S a0 = true) (x2 : Int32) (x3 : Int32) (x4 : Int32) (x5 : Int32), eqQ S ρ h g (f_X11_result_50 n a0 x2 x3 x4 x5 h) (f_X11_result_50 n (ρ a0) x2 x3 x4 x5 g) := by
  intro n
  induction n with
  | zero => intros; exact q_none
  | succ n ih =>
    intro h g R a0 s_a0 x2 x3 x4 x5
    rw [f_X11_result_50, f_X11_result_50]
    refine q_ite (fun _ => ?_) (fun _ => ?_)
    · exact e_X11_result_149 O R _
    · refine q_ite (fun _ => ?_) (fun _ => ?_)
      · exact e_X11_result_149 O R _
      · exact e_X11_result_66 O ih _ R _ s_a0 _ _ _ _ _
theorem e_X11_result_29 {S : Nat × Nat → Bool} {ρ : Nat × Nat → Nat × Nat} (O : RhoOk S ρ)  {h g : am_H} (R : eqR S ρ h g) (a0 : Nat × Nat) (s_a0 : S a0 = true) (x1 : Int32) (x2 : Int32) (s0 : Int32) (s1 : Option (Nat × Nat)) (p_s1 : okp S s1) : eqQ S ρ h g (f_X11_result_29 a0 x1 x2 s0 s1 h) (f_X11_result_29 (ρ a0) x1 x2 s0 (s1.map ρ) g) := by
  rw [f_X11_result_29, f_X11_result_29]
  refine q_ao O p_s1 (fun a8 s_a8 => ?_)
  refine q_bI (e_X11_holds O R _ s_a8 _) (fun h6 gh6 v7 R => ?_)
  refine q_ite (fun _ => ?_) (fun _ => ?_)
  · exact q_ri R
  · refine q_ao O (okp_s s_a0) (fun a11 s_a11 => ?_)
    refine q_bI (e_X11_searchOf O R _ s_a11 _ _) (fun h9 gh9 v10 R => ?_)
    exact e_X11_result_50 O _ R _ s_a0 _ _ _ _
theorem e_X11_result_12 {S : Nat × Nat → Bool} {ρ : Nat × Nat → Nat × Nat} (O : RhoOk S ρ)  {h g : am_H} (R : eqR S ρ h g) (a0 : Nat × Nat) (s_a0 : S a0 = true) (x1 : Int32) (x2 : Int32) (s0 : Option (Nat × Nat)) (p_s0 : okp S s0) : eqQ S ρ h g (f_X11_result_12 a0 x1 x2 s0 h) (f_X11_result_12 (ρ a0) x1 x2 (s0.map ρ) g) := by
  rw [f_X11_result_12, f_X11_result_12]
  exact e_X11_result_29 O R _ s_a0 _ _ _ _ p_s0
theorem e_X11_result {S : Nat × Nat → Bool} {ρ : Nat × Nat → Nat × Nat} (O : RhoOk S ρ)  {h g : am_H} (R : eqR S ρ h g) (a0 : Nat × Nat) (s_a0 : S a0 = true) (x1 : Int32) (x2 : Int32) : eqQ S ρ h g (f_X11_result a0 x1 x2 h) (f_X11_result (ρ a0) x1 x2 g) := by
  rw [f_X11_result, f_X11_result]
  refine q_bI (e_X11_isFace O R _) (fun h1 gh1 v2 R => ?_)
  refine q_ite (fun _ => ?_) (fun _ => ?_)
  · exact e_X11_result_12 O R _ s_a0 _ _ _ (okp_s s_a0)
  · refine q_ite (fun _ => ?_) (fun _ => ?_)
    · refine q_ao O (okp_s s_a0) (fun a5 s_a5 => ?_)
      refine q_bI (e_X11_faultOf O R _ s_a5) (fun h3 gh3 v4 R => ?_)
      refine q_ite (fun _ => ?_) (fun _ => ?_)
      · exact e_X11_result_29 O R _ s_a0 _ _ _ _ (okp_s s_a0)
      · exact e_X11_result_29 O R _ s_a0 _ _ _ _ (okp_s s_a0)
    · exact e_X11_result_12 O R _ s_a0 _ _ _ (okp_s s_a0)
theorem e_X11_same_100 {S : Nat × Nat → Bool} {ρ : Nat × Nat → Nat × Nat} (O : RhoOk S ρ)  {h g : am_H} (R : eqR S ρ h g) (s0 : Int32) : eqQ S ρ h g (f_X11_same_100 s0 h) (f_X11_same_100 s0 g) := by
  rw [f_X11_same_100, f_X11_same_100]
  exact q_rz R
theorem e_X11_same_82 {S : Nat × Nat → Bool} {ρ : Nat × Nat → Nat × Nat} (O : RhoOk S ρ) {rc46 : Nat × Nat → Int32 → Int32 → Int32 → am_H → am_R} (hrc46 : ∀ {h g : am_H} (_ : eqR S ρ h g) (y0 : Nat × Nat) (s_y0 : S y0 = true) (y1 : Int32) (y2 : Int32) (y3 : Int32), eqQ S ρ h g (rc46 y0 y1 y2 y3 h) (rc46 (ρ y0) y1 y2 y3 g)) {h g : am_H} (R : eqR S ρ h g) (a0 : Nat × Nat) (s_a0 : S a0 = true) (x3 : Int32) (x4 : Int32) (x5 : Int32) (s0 : Int32) (s1 : Int32) (s2 : Option (Nat × Nat)) (p_s2 : okp S s2) : eqQ S ρ h g (f_X11_same_82 rc46 a0 x3 x4 x5 s0 s1 s2 h) (f_X11_same_82 rc46 (ρ a0) x3 x4 x5 s0 s1 (s2.map ρ) g) := by
  rw [f_X11_same_82, f_X11_same_82]
  refine q_sI O R p_s2 (fun h17 gh17 R => ?_)
  exact hrc46 R _ s_a0 _ _ _
theorem e_X11_same_46 {S : Nat × Nat → Bool} {ρ : Nat × Nat → Nat × Nat} (O : RhoOk S ρ)  : ∀ (n : Nat) {h g : am_H} (_ : eqR S ρ h g) (a0 : Nat × Nat) (s_a0 : S a0 = true) (x3 : Int32) (x4 : Int32) (x5 : Int32), eqQ S ρ h g (f_X11_same_46 n a0 x3 x4 x5 h) (f_X11_same_46 n (ρ a0) x3 x4 x5 g) := by
  intro n
  induction n with
  | zero => intros; exact q_none
  | succ n ih =>
    intro h g R a0 s_a0 x3 x4 x5
    rw [f_X11_same_46, f_X11_same_46]
    refine q_ite (fun _ => ?_) (fun _ => ?_)
    · refine q_ite (fun _ => ?_) (fun _ => ?_)
      · exact e_X11_same_100 O R _
      · exact e_X11_same_100 O R _
    · refine q_gR O R (okp_s s_a0) (fun o12 p_o12 => ?_)
      refine q_gR O R (okp_s s_a0) (fun o13 p_o13 => ?_)
      refine q_aI O R p_o13 (fun v14 => ?_)
      refine q_ite (fun _ => ?_) (fun _ => ?_)
      · exact e_X11_same_82 O ih R _ s_a0 _ _ _ _ _ _ p_o12
      · refine q_gR O R (okp_s s_a0) (fun o15 p_o15 => ?_)
        refine q_aI O R p_o15 (fun v16 => ?_)
        exact e_X11_same_82 O ih R _ s_a0 _ _ _ _ _ _ p_o12
theorem e_X11_same_20 {S : Nat × Nat → Bool} {ρ : Nat × Nat → Nat × Nat} (O : RhoOk S ρ)  {h g : am_H} (R : eqR S ρ h g) (a0 : Nat × Nat) (s_a0 : S a0 = true) (x1 : Int32) (x2 : Int32) (s0 : Int32) (s1 : Option (Nat × Nat)) (p_s1 : okp S s1) : eqQ S ρ h g (f_X11_same_20 a0 x1 x2 s0 s1 h) (f_X11_same_20 (ρ a0) x1 x2 s0 (s1.map ρ) g) := by
  rw [f_X11_same_20, f_X11_same_20]
  refine q_ao O p_s1 (fun a7 s_a7 => ?_)
  refine q_bI (e_X11_holds O R _ s_a7 _) (fun h5 gh5 v6 R => ?_)
  refine q_ite (fun _ => ?_) (fun _ => ?_)
  · exact q_rz R
  · refine q_gR O R (okp_s s_a0) (fun o8 p_o8 => ?_)
    refine q_aI O R p_o8 (fun v9 => ?_)
    refine q_gR O R (okp_s s_a0) (fun o10 p_o10 => ?_)
    refine q_aI O R p_o10 (fun v11 => ?_)
    exact e_X11_same_46 O _ R _ s_a0 _ _ _
theorem e_X11_same_19 {S : Nat × Nat → Bool} {ρ : Nat × Nat → Nat × Nat} (O : RhoOk S ρ)  {h g : am_H} (R : eqR S ρ h g) (a0 : Nat × Nat) (s_a0 : S a0 = true) (x1 : Int32) (x2 : Int32) (s0 : Option (Nat × Nat)) (p_s0 : okp S s0) : eqQ S ρ h g (f_X11_same_19 a0 x1 x2 s0 h) (f_X11_same_19 (ρ a0) x1 x2 (s0.map ρ) g) := by
  rw [f_X11_same_19, f_X11_same_19]
  exact e_X11_same_20 O R _ s_a0 _ _ _ _ p_s0
theorem e_X11_same {S : Nat × Nat → Bool} {ρ : Nat × Nat → Nat × Nat} (O : RhoOk S ρ)  {h g : am_H} (R : eqR S ρ h g) (a0 : Nat × Nat) (s_a0 : S a0 = true) (x1 : Int32) (x2 : Int32) : eqQ S ρ h g (f_X11_same a0 x1 x2 h) (f_X11_same (ρ a0) x1 x2 g) := by
  rw [f_X11_same, f_X11_same]
  refine q_bI (e_X11_isFace O R _) (fun h1 gh1 v2 R => ?_)
  refine q_ite (fun _ => ?_) (fun _ => ?_)
  · exact e_X11_same_19 O R _ s_a0 _ _ _ (okp_s s_a0)
  · refine q_bI (e_X11_isFace O R _) (fun h3 gh3 v4 R => ?_)
    refine q_ite (fun _ => ?_) (fun _ => ?_)
    · exact e_X11_same_19 O R _ s_a0 _ _ _ (okp_s s_a0)
    · exact e_X11_same_20 O R _ s_a0 _ _ _ _ (okp_s s_a0)
theorem e_X11_screen_14 {S : Nat × Nat → Bool} {ρ : Nat × Nat → Nat × Nat} (O : RhoOk S ρ)  {h g : am_H} (R : eqR S ρ h g) (a0 : Nat × Nat) (s_a0 : S a0 = true) (x1 : Int32) (x2 : Int32) (s0 : Int32) (s1 : Option (Nat × Nat)) (p_s1 : okp S s1) : eqQ S ρ h g (f_X11_screen_14 a0 x1 x2 s0 s1 h) (f_X11_screen_14 (ρ a0) x1 x2 s0 (s1.map ρ) g) := by
  rw [f_X11_screen_14, f_X11_screen_14]
  refine q_ao O p_s1 (fun a6 s_a6 => ?_)
  refine q_bI (e_X11_holds O R _ s_a6 _) (fun h4 gh4 v5 R => ?_)
  refine q_ite (fun _ => ?_) (fun _ => ?_)
  · exact q_rz R
  · refine q_gR O R (okp_s s_a0) (fun o7 p_o7 => ?_)
    refine q_aI O R p_o7 (fun v8 => ?_)
    refine q_gR O R (okp_s s_a0) (fun o9 p_o9 => ?_)
    refine q_sZ O R p_o9 (fun h10 gh10 R => ?_)
    exact q_rz R
theorem e_X11_screen {S : Nat × Nat → Bool} {ρ : Nat × Nat → Nat × Nat} (O : RhoOk S ρ)  {h g : am_H} (R : eqR S ρ h g) (a0 : Nat × Nat) (s_a0 : S a0 = true) (x1 : Int32) (x2 : Int32) : eqQ S ρ h g (f_X11_screen a0 x1 x2 h) (f_X11_screen (ρ a0) x1 x2 g) := by
  rw [f_X11_screen, f_X11_screen]
  refine q_ao O (okp_s s_a0) (fun a3 s_a3 => ?_)
  refine q_bI (e_X11_isWork O R _ s_a3 _) (fun h1 gh1 v2 R => ?_)
  refine q_ite (fun _ => ?_) (fun _ => ?_)
  · exact e_X11_screen_14 O R _ s_a0 _ _ _ _ (okp_s s_a0)
  · exact e_X11_screen_14 O R _ s_a0 _ _ _ _ (okp_s s_a0)
theorem e_X11_search_41 {S : Nat × Nat → Bool} {ρ : Nat × Nat → Nat × Nat} (O : RhoOk S ρ)  {h g : am_H} (R : eqR S ρ h g) (s0 : Int32) : eqQ S ρ h g (f_X11_search_41 s0 h) (f_X11_search_41 s0 g) := by
  rw [f_X11_search_41, f_X11_search_41]
  exact q_ri R
theorem e_X11_search_25 {S : Nat × Nat → Bool} {ρ : Nat × Nat → Nat × Nat} (O : RhoOk S ρ)  {h g : am_H} (R : eqR S ρ h g) (a0 : Nat × Nat) (s_a0 : S a0 = true) (x1 : Int32) (x2 : Int32) (s0 : Int32) (s1 : Option (Nat × Nat)) (p_s1 : okp S s1) : eqQ S ρ h g (f_X11_search_25 a0 x1 x2 s0 s1 h) (f_X11_search_25 (ρ a0) x1 x2 s0 (s1.map ρ) g) := by
  rw [f_X11_search_25, f_X11_search_25]
  refine q_ao O p_s1 (fun a8 s_a8 => ?_)
  refine q_bI (e_X11_holds O R _ s_a8 _) (fun h6 gh6 v7 R => ?_)
  refine q_ite (fun _ => ?_) (fun _ => ?_)
  · exact e_X11_search_41 O R _
  · refine q_ao O (okp_s s_a0) (fun a11 s_a11 => ?_)
    refine q_bI (e_X11_searchOf O R _ s_a11 _ _) (fun h9 gh9 v10 R => ?_)
    exact e_X11_search_41 O R _
theorem e_X11_search {S : Nat × Nat → Bool} {ρ : Nat × Nat → Nat × Nat} (O : RhoOk S ρ)  {h g : am_H} (R : eqR S ρ h g) (a0 : Nat × Nat) (s_a0 : S a0 = true) (x1 : Int32) (x2 : Int32) : eqQ S ρ h g (f_X11_search a0 x1 x2 h) (f_X11_search (ρ a0) x1 x2 g) := by
  rw [f_X11_search, f_X11_search]
  refine q_bI (e_X11_isFace O R _) (fun h1 gh1 v2 R => ?_)
  refine q_ite (fun _ => ?_) (fun _ => ?_)
  · exact e_X11_search_25 O R _ s_a0 _ _ _ _ (okp_s s_a0)
  · refine q_ao O (okp_s s_a0) (fun a5 s_a5 => ?_)
    refine q_bI (e_X11_faultOf O R _ s_a5) (fun h3 gh3 v4 R => ?_)
    refine q_ite (fun _ => ?_) (fun _ => ?_)
    · exact e_X11_search_25 O R _ s_a0 _ _ _ _ (okp_s s_a0)
    · exact e_X11_search_25 O R _ s_a0 _ _ _ _ (okp_s s_a0)
theorem e_X11_sees_41 {S : Nat × Nat → Bool} {ρ : Nat × Nat → Nat × Nat} (O : RhoOk S ρ)  {h g : am_H} (R : eqR S ρ h g) (s0 : Int32) : eqQ S ρ h g (f_X11_sees_41 s0 h) (f_X11_sees_41 s0 g) := by
  rw [f_X11_sees_41, f_X11_sees_41]
  exact q_rz R
theorem e_X11_sees_40 {S : Nat × Nat → Bool} {ρ : Nat × Nat → Nat × Nat} (O : RhoOk S ρ)  {h g : am_H} (R : eqR S ρ h g)  : eqQ S ρ h g (f_X11_sees_40  h) (f_X11_sees_40  g) := by
  unfold f_X11_sees_40
  exact e_X11_sees_41 O R _
theorem e_X11_sees_21 {S : Nat × Nat → Bool} {ρ : Nat × Nat → Nat × Nat} (O : RhoOk S ρ)  {h g : am_H} (R : eqR S ρ h g) (a0 : Nat × Nat) (s_a0 : S a0 = true) (x1 : Int32) (x2 : Int32) (s0 : Int32) (s1 : Option (Nat × Nat)) (p_s1 : okp S s1) : eqQ S ρ h g (f_X11_sees_21 a0 x1 x2 s0 s1 h) (f_X11_sees_21 (ρ a0) x1 x2 s0 (s1.map ρ) g) := by
  rw [f_X11_sees_21, f_X11_sees_21]
  refine q_ao O p_s1 (fun a8 s_a8 => ?_)
  refine q_bI (e_X11_holds O R _ s_a8 _) (fun h6 gh6 v7 R => ?_)
  refine q_ite (fun _ => ?_) (fun _ => ?_)
  · exact e_X11_sees_40 O R
  · refine q_ao O (okp_s s_a0) (fun a11 s_a11 => ?_)
    refine q_bI (e_X11_isSeen O R _ s_a11 _ _) (fun h9 gh9 v10 R => ?_)
    refine q_ite (fun _ => ?_) (fun _ => ?_)
    · exact e_X11_sees_40 O R
    · exact e_X11_sees_41 O R _
theorem e_X11_sees_20 {S : Nat × Nat → Bool} {ρ : Nat × Nat → Nat × Nat} (O : RhoOk S ρ)  {h g : am_H} (R : eqR S ρ h g) (a0 : Nat × Nat) (s_a0 : S a0 = true) (x1 : Int32) (x2 : Int32) (s0 : Option (Nat × Nat)) (p_s0 : okp S s0) : eqQ S ρ h g (f_X11_sees_20 a0 x1 x2 s0 h) (f_X11_sees_20 (ρ a0) x1 x2 (s0.map ρ) g) := by
  rw [f_X11_sees_20, f_X11_sees_20]
  exact e_X11_sees_21 O R _ s_a0 _ _ _ _ p_s0
theorem e_X11_sees {S : Nat × Nat → Bool} {ρ : Nat × Nat → Nat × Nat} (O : RhoOk S ρ)  {h g : am_H} (R : eqR S ρ h g) (a0 : Nat × Nat) (s_a0 : S a0 = true) (x1 : Int32) (x2 : Int32) : eqQ S ρ h g (f_X11_sees a0 x1 x2 h) (f_X11_sees (ρ a0) x1 x2 g) := by
  rw [f_X11_sees, f_X11_sees]
  refine q_bI (e_X11_isFace O R _) (fun h1 gh1 v2 R => ?_)
  refine q_ite (fun _ => ?_) (fun _ => ?_)
  · exact e_X11_sees_20 O R _ s_a0 _ _ _ (okp_s s_a0)
  · refine q_ao O (okp_s s_a0) (fun a5 s_a5 => ?_)
    refine q_bI (e_X11_isWork O R _ s_a5 _) (fun h3 gh3 v4 R => ?_)
    refine q_ite (fun _ => ?_) (fun _ => ?_)
    · exact e_X11_sees_20 O R _ s_a0 _ _ _ (okp_s s_a0)
    · exact e_X11_sees_21 O R _ s_a0 _ _ _ _ (okp_s s_a0)
theorem e_X11_sign_121 {S : Nat × Nat → Bool} {ρ : Nat × Nat → Nat × Nat} (O : RhoOk S ρ)  {h g : am_H} (R : eqR S ρ h g) (a0 : Nat × Nat) (s_a0 : S a0 = true) (x1 : Int32) (x2 : Int32) (x3 : Int32) (x4 : Int32) (s0 : Int32) (s1 : Option (Nat × Nat)) (p_s1 : okp S s1) : eqQ S ρ h g (f_X11_sign_121 a0 x1 x2 x3 x4 s0 s1 h) (f_X11_sign_121 (ρ a0) x1 x2 x3 x4 s0 (s1.map ρ) g) := by
  rw [f_X11_sign_121, f_X11_sign_121]
  refine q_ao O p_s1 (fun a11 s_a11 => ?_)
  refine q_bI (e_X11_holds O R _ s_a11 _) (fun h9 gh9 v10 R => ?_)
  refine q_ite (fun _ => ?_) (fun _ => ?_)
  · exact q_ri R
  · refine q_gR O R (okp_s s_a0) (fun o12 p_o12 => ?_)
    refine q_gI O R (okp_s s_a0) (fun v13 => ?_)
    refine q_sI O R p_o12 (fun h14 gh14 R => ?_)
    refine q_gR O R (okp_s s_a0) (fun o15 p_o15 => ?_)
    refine q_gI O R (okp_s s_a0) (fun v16 => ?_)
    refine q_sI O R p_o15 (fun h17 gh17 R => ?_)
    refine q_gR O R (okp_s s_a0) (fun o18 p_o18 => ?_)
    refine q_gI O R (okp_s s_a0) (fun v19 => ?_)
    refine q_sI O R p_o18 (fun h20 gh20 R => ?_)
    refine q_gR O R (okp_s s_a0) (fun o21 p_o21 => ?_)
    refine q_gI O R (okp_s s_a0) (fun v22 => ?_)
    refine q_sI O R p_o21 (fun h23 gh23 R => ?_)
    refine q_gI O R (okp_s s_a0) (fun v24 => ?_)
    refine q_pI O R (okp_s s_a0) (fun h25 gh25 R => ?_)
    refine q_gI O R (okp_s s_a0) (fun v26 => ?_)
    exact q_ri R
theorem e_X11_sign_116 {S : Nat × Nat → Bool} {ρ : Nat × Nat → Nat × Nat} (O : RhoOk S ρ)  {h g : am_H} (R : eqR S ρ h g) (a0 : Nat × Nat) (s_a0 : S a0 = true) (x1 : Int32) (x2 : Int32) (x3 : Int32) (x4 : Int32) (s0 : Option (Nat × Nat)) (p_s0 : okp S s0) : eqQ S ρ h g (f_X11_sign_116 a0 x1 x2 x3 x4 s0 h) (f_X11_sign_116 (ρ a0) x1 x2 x3 x4 (s0.map ρ) g) := by
  rw [f_X11_sign_116, f_X11_sign_116]
  exact e_X11_sign_121 O R _ s_a0 _ _ _ _ _ _ p_s0
theorem e_X11_sign_75 {S : Nat × Nat → Bool} {ρ : Nat × Nat → Nat × Nat} (O : RhoOk S ρ) {rc45 : Nat × Nat → Int32 → Int32 → Int32 → Int32 → Int32 → Int32 → Int32 → Int32 → am_H → am_R} (hrc45 : ∀ {h g : am_H} (_ : eqR S ρ h g) (y0 : Nat × Nat) (s_y0 : S y0 = true) (y1 : Int32) (y2 : Int32) (y3 : Int32) (y4 : Int32) (y5 : Int32) (y6 : Int32) (y7 : Int32) (y8 : Int32), eqQ S ρ h g (rc45 y0 y1 y2 y3 y4 y5 y6 y7 y8 h) (rc45 (ρ y0) y1 y2 y3 y4 y5 y6 y7 y8 g)) {h g : am_H} (R : eqR S ρ h g) (a0 : Nat × Nat) (s_a0 : S a0 = true) (x1 : Int32) (x2 : Int32) (x3 : Int32) (x4 : Int32) (x5 : Int32) (x6 : Int32) (x8 : Int32) (s0 : Int32) : eqQ S ρ h g (f_X11_sign_75 rc45 a0 x1 x2 x3 x4 x5 x6 x8 s0 h) (f_X11_sign_75 rc45 (ρ a0) x1 x2 x3 x4 x5 x6 x8 s0 g) := by
  rw [f_X11_sign_75, f_X11_sign_75]
  exact hrc45 R _ s_a0 _ _ _ _ _ _ _ _
theorem e_X11_sign_70 {S : Nat × Nat → Bool} {ρ : Nat × Nat → Nat × Nat} (O : RhoOk S ρ) {rc45 : Nat × Nat → Int32 → Int32 → Int32 → Int32 → Int32 → Int32 → Int32 → Int32 → am_H → am_R} (hrc45 : ∀ {h g : am_H} (_ : eqR S ρ h g) (y0 : Nat × Nat) (s_y0 : S y0 = true) (y1 : Int32) (y2 : Int32) (y3 : Int32) (y4 : Int32) (y5 : Int32) (y6 : Int32) (y7 : Int32) (y8 : Int32), eqQ S ρ h g (rc45 y0 y1 y2 y3 y4 y5 y6 y7 y8 h) (rc45 (ρ y0) y1 y2 y3 y4 y5 y6 y7 y8 g)) {h g : am_H} (R : eqR S ρ h g) (a0 : Nat × Nat) (s_a0 : S a0 = true) (x1 : Int32) (x2 : Int32) (x3 : Int32) (x4 : Int32) (x5 : Int32) (x6 : Int32) (x8 : Int32) : eqQ S ρ h g (f_X11_sign_70 rc45 a0 x1 x2 x3 x4 x5 x6 x8 h) (f_X11_sign_70 rc45 (ρ a0) x1 x2 x3 x4 x5 x6 x8 g) := by
  rw [f_X11_sign_70, f_X11_sign_70]
  exact e_X11_sign_75 O hrc45 R _ s_a0 _ _ _ _ _ _ _ _
theorem e_X11_sign_45 {S : Nat × Nat → Bool} {ρ : Nat × Nat → Nat × Nat} (O : RhoOk S ρ)  : ∀ (n : Nat) {h g : am_H} (_ : eqR S ρ h g) (a0 : Nat × Nat) (s_a0 : S a0 = true) (x1 : Int32) (x2 : Int32) (x3 : Int32) (x4 : Int32) (x5 : Int32) (x6 : Int32) (x7 : Int32) (x8 : Int32), eqQ S ρ h g (f_X11_sign_45 n a0 x1 x2 x3 x4 x5 x6 x7 x8 h) (f_X11_sign_45 n (ρ a0) x1 x2 x3 x4 x5 x6 x7 x8 g) := by
  intro n
  induction n with
  | zero => intros; exact q_none
  | succ n ih =>
    intro h g R a0 s_a0 x1 x2 x3 x4 x5 x6 x7 x8
    rw [f_X11_sign_45, f_X11_sign_45]
    refine q_gI O R (okp_s s_a0) (fun v5 => ?_)
    refine q_ite (fun _ => ?_) (fun _ => ?_)
    · refine q_ite (fun _ => ?_) (fun _ => ?_)
      · exact e_X11_sign_121 O R _ s_a0 _ _ _ _ _ _ (okp_s s_a0)
      · refine q_ite (fun _ => ?_) (fun _ => ?_)
        · exact e_X11_sign_121 O R _ s_a0 _ _ _ _ _ _ (okp_s s_a0)
        · refine q_ite (fun _ => ?_) (fun _ => ?_)
          · refine q_gI O R (okp_s s_a0) (fun v6 => ?_)
            refine q_ite (fun _ => ?_) (fun _ => ?_)
            · exact e_X11_sign_116 O R _ s_a0 _ _ _ _ _ (okp_s s_a0)
            · exact e_X11_sign_121 O R _ s_a0 _ _ _ _ _ _ (okp_s s_a0)
          · exact e_X11_sign_116 O R _ s_a0 _ _ _ _ _ (okp_s s_a0)
    · refine q_ite (fun _ => ?_) (fun _ => ?_)
      · refine q_gR O R (okp_s s_a0) (fun o7 p_o7 => ?_)
        refine q_aI O R p_o7 (fun v8 => ?_)
        refine q_ite (fun _ => ?_) (fun _ => ?_)
        · exact e_X11_sign_70 O ih R _ s_a0 _ _ _ _ _ _ _
        · exact e_X11_sign_75 O ih R _ s_a0 _ _ _ _ _ _ _ _
      · exact e_X11_sign_70 O ih R _ s_a0 _ _ _ _ _ _ _
theorem e_X11_sign_37 {S : Nat × Nat → Bool} {ρ : Nat × Nat → Nat × Nat} (O : RhoOk S ρ)  {h g : am_H} (R : eqR S ρ h g) (a0 : Nat × Nat) (s_a0 : S a0 = true) (x1 : Int32) (x2 : Int32) (x3 : Int32) (x4 : Int32) (x5 : Int32) (s0 : Int32) : eqQ S ρ h g (f_X11_sign_37 a0 x1 x2 x3 x4 x5 s0 h) (f_X11_sign_37 (ρ a0) x1 x2 x3 x4 x5 s0 g) := by
  rw [f_X11_sign_37, f_X11_sign_37]
  exact e_X11_sign_45 O _ R _ s_a0 _ _ _ _ _ _ _ _
theorem e_X11_sign_36 {S : Nat × Nat → Bool} {ρ : Nat × Nat → Nat × Nat} (O : RhoOk S ρ)  {h g : am_H} (R : eqR S ρ h g) (a0 : Nat × Nat) (s_a0 : S a0 = true) (x1 : Int32) (x2 : Int32) (x3 : Int32) (x4 : Int32) (x5 : Int32) : eqQ S ρ h g (f_X11_sign_36 a0 x1 x2 x3 x4 x5 h) (f_X11_sign_36 (ρ a0) x1 x2 x3 x4 x5 g) := by
  rw [f_X11_sign_36, f_X11_sign_36]
  exact e_X11_sign_37 O R _ s_a0 _ _ _ _ _ _
theorem e_X11_sign {S : Nat × Nat → Bool} {ρ : Nat × Nat → Nat × Nat} (O : RhoOk S ρ)  {h g : am_H} (R : eqR S ρ h g) (a0 : Nat × Nat) (s_a0 : S a0 = true) (x1 : Int32) (x2 : Int32) (x3 : Int32) (x4 : Int32) : eqQ S ρ h g (f_X11_sign a0 x1 x2 x3 x4 h) (f_X11_sign (ρ a0) x1 x2 x3 x4 g) := by
  rw [f_X11_sign, f_X11_sign]
  refine q_bI (e_X11_isPerson O R _) (fun h1 gh1 v2 R => ?_)
  refine q_gI O R (okp_s s_a0) (fun v3 => ?_)
  refine q_ite (fun _ => ?_) (fun _ => ?_)
  · refine q_gI O R (okp_s s_a0) (fun v4 => ?_)
    refine q_ite (fun _ => ?_) (fun _ => ?_)
    · refine q_ite (fun _ => ?_) (fun _ => ?_)
      · exact e_X11_sign_37 O R _ s_a0 _ _ _ _ _ _
      · exact e_X11_sign_36 O R _ s_a0 _ _ _ _ _
    · exact e_X11_sign_36 O R _ s_a0 _ _ _ _ _
  · exact e_X11_sign_36 O R _ s_a0 _ _ _ _ _
theorem e_X11_subscribe_146 {S : Nat × Nat → Bool} {ρ : Nat × Nat → Nat × Nat} (O : RhoOk S ρ)  {h g : am_H} (R : eqR S ρ h g) (s0 : Int32) : eqQ S ρ h g (f_X11_subscribe_146 s0 h) (f_X11_subscribe_146 s0 g) := by
  rw [f_X11_subscribe_146, f_X11_subscribe_146]
  exact q_rz R
theorem e_X11_subscribe_135 {S : Nat × Nat → Bool} {ρ : Nat × Nat → Nat × Nat} (O : RhoOk S ρ)  {h g : am_H} (R : eqR S ρ h g) (x5 : Int32) : eqQ S ρ h g (f_X11_subscribe_135 x5 h) (f_X11_subscribe_135 x5 g) := by
  rw [f_X11_subscribe_135, f_X11_subscribe_135]
  refine q_ite (fun _ => ?_) (fun _ => ?_)
  · exact e_X11_subscribe_146 O R _
  · exact e_X11_subscribe_146 O R _
theorem e_X11_subscribe_114 {S : Nat × Nat → Bool} {ρ : Nat × Nat → Nat × Nat} (O : RhoOk S ρ)  {h g : am_H} (R : eqR S ρ h g) (a0 : Nat × Nat) (s_a0 : S a0 = true) (x1 : Int32) (x3 : Int32) (x5 : Int32) : eqQ S ρ h g (f_X11_subscribe_114 a0 x1 x3 x5 h) (f_X11_subscribe_114 (ρ a0) x1 x3 x5 g) := by
  rw [f_X11_subscribe_114, f_X11_subscribe_114]
  refine q_ite (fun _ => ?_) (fun _ => ?_)
  · refine q_gR O R (okp_s s_a0) (fun o18 p_o18 => ?_)
    refine q_gI O R (okp_s s_a0) (fun v19 => ?_)
    refine q_sI O R p_o18 (fun h20 gh20 R => ?_)
    exact e_X11_subscribe_135 O R _
  · exact e_X11_subscribe_135 O R _
theorem e_X11_subscribe_84 {S : Nat × Nat → Bool} {ρ : Nat × Nat → Nat × Nat} (O : RhoOk S ρ)  {h g : am_H} (R : eqR S ρ h g) (a0 : Nat × Nat) (s_a0 : S a0 = true) (x1 : Int32) (x2 : Int32) (x3 : Int32) (s0 : Int32) : eqQ S ρ h g (f_X11_subscribe_84 a0 x1 x2 x3 s0 h) (f_X11_subscribe_84 (ρ a0) x1 x2 x3 s0 g) := by
  rw [f_X11_subscribe_84, f_X11_subscribe_84]
  refine q_ite (fun _ => ?_) (fun _ => ?_)
  · refine q_ite (fun _ => ?_) (fun _ => ?_)
    · exact e_X11_subscribe_114 O R _ s_a0 _ _ _
    · refine q_gR O R (okp_s s_a0) (fun o15 p_o15 => ?_)
      refine q_gI O R (okp_s s_a0) (fun v16 => ?_)
      refine q_sI O R p_o15 (fun h17 gh17 R => ?_)
      exact e_X11_subscribe_135 O R _
  · exact e_X11_subscribe_114 O R _ s_a0 _ _ _
theorem e_X11_subscribe_47 {S : Nat × Nat → Bool} {ρ : Nat × Nat → Nat × Nat} (O : RhoOk S ρ)  {h g : am_H} (R : eqR S ρ h g) (a0 : Nat × Nat) (s_a0 : S a0 = true) (x1 : Int32) (x2 : Int32) (x3 : Int32) (s0 : Int32) (s1 : Option (Nat × Nat)) (p_s1 : okp S s1) : eqQ S ρ h g (f_X11_subscribe_47 a0 x1 x2 x3 s0 s1 h) (f_X11_subscribe_47 (ρ a0) x1 x2 x3 s0 (s1.map ρ) g) := by
  rw [f_X11_subscribe_47, f_X11_subscribe_47]
  refine q_ao O p_s1 (fun a10 s_a10 => ?_)
  refine q_bI (e_X11_holds O R _ s_a10 _) (fun h8 gh8 v9 R => ?_)
  refine q_ite (fun _ => ?_) (fun _ => ?_)
  · exact q_rz R
  · refine q_ite (fun _ => ?_) (fun _ => ?_)
    · refine q_gR O R (okp_s s_a0) (fun o11 p_o11 => ?_)
      refine q_aI O R p_o11 (fun v12 => ?_)
      exact e_X11_subscribe_84 O R _ s_a0 _ _ _ _
    · refine q_gR O R (okp_s s_a0) (fun o13 p_o13 => ?_)
      refine q_aI O R p_o13 (fun v14 => ?_)
      exact e_X11_subscribe_84 O R _ s_a0 _ _ _ _
theorem e_X11_subscribe_34 {S : Nat × Nat → Bool} {ρ : Nat × Nat → Nat × Nat} (O : RhoOk S ρ)  {h g : am_H} (R : eqR S ρ h g) (a0 : Nat × Nat) (s_a0 : S a0 = true) (x1 : Int32) (x2 : Int32) (x3 : Int32) (s0 : Int32) : eqQ S ρ h g (f_X11_subscribe_34 a0 x1 x2 x3 s0 h) (f_X11_subscribe_34 (ρ a0) x1 x2 x3 s0 g) := by
  rw [f_X11_subscribe_34, f_X11_subscribe_34]
  refine q_ite (fun _ => ?_) (fun _ => ?_)
  · exact e_X11_subscribe_47 O R _ s_a0 _ _ _ _ _ (okp_s s_a0)
  · exact e_X11_subscribe_47 O R _ s_a0 _ _ _ _ _ (okp_s s_a0)
theorem e_X11_subscribe_33 {S : Nat × Nat → Bool} {ρ : Nat × Nat → Nat × Nat} (O : RhoOk S ρ)  {h g : am_H} (R : eqR S ρ h g) (a0 : Nat × Nat) (s_a0 : S a0 = true) (x1 : Int32) (x2 : Int32) (x3 : Int32) : eqQ S ρ h g (f_X11_subscribe_33 a0 x1 x2 x3 h) (f_X11_subscribe_33 (ρ a0) x1 x2 x3 g) := by
  rw [f_X11_subscribe_33, f_X11_subscribe_33]
  exact e_X11_subscribe_34 O R _ s_a0 _ _ _ _
theorem e_X11_subscribe_29 {S : Nat × Nat → Bool} {ρ : Nat × Nat → Nat × Nat} (O : RhoOk S ρ)  {h g : am_H} (R : eqR S ρ h g) (a0 : Nat × Nat) (s_a0 : S a0 = true) (x1 : Int32) (x2 : Int32) (x3 : Int32) : eqQ S ρ h g (f_X11_subscribe_29 a0 x1 x2 x3 h) (f_X11_subscribe_29 (ρ a0) x1 x2 x3 g) := by
  rw [f_X11_subscribe_29, f_X11_subscribe_29]
  exact e_X11_subscribe_34 O R _ s_a0 _ _ _ _
theorem e_X11_subscribe {S : Nat × Nat → Bool} {ρ : Nat × Nat → Nat × Nat} (O : RhoOk S ρ)  {h g : am_H} (R : eqR S ρ h g) (a0 : Nat × Nat) (s_a0 : S a0 = true) (x1 : Int32) (x2 : Int32) (x3 : Int32) : eqQ S ρ h g (f_X11_subscribe a0 x1 x2 x3 h) (f_X11_subscribe (ρ a0) x1 x2 x3 g) := by
  rw [f_X11_subscribe, f_X11_subscribe]
  refine q_bI (e_X11_isPerson O R _) (fun h1 gh1 v2 R => ?_)
  refine q_ite (fun _ => ?_) (fun _ => ?_)
  · exact e_X11_subscribe_33 O R _ s_a0 _ _ _
  · refine q_ite (fun _ => ?_) (fun _ => ?_)
    · refine q_ao O (okp_s s_a0) (fun a5 s_a5 => ?_)
      refine q_bI (e_X11_isWork O R _ s_a5 _) (fun h3 gh3 v4 R => ?_)
      refine q_ite (fun _ => ?_) (fun _ => ?_)
      · exact e_X11_subscribe_33 O R _ s_a0 _ _ _
      · exact e_X11_subscribe_29 O R _ s_a0 _ _ _
    · refine q_bI (e_X11_isPerson O R _) (fun h6 gh6 v7 R => ?_)
      refine q_ite (fun _ => ?_) (fun _ => ?_)
      · exact e_X11_subscribe_33 O R _ s_a0 _ _ _
      · exact e_X11_subscribe_29 O R _ s_a0 _ _ _
theorem e_X11_tag_15 {S : Nat × Nat → Bool} {ρ : Nat × Nat → Nat × Nat} (O : RhoOk S ρ)  {h g : am_H} (R : eqR S ρ h g) (a0 : Nat × Nat) (s_a0 : S a0 = true) (s0 : Int32) (s1 : Option (Nat × Nat)) (p_s1 : okp S s1) : eqQ S ρ h g (f_X11_tag_15 a0 s0 s1 h) (f_X11_tag_15 (ρ a0) s0 (s1.map ρ) g) := by
  rw [f_X11_tag_15, f_X11_tag_15]
  refine q_ao O p_s1 (fun a4 s_a4 => ?_)
  refine q_bI (e_X11_holds O R _ s_a4 _) (fun h2 gh2 v3 R => ?_)
  refine q_ite (fun _ => ?_) (fun _ => ?_)
  · exact q_ri R
  · refine q_gI O R (okp_s s_a0) (fun v5 => ?_)
    refine q_pI O R (okp_s s_a0) (fun h6 gh6 R => ?_)
    refine q_gI O R (okp_s s_a0) (fun v7 => ?_)
    exact q_ri R
theorem e_X11_tag {S : Nat × Nat → Bool} {ρ : Nat × Nat → Nat × Nat} (O : RhoOk S ρ)  {h g : am_H} (R : eqR S ρ h g) (a0 : Nat × Nat) (s_a0 : S a0 = true) : eqQ S ρ h g (f_X11_tag a0 h) (f_X11_tag (ρ a0) g) := by
  rw [f_X11_tag, f_X11_tag]
  refine q_gI O R (okp_s s_a0) (fun v1 => ?_)
  refine q_ite (fun _ => ?_) (fun _ => ?_)
  · exact e_X11_tag_15 O R _ s_a0 _ _ (okp_s s_a0)
  · exact e_X11_tag_15 O R _ s_a0 _ _ (okp_s s_a0)
theorem e_X11_thrown {S : Nat × Nat → Bool} {ρ : Nat × Nat → Nat × Nat} (O : RhoOk S ρ)  {h g : am_H} (R : eqR S ρ h g) (a0 : Nat × Nat) (s_a0 : S a0 = true) : eqQ S ρ h g (f_X11_thrown a0 h) (f_X11_thrown (ρ a0) g) := by
  rw [f_X11_thrown, f_X11_thrown]
  refine q_gI O R (okp_s s_a0) (fun v1 => ?_)
  exact q_ri R
theorem e_X11_canBe_60 {S : Nat × Nat → Bool} {ρ : Nat × Nat → Nat × Nat} (O : RhoOk S ρ)  {h g : am_H} (R : eqR S ρ h g) (s0 : Int32) : eqQ S ρ h g (f_X11_canBe_60 s0 h) (f_X11_canBe_60 s0 g) := by
  rw [f_X11_canBe_60, f_X11_canBe_60]
  exact q_rz R
theorem e_X11_canBe_55 {S : Nat × Nat → Bool} {ρ : Nat × Nat → Nat × Nat} (O : RhoOk S ρ)  {h g : am_H} (R : eqR S ρ h g)  : eqQ S ρ h g (f_X11_canBe_55  h) (f_X11_canBe_55  g) := by
  unfold f_X11_canBe_55
  exact e_X11_canBe_60 O R _
theorem e_X11_canBe {S : Nat × Nat → Bool} {ρ : Nat × Nat → Nat × Nat} (O : RhoOk S ρ)  {h g : am_H} (R : eqR S ρ h g) (x0 : Int32) : eqQ S ρ h g (f_X11_canBe x0 h) (f_X11_canBe x0 g) := by
  rw [f_X11_canBe, f_X11_canBe]
  refine q_bI (e_X11_isFigure O R _) (fun h1 gh1 v2 R => ?_)
  refine q_ite (fun _ => ?_) (fun _ => ?_)
  · refine q_ite (fun _ => ?_) (fun _ => ?_)
    · exact e_X11_canBe_55 O R
    · refine q_ite (fun _ => ?_) (fun _ => ?_)
      · exact e_X11_canBe_55 O R
      · refine q_ite (fun _ => ?_) (fun _ => ?_)
        · exact e_X11_canBe_55 O R
        · refine q_ite (fun _ => ?_) (fun _ => ?_)
          · exact e_X11_canBe_55 O R
          · refine q_ite (fun _ => ?_) (fun _ => ?_)
            · exact e_X11_canBe_55 O R
            · refine q_ite (fun _ => ?_) (fun _ => ?_)
              · exact e_X11_canBe_55 O R
              · refine q_ite (fun _ => ?_) (fun _ => ?_)
                · exact e_X11_canBe_55 O R
                · refine q_ite (fun _ => ?_) (fun _ => ?_)
                  · exact e_X11_canBe_55 O R
                  · exact e_X11_canBe_60 O R _
  · exact e_X11_canBe_55 O R
theorem e_X11_type_83 {S : Nat × Nat → Bool} {ρ : Nat × Nat → Nat × Nat} (O : RhoOk S ρ)  : ∀ (n : Nat) {h g : am_H} (_ : eqR S ρ h g) (a0 : Nat × Nat) (s_a0 : S a0 = true) (x1 : Int64) (x3 : Int32) (x5 : Int32), eqQ S ρ h g (f_X11_type_83 n a0 x1 x3 x5 h) (f_X11_type_83 n (ρ a0) x1 x3 x5 g) := by
  intro n
  induction n with
  | zero => intros; exact q_none
  | succ n ih =>
    intro h g R a0 s_a0 x1 x3 x5
    rw [f_X11_type_83, f_X11_type_83]
    refine q_ite (fun _ => ?_) (fun _ => ?_)
    · refine q_gI O R (okp_s s_a0) (fun v9 => ?_)
      exact q_ri R
    · refine q_gR O R (okp_s s_a0) (fun o10 p_o10 => ?_)
      refine q_gI O R (okp_s s_a0) (fun v11 => ?_)
      refine q_sI O R p_o10 (fun h12 gh12 R => ?_)
      refine q_gI O R (okp_s s_a0) (fun v13 => ?_)
      refine q_pI O R (okp_s s_a0) (fun h14 gh14 R => ?_)
      exact ih R _ s_a0 _ _ _
theorem e_X11_type_72 {S : Nat × Nat → Bool} {ρ : Nat × Nat → Nat × Nat} (O : RhoOk S ρ)  {h g : am_H} (R : eqR S ρ h g) (a0 : Nat × Nat) (s_a0 : S a0 = true) (x1 : Int64) (x3 : Int32) (s0 : Int32) (s1 : Option (Nat × Nat)) (p_s1 : okp S s1) : eqQ S ρ h g (f_X11_type_72 a0 x1 x3 s0 s1 h) (f_X11_type_72 (ρ a0) x1 x3 s0 (s1.map ρ) g) := by
  rw [f_X11_type_72, f_X11_type_72]
  refine q_ao O p_s1 (fun a8 s_a8 => ?_)
  refine q_bI (e_X11_holds O R _ s_a8 _) (fun h6 gh6 v7 R => ?_)
  refine q_ite (fun _ => ?_) (fun _ => ?_)
  · exact q_ri R
  · exact e_X11_type_83 O _ R _ s_a0 _ _ _
theorem e_X11_type_46 {S : Nat × Nat → Bool} {ρ : Nat × Nat → Nat × Nat} (O : RhoOk S ρ)  {h g : am_H} (R : eqR S ρ h g) (a0 : Nat × Nat) (s_a0 : S a0 = true) (x1 : Int64) (x3 : Int32) (x4 : Int32) : eqQ S ρ h g (f_X11_type_46 a0 x1 x3 x4 h) (f_X11_type_46 (ρ a0) x1 x3 x4 g) := by
  rw [f_X11_type_46, f_X11_type_46]
  refine q_ite (fun _ => ?_) (fun _ => ?_)
  · exact e_X11_type_72 O R _ s_a0 _ _ _ _ (okp_s s_a0)
  · refine q_gI O R (okp_s s_a0) (fun v5 => ?_)
    refine q_ite (fun _ => ?_) (fun _ => ?_)
    · exact e_X11_type_72 O R _ s_a0 _ _ _ _ (okp_s s_a0)
    · exact e_X11_type_72 O R _ s_a0 _ _ _ _ (okp_s s_a0)
theorem e_X11_type_12 {S : Nat × Nat → Bool} {ρ : Nat × Nat → Nat × Nat} (O : RhoOk S ρ)  : ∀ (n : Nat) {h g : am_H} (_ : eqR S ρ h g) (a0 : Nat × Nat) (s_a0 : S a0 = true) (x1 : Int64) (x3 : Int32) (x4 : Int32) (x5 : Int32), eqQ S ρ h g (f_X11_type_12 n a0 x1 x3 x4 x5 h) (f_X11_type_12 n (ρ a0) x1 x3 x4 x5 g) := by
  intro n
  induction n with
  | zero => intros; exact q_none
  | succ n ih =>
    intro h g R a0 s_a0 x1 x3 x4 x5
    rw [f_X11_type_12, f_X11_type_12]
    refine q_ite (fun _ => ?_) (fun _ => ?_)
    · exact e_X11_type_46 O R _ s_a0 _ _ _
    · refine q_ite (fun _ => ?_) (fun _ => ?_)
      · exact e_X11_type_46 O R _ s_a0 _ _ _
      · refine q_bI (e_X11_canBe O R _) (fun h3 gh3 v4 R => ?_)
        exact ih R _ s_a0 _ _ _ _
theorem e_X11_type {S : Nat × Nat → Bool} {ρ : Nat × Nat → Nat × Nat} (O : RhoOk S ρ)  {h g : am_H} (R : eqR S ρ h g) (a0 : Nat × Nat) (s_a0 : S a0 = true) (x1 : Int64) (x3 : Int32) : eqQ S ρ h g (f_X11_type a0 x1 x3 h) (f_X11_type (ρ a0) x1 x3 g) := by
  rw [f_X11_type, f_X11_type]
  refine q_bI (e_X11_in O R _ _ _) (fun h1 gh1 v2 R => ?_)
  exact e_X11_type_12 O _ R _ s_a0 _ _ _ _
theorem e_X11_under_40 {S : Nat × Nat → Bool} {ρ : Nat × Nat → Nat × Nat} (O : RhoOk S ρ)  {h g : am_H} (R : eqR S ρ h g) (s0 : Int32) : eqQ S ρ h g (f_X11_under_40 s0 h) (f_X11_under_40 s0 g) := by
  rw [f_X11_under_40, f_X11_under_40]
  exact q_ri R
theorem e_X11_under_14 {S : Nat × Nat → Bool} {ρ : Nat × Nat → Nat × Nat} (O : RhoOk S ρ)  {h g : am_H} (R : eqR S ρ h g) (a0 : Nat × Nat) (s_a0 : S a0 = true) (x1 : Int32) (x2 : Int32) (s0 : Int32) (s1 : Option (Nat × Nat)) (p_s1 : okp S s1) : eqQ S ρ h g (f_X11_under_14 a0 x1 x2 s0 s1 h) (f_X11_under_14 (ρ a0) x1 x2 s0 (s1.map ρ) g) := by
  rw [f_X11_under_14, f_X11_under_14]
  refine q_ao O p_s1 (fun a6 s_a6 => ?_)
  refine q_bI (e_X11_holds O R _ s_a6 _) (fun h4 gh4 v5 R => ?_)
  refine q_ite (fun _ => ?_) (fun _ => ?_)
  · exact q_ri R
  · refine q_ite (fun _ => ?_) (fun _ => ?_)
    · refine q_gR O R (okp_s s_a0) (fun o7 p_o7 => ?_)
      refine q_aI O R p_o7 (fun v8 => ?_)
      exact e_X11_under_40 O R _
    · refine q_ao O (okp_s s_a0) (fun a11 s_a11 => ?_)
      refine q_bI (e_X11_belongs O R _ s_a11 _) (fun h9 gh9 v10 R => ?_)
      exact e_X11_under_40 O R _
theorem e_X11_under {S : Nat × Nat → Bool} {ρ : Nat × Nat → Nat × Nat} (O : RhoOk S ρ)  {h g : am_H} (R : eqR S ρ h g) (a0 : Nat × Nat) (s_a0 : S a0 = true) (x1 : Int32) (x2 : Int32) : eqQ S ρ h g (f_X11_under a0 x1 x2 h) (f_X11_under (ρ a0) x1 x2 g) := by
  rw [f_X11_under, f_X11_under]
  refine q_ao O (okp_s s_a0) (fun a3 s_a3 => ?_)
  refine q_bI (e_X11_isWork O R _ s_a3 _) (fun h1 gh1 v2 R => ?_)
  refine q_ite (fun _ => ?_) (fun _ => ?_)
  · exact e_X11_under_14 O R _ s_a0 _ _ _ _ (okp_s s_a0)
  · exact e_X11_under_14 O R _ s_a0 _ _ _ _ (okp_s s_a0)
theorem e_X11_waiting_34 {S : Nat × Nat → Bool} {ρ : Nat × Nat → Nat × Nat} (O : RhoOk S ρ) {rc9 : Nat × Nat → Int32 → Int32 → am_H → am_R} (hrc9 : ∀ {h g : am_H} (_ : eqR S ρ h g) (y0 : Nat × Nat) (s_y0 : S y0 = true) (y1 : Int32) (y2 : Int32), eqQ S ρ h g (rc9 y0 y1 y2 h) (rc9 (ρ y0) y1 y2 g)) {h g : am_H} (R : eqR S ρ h g) (a0 : Nat × Nat) (s_a0 : S a0 = true) (x2 : Int32) (s0 : Int32) (s1 : Int32) : eqQ S ρ h g (f_X11_waiting_34 rc9 a0 x2 s0 s1 h) (f_X11_waiting_34 rc9 (ρ a0) x2 s0 s1 g) := by
  rw [f_X11_waiting_34, f_X11_waiting_34]
  exact hrc9 R _ s_a0 _ _
theorem e_X11_waiting_9 {S : Nat × Nat → Bool} {ρ : Nat × Nat → Nat × Nat} (O : RhoOk S ρ)  : ∀ (n : Nat) {h g : am_H} (_ : eqR S ρ h g) (a0 : Nat × Nat) (s_a0 : S a0 = true) (x1 : Int32) (x2 : Int32), eqQ S ρ h g (f_X11_waiting_9 n a0 x1 x2 h) (f_X11_waiting_9 n (ρ a0) x1 x2 g) := by
  intro n
  induction n with
  | zero => intros; exact q_none
  | succ n ih =>
    intro h g R a0 s_a0 x1 x2
    rw [f_X11_waiting_9, f_X11_waiting_9]
    refine q_gI O R (okp_s s_a0) (fun v2 => ?_)
    refine q_ite (fun _ => ?_) (fun _ => ?_)
    · exact q_ri R
    · refine q_gR O R (okp_s s_a0) (fun o3 p_o3 => ?_)
      refine q_aI O R p_o3 (fun v4 => ?_)
      refine q_ite (fun _ => ?_) (fun _ => ?_)
      · exact e_X11_waiting_34 O ih R _ s_a0 _ _ _
      · exact e_X11_waiting_34 O ih R _ s_a0 _ _ _
theorem e_X11_waiting {S : Nat × Nat → Bool} {ρ : Nat × Nat → Nat × Nat} (O : RhoOk S ρ)  {h g : am_H} (R : eqR S ρ h g) (a0 : Nat × Nat) (s_a0 : S a0 = true) : eqQ S ρ h g (f_X11_waiting a0 h) (f_X11_waiting (ρ a0) g) := by
  rw [f_X11_waiting, f_X11_waiting]
  refine q_pI O R (okp_s s_a0) (fun h1 gh1 R => ?_)
  exact e_X11_waiting_9 O _ R _ s_a0 _ _
theorem e_X11_wave_64 {S : Nat × Nat → Bool} {ρ : Nat × Nat → Nat × Nat} (O : RhoOk S ρ)  {h g : am_H} (R : eqR S ρ h g) (x2 : Int32) : eqQ S ρ h g (f_X11_wave_64 x2 h) (f_X11_wave_64 x2 g) := by
  rw [f_X11_wave_64, f_X11_wave_64]
  exact q_ri R
theorem e_X11_wave_58 {S : Nat × Nat → Bool} {ρ : Nat × Nat → Nat × Nat} (O : RhoOk S ρ) {rc28 : Nat × Nat → Int32 → Int32 → Int32 → am_H → am_R} (hrc28 : ∀ {h g : am_H} (_ : eqR S ρ h g) (y0 : Nat × Nat) (s_y0 : S y0 = true) (y1 : Int32) (y2 : Int32) (y3 : Int32), eqQ S ρ h g (rc28 y0 y1 y2 y3 h) (rc28 (ρ y0) y1 y2 y3 g)) {h g : am_H} (R : eqR S ρ h g) (a0 : Nat × Nat) (s_a0 : S a0 = true) (x1 : Int32) (x2 : Int32) (x3 : Int32) : eqQ S ρ h g (f_X11_wave_58 rc28 a0 x1 x2 x3 h) (f_X11_wave_58 rc28 (ρ a0) x1 x2 x3 g) := by
  rw [f_X11_wave_58, f_X11_wave_58]
  exact hrc28 R _ s_a0 _ _ _
theorem e_X11_wave_28 {S : Nat × Nat → Bool} {ρ : Nat × Nat → Nat × Nat} (O : RhoOk S ρ)  : ∀ (n : Nat) {h g : am_H} (_ : eqR S ρ h g) (a0 : Nat × Nat) (s_a0 : S a0 = true) (x1 : Int32) (x2 : Int32) (x3 : Int32), eqQ S ρ h g (f_X11_wave_28 n a0 x1 x2 x3 h) (f_X11_wave_28 n (ρ a0) x1 x2 x3 g) := by
  intro n
  induction n with
  | zero => intros; exact q_none
  | succ n ih =>
    intro h g R a0 s_a0 x1 x2 x3
    rw [f_X11_wave_28, f_X11_wave_28]
    refine q_gI O R (okp_s s_a0) (fun v6 => ?_)
    refine q_ite (fun _ => ?_) (fun _ => ?_)
    · exact e_X11_wave_64 O R _
    · refine q_ite (fun _ => ?_) (fun _ => ?_)
      · exact e_X11_wave_64 O R _
      · refine q_gR O R (okp_s s_a0) (fun o7 p_o7 => ?_)
        refine q_aI O R p_o7 (fun v8 => ?_)
        refine q_ite (fun _ => ?_) (fun _ => ?_)
        · exact e_X11_wave_58 O ih R _ s_a0 _ _ _
        · refine q_ao O (okp_s s_a0) (fun a11 s_a11 => ?_)
          refine q_bV (e_X11_files O R _ s_a11 _) (fun h9 gh9 R => ?_)
          exact e_X11_wave_58 O ih R _ s_a0 _ _ _
theorem e_X11_wave_16 {S : Nat × Nat → Bool} {ρ : Nat × Nat → Nat × Nat} (O : RhoOk S ρ)  {h g : am_H} (R : eqR S ρ h g) (a0 : Nat × Nat) (s_a0 : S a0 = true) (x1 : Int32) (s0 : Int32) (s1 : Option (Nat × Nat)) (p_s1 : okp S s1) : eqQ S ρ h g (f_X11_wave_16 a0 x1 s0 s1 h) (f_X11_wave_16 (ρ a0) x1 s0 (s1.map ρ) g) := by
  rw [f_X11_wave_16, f_X11_wave_16]
  refine q_ao O p_s1 (fun a5 s_a5 => ?_)
  refine q_bI (e_X11_holds O R _ s_a5 _) (fun h3 gh3 v4 R => ?_)
  refine q_ite (fun _ => ?_) (fun _ => ?_)
  · exact q_ri R
  · exact e_X11_wave_28 O _ R _ s_a0 _ _ _
theorem e_X11_wave {S : Nat × Nat → Bool} {ρ : Nat × Nat → Nat × Nat} (O : RhoOk S ρ)  {h g : am_H} (R : eqR S ρ h g) (a0 : Nat × Nat) (s_a0 : S a0 = true) (x1 : Int32) : eqQ S ρ h g (f_X11_wave a0 x1 h) (f_X11_wave (ρ a0) x1 g) := by
  rw [f_X11_wave, f_X11_wave]
  refine q_bI (e_X11_in O R _ _ _) (fun h1 gh1 v2 R => ?_)
  refine q_ite (fun _ => ?_) (fun _ => ?_)
  · exact e_X11_wave_16 O R _ s_a0 _ _ _ (okp_s s_a0)
  · exact e_X11_wave_16 O R _ s_a0 _ _ _ (okp_s s_a0)
theorem e_X11_wipe {S : Nat × Nat → Bool} {ρ : Nat × Nat → Nat × Nat} (O : RhoOk S ρ)  {h g : am_H} (R : eqR S ρ h g) (a0 : Nat × Nat) (s_a0 : S a0 = true) : eqQ S ρ h g (f_X11_wipe a0 h) (f_X11_wipe (ρ a0) g) := by
  rw [f_X11_wipe, f_X11_wipe]
  refine q_pI O R (okp_s s_a0) (fun h1 gh1 R => ?_)
  refine q_gI O R (okp_s s_a0) (fun v2 => ?_)
  refine q_pI O R (okp_s s_a0) (fun h3 gh3 R => ?_)
  exact q_ri R
theorem e_X11_work_39 {S : Nat × Nat → Bool} {ρ : Nat × Nat → Nat × Nat} (O : RhoOk S ρ)  {h g : am_H} (R : eqR S ρ h g) (a0 : Nat × Nat) (s_a0 : S a0 = true) (x1 : Int32) (x2 : Int32) (s0 : Int32) (s1 : Option (Nat × Nat)) (p_s1 : okp S s1) : eqQ S ρ h g (f_X11_work_39 a0 x1 x2 s0 s1 h) (f_X11_work_39 (ρ a0) x1 x2 s0 (s1.map ρ) g) := by
  rw [f_X11_work_39, f_X11_work_39]
  refine q_ao O p_s1 (fun a8 s_a8 => ?_)
  refine q_bI (e_X11_holds O R _ s_a8 _) (fun h6 gh6 v7 R => ?_)
  refine q_ite (fun _ => ?_) (fun _ => ?_)
  · exact q_ri R
  · refine q_gR O R (okp_s s_a0) (fun o9 p_o9 => ?_)
    refine q_gI O R (okp_s s_a0) (fun v10 => ?_)
    refine q_sI O R p_o9 (fun h11 gh11 R => ?_)
    refine q_gR O R (okp_s s_a0) (fun o12 p_o12 => ?_)
    refine q_gI O R (okp_s s_a0) (fun v13 => ?_)
    refine q_sI O R p_o12 (fun h14 gh14 R => ?_)
    refine q_gR O R (okp_s s_a0) (fun o15 p_o15 => ?_)
    refine q_gI O R (okp_s s_a0) (fun v16 => ?_)
    refine q_sI O R p_o15 (fun h17 gh17 R => ?_)
    refine q_gR O R (okp_s s_a0) (fun o18 p_o18 => ?_)
    refine q_gI O R (okp_s s_a0) (fun v19 => ?_)
    refine q_sI O R p_o18 (fun h20 gh20 R => ?_)
    refine q_gI O R (okp_s s_a0) (fun v21 => ?_)
    refine q_pI O R (okp_s s_a0) (fun h22 gh22 R => ?_)
    refine q_gI O R (okp_s s_a0) (fun v23 => ?_)
    exact q_ri R
theorem e_X11_work {S : Nat × Nat → Bool} {ρ : Nat × Nat → Nat × Nat} (O : RhoOk S ρ)  {h g : am_H} (R : eqR S ρ h g) (a0 : Nat × Nat) (s_a0 : S a0 = true) (x1 : Int32) (x2 : Int32) : eqQ S ρ h g (f_X11_work a0 x1 x2 h) (f_X11_work (ρ a0) x1 x2 g) := by
  rw [f_X11_work, f_X11_work]
  refine q_bI (e_X11_isPerson O R _) (fun h1 gh1 v2 R => ?_)
  refine q_ite (fun _ => ?_) (fun _ => ?_)
  · exact e_X11_work_39 O R _ s_a0 _ _ _ _ (okp_s s_a0)
  · refine q_bI (e_X11_in O R _ _ _) (fun h3 gh3 v4 R => ?_)
    refine q_ite (fun _ => ?_) (fun _ => ?_)
    · exact e_X11_work_39 O R _ s_a0 _ _ _ _ (okp_s s_a0)
    · refine q_gI O R (okp_s s_a0) (fun v5 => ?_)
      refine q_ite (fun _ => ?_) (fun _ => ?_)
      · exact e_X11_work_39 O R _ s_a0 _ _ _ _ (okp_s s_a0)
      · exact e_X11_work_39 O R _ s_a0 _ _ _ _ (okp_s s_a0)
