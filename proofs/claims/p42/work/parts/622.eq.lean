theorem e_X11_match_39 {S : Nat × Nat → Bool} {ρ : Nat × Nat → Nat × Nat} (O : RhoOk S ρ)  : ∀ (n : Nat) {h g : am_H} (_ : eqR S ρ h g) (a0 : Nat × Nat) (s_a0 : S a0 = true) (x1 : Int32) (x2 : Int32) (x3 : Int32) (x4 : Int32), eqQ S ρ h g (f_X11_match_39 n a0 x1 x2 x3 x4 h) (f_X11_match_39 n (ρ a0) x1 x2 x3 x4 g) := by
  intro n
  induction n with
  | zero => intros; exact q_none
  | succ n ih =>
    intro h g R a0 s_a0 x1 x2 x3 x4
    rw [f_X11_match_39, f_X11_match_39]
    refine q_ite (fun _ => ?_) (fun _ => ?_)
    · exact e_X11_match_133 O R _
    · refine q_gR O R (okp_s s_a0) (fun o10 p_o10 => ?_)
      refine q_aI O R p_o10 (fun v11 => ?_)
      refine q_ite (fun _ => ?_) (fun _ => ?_)
      · exact e_X11_match_133 O R _
      · refine q_gI O R (okp_s s_a0) (fun v12 => ?_)
        exact e_X11_match_64 O ih _ R _ s_a0 _ _ _ _ _
theorem e_X11_match_20 {S : Nat × Nat → Bool} {ρ : Nat × Nat → Nat × Nat} (O : RhoOk S ρ)  {h g : am_H} (R : eqR S ρ h g) (a0 : Nat × Nat) (s_a0 : S a0 = true) (x1 : Int32) (s0 : Int32) (s1 : Option (Nat × Nat)) (p_s1 : okp S s1) : eqQ S ρ h g (f_X11_match_20 a0 x1 s0 s1 h) (f_X11_match_20 (ρ a0) x1 s0 (s1.map ρ) g) := by
  rw [f_X11_match_20, f_X11_match_20]
  refine q_ao O p_s1 (fun a6 s_a6 => ?_)
  refine q_bI (e_X11_holds O R _ s_a6 _) (fun h4 gh4 v5 R => ?_)
  refine q_ite (fun _ => ?_) (fun _ => ?_)
  · exact q_ri R
  · refine q_ao O (okp_s s_a0) (fun a9 s_a9 => ?_)
    refine q_bV (e_X11_counts O R _ s_a9) (fun h7 gh7 R => ?_)
    exact e_X11_match_39 O _ R _ s_a0 _ _ _ _
theorem e_X11_match {S : Nat × Nat → Bool} {ρ : Nat × Nat → Nat × Nat} (O : RhoOk S ρ)  {h g : am_H} (R : eqR S ρ h g) (a0 : Nat × Nat) (s_a0 : S a0 = true) (x1 : Int32) : eqQ S ρ h g (f_X11_match a0 x1 h) (f_X11_match (ρ a0) x1 g) := by
  rw [f_X11_match, f_X11_match]
  refine q_gI O R (okp_s s_a0) (fun v1 => ?_)
  refine q_bI (e_X11_in O R _ _ _) (fun h2 gh2 v3 R => ?_)
  refine q_ite (fun _ => ?_) (fun _ => ?_)
  · exact e_X11_match_20 O R _ s_a0 _ _ _ (okp_s s_a0)
  · exact e_X11_match_20 O R _ s_a0 _ _ _ (okp_s s_a0)
theorem e_X11_matches {S : Nat × Nat → Bool} {ρ : Nat × Nat → Nat × Nat} (O : RhoOk S ρ)  {h g : am_H} (R : eqR S ρ h g) (a0 : Nat × Nat) (s_a0 : S a0 = true) : eqQ S ρ h g (f_X11_matches a0 h) (f_X11_matches (ρ a0) g) := by
  rw [f_X11_matches, f_X11_matches]
  refine q_pI O R (okp_s s_a0) (fun h1 gh1 R => ?_)
  refine q_ao O (okp_s s_a0) (fun a4 s_a4 => ?_)
  refine q_bV (e_X11_counts O R _ s_a4) (fun h2 gh2 R => ?_)
  refine q_gR O R (okp_s s_a0) (fun o5 p_o5 => ?_)
  refine q_aI O R p_o5 (fun v6 => ?_)
  exact q_ri R
theorem e_X11_merge_204 {S : Nat × Nat → Bool} {ρ : Nat × Nat → Nat × Nat} (O : RhoOk S ρ) {rc108 : Nat × Nat → Int32 → Int32 → Int32 → Int32 → am_H → am_R} (hrc108 : ∀ {h g : am_H} (_ : eqR S ρ h g) (y0 : Nat × Nat) (s_y0 : S y0 = true) (y1 : Int32) (y2 : Int32) (y3 : Int32) (y4 : Int32), eqQ S ρ h g (rc108 y0 y1 y2 y3 y4 h) (rc108 (ρ y0) y1 y2 y3 y4 g)) {h g : am_H} (R : eqR S ρ h g) (a0 : Nat × Nat) (s_a0 : S a0 = true) (x1 : Int32) (x2 : Int32) (x4 : Int32) (x5 : Int32) (s0 : Int32) (s1 : Int32) (s2 : Option (Nat × Nat)) (p_s2 : okp S s2) : eqQ S ρ h g (f_X11_merge_204 rc108 a0 x1 x2 x4 x5 s0 s1 s2 h) (f_X11_merge_204 rc108 (ρ a0) x1 x2 x4 x5 s0 s1 (s2.map ρ) g) := by
  rw [f_X11_merge_204, f_X11_merge_204]
  refine q_sI O R p_s2 (fun h52 gh52 R => ?_)
  exact hrc108 R _ s_a0 _ _ _ _
theorem e_X11_merge_156 {S : Nat × Nat → Bool} {ρ : Nat × Nat → Nat × Nat} (O : RhoOk S ρ) {rc108 : Nat × Nat → Int32 → Int32 → Int32 → Int32 → am_H → am_R} (hrc108 : ∀ {h g : am_H} (_ : eqR S ρ h g) (y0 : Nat × Nat) (s_y0 : S y0 = true) (y1 : Int32) (y2 : Int32) (y3 : Int32) (y4 : Int32), eqQ S ρ h g (rc108 y0 y1 y2 y3 y4 h) (rc108 (ρ y0) y1 y2 y3 y4 g)) {h g : am_H} (R : eqR S ρ h g) (a0 : Nat × Nat) (s_a0 : S a0 = true) (x1 : Int32) (x2 : Int32) (x4 : Int32) (x5 : Int32) (s0 : Int32) (s1 : Int32) (s2 : Option (Nat × Nat)) (p_s2 : okp S s2) : eqQ S ρ h g (f_X11_merge_156 rc108 a0 x1 x2 x4 x5 s0 s1 s2 h) (f_X11_merge_156 rc108 (ρ a0) x1 x2 x4 x5 s0 s1 (s2.map ρ) g) := by
  rw [f_X11_merge_156, f_X11_merge_156]
  refine q_sI O R p_s2 (fun h42 gh42 R => ?_)
  refine q_gR O R (okp_s s_a0) (fun o43 p_o43 => ?_)
  refine q_gR O R (okp_s s_a0) (fun o44 p_o44 => ?_)
  refine q_aI O R p_o44 (fun v45 => ?_)
  refine q_bI (e_X11_has O R _ _) (fun h46 gh46 v47 R => ?_)
  refine q_ite (fun _ => ?_) (fun _ => ?_)
  · refine q_gR O R (okp_s s_a0) (fun o48 p_o48 => ?_)
    refine q_aI O R p_o48 (fun v49 => ?_)
    exact e_X11_merge_204 O hrc108 R _ s_a0 _ _ _ _ _ _ _ p_o43
  · refine q_gR O R (okp_s s_a0) (fun o50 p_o50 => ?_)
    refine q_aI O R p_o50 (fun v51 => ?_)
    exact e_X11_merge_204 O hrc108 R _ s_a0 _ _ _ _ _ _ _ p_o43
theorem e_X11_merge_149 {S : Nat × Nat → Bool} {ρ : Nat × Nat → Nat × Nat} (O : RhoOk S ρ) {rc108 : Nat × Nat → Int32 → Int32 → Int32 → Int32 → am_H → am_R} (hrc108 : ∀ {h g : am_H} (_ : eqR S ρ h g) (y0 : Nat × Nat) (s_y0 : S y0 = true) (y1 : Int32) (y2 : Int32) (y3 : Int32) (y4 : Int32), eqQ S ρ h g (rc108 y0 y1 y2 y3 y4 h) (rc108 (ρ y0) y1 y2 y3 y4 g)) {h g : am_H} (R : eqR S ρ h g) (a0 : Nat × Nat) (s_a0 : S a0 = true) (x1 : Int32) (x2 : Int32) (x4 : Int32) (x5 : Int32) (s0 : Int32) (s1 : Option (Nat × Nat)) (p_s1 : okp S s1) : eqQ S ρ h g (f_X11_merge_149 rc108 a0 x1 x2 x4 x5 s0 s1 h) (f_X11_merge_149 rc108 (ρ a0) x1 x2 x4 x5 s0 (s1.map ρ) g) := by
  rw [f_X11_merge_149, f_X11_merge_149]
  refine q_gR O R (okp_s s_a0) (fun o53 p_o53 => ?_)
  refine q_aI O R p_o53 (fun v54 => ?_)
  exact e_X11_merge_156 O hrc108 R _ s_a0 _ _ _ _ _ _ _ p_s1
theorem e_X11_merge_108 {S : Nat × Nat → Bool} {ρ : Nat × Nat → Nat × Nat} (O : RhoOk S ρ)  : ∀ (n : Nat) {h g : am_H} (_ : eqR S ρ h g) (a0 : Nat × Nat) (s_a0 : S a0 = true) (x1 : Int32) (x2 : Int32) (x4 : Int32) (x5 : Int32), eqQ S ρ h g (f_X11_merge_108 n a0 x1 x2 x4 x5 h) (f_X11_merge_108 n (ρ a0) x1 x2 x4 x5 g) := by
  intro n
  induction n with
  | zero => intros; exact q_none
  | succ n ih =>
    intro h g R a0 s_a0 x1 x2 x4 x5
    rw [f_X11_merge_108, f_X11_merge_108]
    refine q_gI O R (okp_s s_a0) (fun v27 => ?_)
    refine q_ite (fun _ => ?_) (fun _ => ?_)
    · refine q_gR O R (okp_s s_a0) (fun o28 p_o28 => ?_)
      refine q_sI O R p_o28 (fun h29 gh29 R => ?_)
      refine q_gR O R (okp_s s_a0) (fun o30 p_o30 => ?_)
      refine q_sI O R p_o30 (fun h31 gh31 R => ?_)
      refine q_gR O R (okp_s s_a0) (fun o32 p_o32 => ?_)
      refine q_sI O R p_o32 (fun h33 gh33 R => ?_)
      refine q_ao O (okp_s s_a0) (fun a36 s_a36 => ?_)
      refine q_bV (e_X11_letsWait O R _ s_a36) (fun h34 gh34 R => ?_)
      exact q_ri R
    · refine q_gR O R (okp_s s_a0) (fun o37 p_o37 => ?_)
      refine q_gR O R (okp_s s_a0) (fun o38 p_o38 => ?_)
      refine q_aI O R p_o38 (fun v39 => ?_)
      refine q_ite (fun _ => ?_) (fun _ => ?_)
      · refine q_gR O R (okp_s s_a0) (fun o40 p_o40 => ?_)
        refine q_aI O R p_o40 (fun v41 => ?_)
        refine q_ite (fun _ => ?_) (fun _ => ?_)
        · exact e_X11_merge_156 O ih R _ s_a0 _ _ _ _ _ _ _ p_o37
        · exact e_X11_merge_149 O ih R _ s_a0 _ _ _ _ _ _ p_o37
      · exact e_X11_merge_149 O ih R _ s_a0 _ _ _ _ _ _ p_o37
theorem e_X11_merge_89 {S : Nat × Nat → Bool} {ρ : Nat × Nat → Nat × Nat} (O : RhoOk S ρ)  {h g : am_H} (R : eqR S ρ h g) (a0 : Nat × Nat) (s_a0 : S a0 = true) (x1 : Int32) (x2 : Int32) (s0 : Int32) (s1 : Option (Nat × Nat)) (p_s1 : okp S s1) : eqQ S ρ h g (f_X11_merge_89 a0 x1 x2 s0 s1 h) (f_X11_merge_89 (ρ a0) x1 x2 s0 (s1.map ρ) g) := by
  rw [f_X11_merge_89, f_X11_merge_89]
  refine q_ao O p_s1 (fun a24 s_a24 => ?_)
  refine q_bI (e_X11_holds O R _ s_a24 _) (fun h22 gh22 v23 R => ?_)
  refine q_ite (fun _ => ?_) (fun _ => ?_)
  · exact q_ri R
  · refine q_gR O R (okp_s s_a0) (fun o25 p_o25 => ?_)
    refine q_aI O R p_o25 (fun v26 => ?_)
    exact e_X11_merge_108 O _ R _ s_a0 _ _ _ _
theorem e_X11_merge_84 {S : Nat × Nat → Bool} {ρ : Nat × Nat → Nat × Nat} (O : RhoOk S ρ)  {h g : am_H} (R : eqR S ρ h g) (a0 : Nat × Nat) (s_a0 : S a0 = true) (x1 : Int32) (x2 : Int32) (s0 : Option (Nat × Nat)) (p_s0 : okp S s0) : eqQ S ρ h g (f_X11_merge_84 a0 x1 x2 s0 h) (f_X11_merge_84 (ρ a0) x1 x2 (s0.map ρ) g) := by
  rw [f_X11_merge_84, f_X11_merge_84]
  exact e_X11_merge_89 O R _ s_a0 _ _ _ _ p_s0
theorem e_X11_merge_41 {S : Nat × Nat → Bool} {ρ : Nat × Nat → Nat × Nat} (O : RhoOk S ρ)  {h g : am_H} (R : eqR S ρ h g) (a0 : Nat × Nat) (s_a0 : S a0 = true) (x1 : Int32) (x2 : Int32) (s0 : Int32) (s1 : Option (Nat × Nat)) (p_s1 : okp S s1) : eqQ S ρ h g (f_X11_merge_41 a0 x1 x2 s0 s1 h) (f_X11_merge_41 (ρ a0) x1 x2 s0 (s1.map ρ) g) := by
  rw [f_X11_merge_41, f_X11_merge_41]
  refine q_ao O p_s1 (fun a9 s_a9 => ?_)
  refine q_bI (e_X11_holds O R _ s_a9 _) (fun h7 gh7 v8 R => ?_)
  refine q_ite (fun _ => ?_) (fun _ => ?_)
  · exact q_ri R
  · refine q_gR O R (okp_s s_a0) (fun o10 p_o10 => ?_)
    refine q_aI O R p_o10 (fun v11 => ?_)
    refine q_ite (fun _ => ?_) (fun _ => ?_)
    · refine q_ao O (okp_s s_a0) (fun a14 s_a14 => ?_)
      refine q_bI (e_X11_aboveOf O R _ s_a14 _) (fun h12 gh12 v13 R => ?_)
      refine q_bI (e_X11_has O R _ _) (fun h15 gh15 v16 R => ?_)
      refine q_ite (fun _ => ?_) (fun _ => ?_)
      · refine q_ao O (okp_s s_a0) (fun a19 s_a19 => ?_)
        refine q_bI (e_X11_aboveOf O R _ s_a19 _) (fun h17 gh17 v18 R => ?_)
        refine q_bI (e_X11_has O R _ _) (fun h20 gh20 v21 R => ?_)
        refine q_ite (fun _ => ?_) (fun _ => ?_)
        · exact e_X11_merge_89 O R _ s_a0 _ _ _ _ (okp_s s_a0)
        · exact e_X11_merge_84 O R _ s_a0 _ _ _ (okp_s s_a0)
      · exact e_X11_merge_84 O R _ s_a0 _ _ _ (okp_s s_a0)
    · exact e_X11_merge_84 O R _ s_a0 _ _ _ (okp_s s_a0)
theorem e_X11_merge_21 {S : Nat × Nat → Bool} {ρ : Nat × Nat → Nat × Nat} (O : RhoOk S ρ)  {h g : am_H} (R : eqR S ρ h g) (a0 : Nat × Nat) (s_a0 : S a0 = true) (x1 : Int32) (x2 : Int32) (s0 : Int32) : eqQ S ρ h g (f_X11_merge_21 a0 x1 x2 s0 h) (f_X11_merge_21 (ρ a0) x1 x2 s0 g) := by
  rw [f_X11_merge_21, f_X11_merge_21]
  refine q_ite (fun _ => ?_) (fun _ => ?_)
  · exact e_X11_merge_41 O R _ s_a0 _ _ _ _ (okp_s s_a0)
  · refine q_ite (fun _ => ?_) (fun _ => ?_)
    · exact e_X11_merge_41 O R _ s_a0 _ _ _ _ (okp_s s_a0)
    · exact e_X11_merge_41 O R _ s_a0 _ _ _ _ (okp_s s_a0)
theorem e_X11_merge_20 {S : Nat × Nat → Bool} {ρ : Nat × Nat → Nat × Nat} (O : RhoOk S ρ)  {h g : am_H} (R : eqR S ρ h g) (a0 : Nat × Nat) (s_a0 : S a0 = true) (x1 : Int32) (x2 : Int32) : eqQ S ρ h g (f_X11_merge_20 a0 x1 x2 h) (f_X11_merge_20 (ρ a0) x1 x2 g) := by
  rw [f_X11_merge_20, f_X11_merge_20]
  exact e_X11_merge_21 O R _ s_a0 _ _ _
theorem e_X11_merge {S : Nat × Nat → Bool} {ρ : Nat × Nat → Nat × Nat} (O : RhoOk S ρ)  {h g : am_H} (R : eqR S ρ h g) (a0 : Nat × Nat) (s_a0 : S a0 = true) (x1 : Int32) (x2 : Int32) : eqQ S ρ h g (f_X11_merge a0 x1 x2 h) (f_X11_merge (ρ a0) x1 x2 g) := by
  rw [f_X11_merge, f_X11_merge]
  refine q_ao O (okp_s s_a0) (fun a3 s_a3 => ?_)
  refine q_bI (e_X11_isTag O R _ s_a3 _) (fun h1 gh1 v2 R => ?_)
  refine q_ite (fun _ => ?_) (fun _ => ?_)
  · exact e_X11_merge_20 O R _ s_a0 _ _
  · refine q_ao O (okp_s s_a0) (fun a6 s_a6 => ?_)
    refine q_bI (e_X11_isTag O R _ s_a6 _) (fun h4 gh4 v5 R => ?_)
    refine q_ite (fun _ => ?_) (fun _ => ?_)
    · exact e_X11_merge_20 O R _ s_a0 _ _
    · exact e_X11_merge_21 O R _ s_a0 _ _ _
theorem e_X11_news_85 {S : Nat × Nat → Bool} {ρ : Nat × Nat → Nat × Nat} (O : RhoOk S ρ)  {h g : am_H} (R : eqR S ρ h g) (x2 : Int32) : eqQ S ρ h g (f_X11_news_85 x2 h) (f_X11_news_85 x2 g) := by
  rw [f_X11_news_85, f_X11_news_85]
  exact q_ri R
theorem e_X11_news_71 {S : Nat × Nat → Bool} {ρ : Nat × Nat → Nat × Nat} (O : RhoOk S ρ) {rc22 : Nat × Nat → Int32 → Int32 → Int32 → Int32 → am_H → am_R} (hrc22 : ∀ {h g : am_H} (_ : eqR S ρ h g) (y0 : Nat × Nat) (s_y0 : S y0 = true) (y1 : Int32) (y2 : Int32) (y3 : Int32) (y4 : Int32), eqQ S ρ h g (rc22 y0 y1 y2 y3 y4 h) (rc22 (ρ y0) y1 y2 y3 y4 g)) {rc38 : Nat × Nat → Int32 → Int32 → Int32 → Int32 → Int32 → am_H → am_R} (hrc38 : ∀ {h g : am_H} (_ : eqR S ρ h g) (y0 : Nat × Nat) (s_y0 : S y0 = true) (y1 : Int32) (y2 : Int32) (y3 : Int32) (y4 : Int32) (y5 : Int32), eqQ S ρ h g (rc38 y0 y1 y2 y3 y4 y5 h) (rc38 (ρ y0) y1 y2 y3 y4 y5 g)) {h g : am_H} (R : eqR S ρ h g) (a0 : Nat × Nat) (s_a0 : S a0 = true) (x1 : Int32) (x3 : Int32) (x4 : Int32) (x5 : Int32) (s0 : Int32) (s1 : Int32) : eqQ S ρ h g (f_X11_news_71 rc22 rc38 a0 x1 x3 x4 x5 s0 s1 h) (f_X11_news_71 rc22 rc38 (ρ a0) x1 x3 x4 x5 s0 s1 g) := by
  rw [f_X11_news_71, f_X11_news_71]
  exact hrc38 R _ s_a0 _ _ _ _ _
theorem e_X11_news_38 {S : Nat × Nat → Bool} {ρ : Nat × Nat → Nat × Nat} (O : RhoOk S ρ) {rc22 : Nat × Nat → Int32 → Int32 → Int32 → Int32 → am_H → am_R} (hrc22 : ∀ {h g : am_H} (_ : eqR S ρ h g) (y0 : Nat × Nat) (s_y0 : S y0 = true) (y1 : Int32) (y2 : Int32) (y3 : Int32) (y4 : Int32), eqQ S ρ h g (rc22 y0 y1 y2 y3 y4 h) (rc22 (ρ y0) y1 y2 y3 y4 g)) : ∀ (n : Nat) {h g : am_H} (_ : eqR S ρ h g) (a0 : Nat × Nat) (s_a0 : S a0 = true) (x1 : Int32) (x2 : Int32) (x3 : Int32) (x4 : Int32) (x5 : Int32), eqQ S ρ h g (f_X11_news_38 rc22 n a0 x1 x2 x3 x4 x5 h) (f_X11_news_38 rc22 n (ρ a0) x1 x2 x3 x4 x5 g) := by
  intro n
  induction n with
  | zero => intros; exact q_none
  | succ n ih =>
    intro h g R a0 s_a0 x1 x2 x3 x4 x5
    rw [f_X11_news_38, f_X11_news_38]
    refine q_gR O R (okp_s s_a0) (fun o7 p_o7 => ?_)
    refine q_aI O R p_o7 (fun v8 => ?_)
    refine q_ite (fun _ => ?_) (fun _ => ?_)
    · exact hrc22 R _ s_a0 _ _ _ _
    · refine q_ao O (okp_s s_a0) (fun a11 s_a11 => ?_)
      refine q_bI (e_X11_isNews O R _ s_a11 _ _ _) (fun h9 gh9 v10 R => ?_)
      refine q_ite (fun _ => ?_) (fun _ => ?_)
      · exact e_X11_news_71 O hrc22 ih R _ s_a0 _ _ _ _ _ _
      · exact e_X11_news_71 O hrc22 ih R _ s_a0 _ _ _ _ _ _
theorem e_X11_news_22 {S : Nat × Nat → Bool} {ρ : Nat × Nat → Nat × Nat} (O : RhoOk S ρ)  : ∀ (n : Nat) {h g : am_H} (_ : eqR S ρ h g) (a0 : Nat × Nat) (s_a0 : S a0 = true) (x1 : Int32) (x2 : Int32) (x3 : Int32) (x4 : Int32), eqQ S ρ h g (f_X11_news_22 n a0 x1 x2 x3 x4 h) (f_X11_news_22 n (ρ a0) x1 x2 x3 x4 g) := by
  intro n
  induction n with
  | zero => intros; exact q_none
  | succ n ih =>
    intro h g R a0 s_a0 x1 x2 x3 x4
    rw [f_X11_news_22, f_X11_news_22]
    refine q_gI O R (okp_s s_a0) (fun v6 => ?_)
    refine q_ite (fun _ => ?_) (fun _ => ?_)
    · exact e_X11_news_85 O R _
    · refine q_ite (fun _ => ?_) (fun _ => ?_)
      · exact e_X11_news_85 O R _
      · exact e_X11_news_38 O ih _ R _ s_a0 _ _ _ _ _
theorem e_X11_news_15 {S : Nat × Nat → Bool} {ρ : Nat × Nat → Nat × Nat} (O : RhoOk S ρ)  {h g : am_H} (R : eqR S ρ h g) (a0 : Nat × Nat) (s_a0 : S a0 = true) (x1 : Int32) (x2 : Int32) (s0 : Int32) (s1 : Option (Nat × Nat)) (p_s1 : okp S s1) : eqQ S ρ h g (f_X11_news_15 a0 x1 x2 s0 s1 h) (f_X11_news_15 (ρ a0) x1 x2 s0 (s1.map ρ) g) := by
  rw [f_X11_news_15, f_X11_news_15]
  refine q_ao O p_s1 (fun a5 s_a5 => ?_)
  refine q_bI (e_X11_holds O R _ s_a5 _) (fun h3 gh3 v4 R => ?_)
  exact e_X11_news_22 O _ R _ s_a0 _ _ _ _
theorem e_X11_news {S : Nat × Nat → Bool} {ρ : Nat × Nat → Nat × Nat} (O : RhoOk S ρ)  {h g : am_H} (R : eqR S ρ h g) (a0 : Nat × Nat) (s_a0 : S a0 = true) (x1 : Int32) : eqQ S ρ h g (f_X11_news a0 x1 h) (f_X11_news (ρ a0) x1 g) := by
  rw [f_X11_news, f_X11_news]
  refine q_bI (e_X11_isPerson O R _) (fun h1 gh1 v2 R => ?_)
  refine q_ite (fun _ => ?_) (fun _ => ?_)
  · exact e_X11_news_15 O R _ s_a0 _ _ _ _ (okp_s s_a0)
  · exact e_X11_news_15 O R _ s_a0 _ _ _ _ (okp_s s_a0)
theorem e_X11_ofTag_121 {S : Nat × Nat → Bool} {ρ : Nat × Nat → Nat × Nat} (O : RhoOk S ρ) {rc77 : Nat × Nat → Int32 → Int32 → Int32 → Int32 → am_H → am_R} (hrc77 : ∀ {h g : am_H} (_ : eqR S ρ h g) (y0 : Nat × Nat) (s_y0 : S y0 = true) (y1 : Int32) (y2 : Int32) (y3 : Int32) (y4 : Int32), eqQ S ρ h g (rc77 y0 y1 y2 y3 y4 h) (rc77 (ρ y0) y1 y2 y3 y4 g)) {h g : am_H} (R : eqR S ρ h g) (a0 : Nat × Nat) (s_a0 : S a0 = true) (x1 : Int32) (x2 : Int32) (x4 : Int32) (s0 : Int32) (s1 : Int32) : eqQ S ρ h g (f_X11_ofTag_121 rc77 a0 x1 x2 x4 s0 s1 h) (f_X11_ofTag_121 rc77 (ρ a0) x1 x2 x4 s0 s1 g) := by
  rw [f_X11_ofTag_121, f_X11_ofTag_121]
  exact hrc77 R _ s_a0 _ _ _ _
theorem e_X11_ofTag_109 {S : Nat × Nat → Bool} {ρ : Nat × Nat → Nat × Nat} (O : RhoOk S ρ) {rc77 : Nat × Nat → Int32 → Int32 → Int32 → Int32 → am_H → am_R} (hrc77 : ∀ {h g : am_H} (_ : eqR S ρ h g) (y0 : Nat × Nat) (s_y0 : S y0 = true) (y1 : Int32) (y2 : Int32) (y3 : Int32) (y4 : Int32), eqQ S ρ h g (rc77 y0 y1 y2 y3 y4 h) (rc77 (ρ y0) y1 y2 y3 y4 g)) {h g : am_H} (R : eqR S ρ h g) (a0 : Nat × Nat) (s_a0 : S a0 = true) (x1 : Int32) (x2 : Int32) (x4 : Int32) (s0 : Int32) (s1 : Int32) : eqQ S ρ h g (f_X11_ofTag_109 rc77 a0 x1 x2 x4 s0 s1 h) (f_X11_ofTag_109 rc77 (ρ a0) x1 x2 x4 s0 s1 g) := by
  rw [f_X11_ofTag_109, f_X11_ofTag_109]
  refine q_bI (e_X11_has O R _ _) (fun h22 gh22 v23 R => ?_)
  refine q_ite (fun _ => ?_) (fun _ => ?_)
  · exact e_X11_ofTag_121 O hrc77 R _ s_a0 _ _ _ _ _
  · exact e_X11_ofTag_121 O hrc77 R _ s_a0 _ _ _ _ _
theorem e_X11_ofTag_77 {S : Nat × Nat → Bool} {ρ : Nat × Nat → Nat × Nat} (O : RhoOk S ρ)  : ∀ (n : Nat) {h g : am_H} (_ : eqR S ρ h g) (a0 : Nat × Nat) (s_a0 : S a0 = true) (x1 : Int32) (x2 : Int32) (x3 : Int32) (x4 : Int32), eqQ S ρ h g (f_X11_ofTag_77 n a0 x1 x2 x3 x4 h) (f_X11_ofTag_77 n (ρ a0) x1 x2 x3 x4 g) := by
  intro n
  induction n with
  | zero => intros; exact q_none
  | succ n ih =>
    intro h g R a0 s_a0 x1 x2 x3 x4
    rw [f_X11_ofTag_77, f_X11_ofTag_77]
    refine q_gI O R (okp_s s_a0) (fun v17 => ?_)
    refine q_ite (fun _ => ?_) (fun _ => ?_)
    · exact q_ri R
    · refine q_ite (fun _ => ?_) (fun _ => ?_)
      · refine q_gR O R (okp_s s_a0) (fun o20 p_o20 => ?_)
        refine q_aI O R p_o20 (fun v21 => ?_)
        exact e_X11_ofTag_109 O ih R _ s_a0 _ _ _ _ _
      · refine q_gR O R (okp_s s_a0) (fun o18 p_o18 => ?_)
        refine q_aI O R p_o18 (fun v19 => ?_)
        exact e_X11_ofTag_109 O ih R _ s_a0 _ _ _ _ _
theorem e_X11_ofTag_71 {S : Nat × Nat → Bool} {ρ : Nat × Nat → Nat × Nat} (O : RhoOk S ρ)  {h g : am_H} (R : eqR S ρ h g) (s0 : Int32) : eqQ S ρ h g (f_X11_ofTag_71 s0 h) (f_X11_ofTag_71 s0 g) := by
  rw [f_X11_ofTag_71, f_X11_ofTag_71]
  exact q_ri R
theorem e_X11_ofTag_27 {S : Nat × Nat → Bool} {ρ : Nat × Nat → Nat × Nat} (O : RhoOk S ρ)  {h g : am_H} (R : eqR S ρ h g) (a0 : Nat × Nat) (s_a0 : S a0 = true) (x1 : Int32) (x2 : Int32) (s0 : Int32) (s1 : Option (Nat × Nat)) (p_s1 : okp S s1) : eqQ S ρ h g (f_X11_ofTag_27 a0 x1 x2 s0 s1 h) (f_X11_ofTag_27 (ρ a0) x1 x2 s0 (s1.map ρ) g) := by
  rw [f_X11_ofTag_27, f_X11_ofTag_27]
  refine q_ao O p_s1 (fun a8 s_a8 => ?_)
  refine q_bI (e_X11_holds O R _ s_a8 _) (fun h6 gh6 v7 R => ?_)
  refine q_ite (fun _ => ?_) (fun _ => ?_)
  · exact q_ri R
  · refine q_ite (fun _ => ?_) (fun _ => ?_)
    · exact e_X11_ofTag_77 O _ R _ s_a0 _ _ _ _
    · refine q_ite (fun _ => ?_) (fun _ => ?_)
      · refine q_gR O R (okp_s s_a0) (fun o15 p_o15 => ?_)
        refine q_aI O R p_o15 (fun v16 => ?_)
        exact e_X11_ofTag_71 O R _
      · refine q_ite (fun _ => ?_) (fun _ => ?_)
        · refine q_ao O (okp_s s_a0) (fun a14 s_a14 => ?_)
          refine q_bI (e_X11_meaning O R _ s_a14 _) (fun h12 gh12 v13 R => ?_)
          exact e_X11_ofTag_71 O R _
        · refine q_ao O (okp_s s_a0) (fun a11 s_a11 => ?_)
          refine q_bI (e_X11_aboveOf O R _ s_a11 _) (fun h9 gh9 v10 R => ?_)
          exact e_X11_ofTag_71 O R _
theorem e_X11_ofTag {S : Nat × Nat → Bool} {ρ : Nat × Nat → Nat × Nat} (O : RhoOk S ρ)  {h g : am_H} (R : eqR S ρ h g) (a0 : Nat × Nat) (s_a0 : S a0 = true) (x1 : Int32) (x2 : Int32) : eqQ S ρ h g (f_X11_ofTag a0 x1 x2 h) (f_X11_ofTag (ρ a0) x1 x2 g) := by
  rw [f_X11_ofTag, f_X11_ofTag]
  refine q_ao O (okp_s s_a0) (fun a3 s_a3 => ?_)
  refine q_bI (e_X11_isTag O R _ s_a3 _) (fun h1 gh1 v2 R => ?_)
  refine q_ite (fun _ => ?_) (fun _ => ?_)
  · exact e_X11_ofTag_27 O R _ s_a0 _ _ _ _ (okp_s s_a0)
  · refine q_bI (e_X11_in O R _ _ _) (fun h4 gh4 v5 R => ?_)
    refine q_ite (fun _ => ?_) (fun _ => ?_)
    · exact e_X11_ofTag_27 O R _ s_a0 _ _ _ _ (okp_s s_a0)
    · exact e_X11_ofTag_27 O R _ s_a0 _ _ _ _ (okp_s s_a0)
theorem e_X11_owners_46 {S : Nat × Nat → Bool} {ρ : Nat × Nat → Nat × Nat} (O : RhoOk S ρ)  {h g : am_H} (R : eqR S ρ h g) (s0 : Int32) : eqQ S ρ h g (f_X11_owners_46 s0 h) (f_X11_owners_46 s0 g) := by
  rw [f_X11_owners_46, f_X11_owners_46]
  exact q_ri R
theorem e_X11_owners_45 {S : Nat × Nat → Bool} {ρ : Nat × Nat → Nat × Nat} (O : RhoOk S ρ)  {h g : am_H} (R : eqR S ρ h g)  : eqQ S ρ h g (f_X11_owners_45  h) (f_X11_owners_45  g) := by
  unfold f_X11_owners_45
  exact e_X11_owners_46 O R _
theorem e_X11_owners_21 {S : Nat × Nat → Bool} {ρ : Nat × Nat → Nat × Nat} (O : RhoOk S ρ)  {h g : am_H} (R : eqR S ρ h g) (a0 : Nat × Nat) (s_a0 : S a0 = true) (x1 : Int32) (x2 : Int32) (s0 : Int32) (s1 : Option (Nat × Nat)) (p_s1 : okp S s1) : eqQ S ρ h g (f_X11_owners_21 a0 x1 x2 s0 s1 h) (f_X11_owners_21 (ρ a0) x1 x2 s0 (s1.map ρ) g) := by
  rw [f_X11_owners_21, f_X11_owners_21]
  refine q_ao O p_s1 (fun a8 s_a8 => ?_)
  refine q_bI (e_X11_holds O R _ s_a8 _) (fun h6 gh6 v7 R => ?_)
  refine q_ite (fun _ => ?_) (fun _ => ?_)
  · exact e_X11_owners_45 O R
  · refine q_ao O (okp_s s_a0) (fun a11 s_a11 => ?_)
    refine q_bI (e_X11_areTold O R _ s_a11 _ _) (fun h9 gh9 v10 R => ?_)
    refine q_ite (fun _ => ?_) (fun _ => ?_)
    · exact e_X11_owners_45 O R
    · refine q_gR O R (okp_s s_a0) (fun o12 p_o12 => ?_)
      refine q_aI O R p_o12 (fun v13 => ?_)
      exact e_X11_owners_46 O R _
theorem e_X11_owners_20 {S : Nat × Nat → Bool} {ρ : Nat × Nat → Nat × Nat} (O : RhoOk S ρ)  {h g : am_H} (R : eqR S ρ h g) (a0 : Nat × Nat) (s_a0 : S a0 = true) (x1 : Int32) (x2 : Int32) (s0 : Option (Nat × Nat)) (p_s0 : okp S s0) : eqQ S ρ h g (f_X11_owners_20 a0 x1 x2 s0 h) (f_X11_owners_20 (ρ a0) x1 x2 (s0.map ρ) g) := by
  rw [f_X11_owners_20, f_X11_owners_20]
  exact e_X11_owners_21 O R _ s_a0 _ _ _ _ p_s0
theorem e_X11_owners {S : Nat × Nat → Bool} {ρ : Nat × Nat → Nat × Nat} (O : RhoOk S ρ)  {h g : am_H} (R : eqR S ρ h g) (a0 : Nat × Nat) (s_a0 : S a0 = true) (x1 : Int32) (x2 : Int32) : eqQ S ρ h g (f_X11_owners a0 x1 x2 h) (f_X11_owners (ρ a0) x1 x2 g) := by
  rw [f_X11_owners, f_X11_owners]
  refine q_bI (e_X11_isFace O R _) (fun h1 gh1 v2 R => ?_)
  refine q_ite (fun _ => ?_) (fun _ => ?_)
  · exact e_X11_owners_20 O R _ s_a0 _ _ _ (okp_s s_a0)
  · refine q_ao O (okp_s s_a0) (fun a5 s_a5 => ?_)
    refine q_bI (e_X11_isWork O R _ s_a5 _) (fun h3 gh3 v4 R => ?_)
    refine q_ite (fun _ => ?_) (fun _ => ?_)
    · exact e_X11_owners_20 O R _ s_a0 _ _ _ (okp_s s_a0)
    · exact e_X11_owners_21 O R _ s_a0 _ _ _ _ (okp_s s_a0)
theorem e_X11_parent_153 {S : Nat × Nat → Bool} {ρ : Nat × Nat → Nat × Nat} (O : RhoOk S ρ)  {h g : am_H} (R : eqR S ρ h g) (x5 : Int32) : eqQ S ρ h g (f_X11_parent_153 x5 h) (f_X11_parent_153 x5 g) := by
  rw [f_X11_parent_153, f_X11_parent_153]
  exact q_rz R
theorem e_X11_parent_141 {S : Nat × Nat → Bool} {ρ : Nat × Nat → Nat × Nat} (O : RhoOk S ρ)  {h g : am_H} (R : eqR S ρ h g) (a0 : Nat × Nat) (s_a0 : S a0 = true) (x3 : Int32) (x5 : Int32) (s0 : Int32) (s1 : Int32) (s2 : Int32) (s3 : Option (Nat × Nat)) (p_s3 : okp S s3) : eqQ S ρ h g (f_X11_parent_141 a0 x3 x5 s0 s1 s2 s3 h) (f_X11_parent_141 (ρ a0) x3 x5 s0 s1 s2 (s3.map ρ) g) := by
  rw [f_X11_parent_141, f_X11_parent_141]
  refine q_sI O R p_s3 (fun h29 gh29 R => ?_)
  refine q_ite (fun _ => ?_) (fun _ => ?_)
  · exact e_X11_parent_153 O R _
  · refine q_ao O (okp_s s_a0) (fun a32 s_a32 => ?_)
    refine q_bV (e_X11_letsWait O R _ s_a32) (fun h30 gh30 R => ?_)
    exact e_X11_parent_153 O R _
theorem e_X11_parent_93 {S : Nat × Nat → Bool} {ρ : Nat × Nat → Nat × Nat} (O : RhoOk S ρ)  {h g : am_H} (R : eqR S ρ h g) (a0 : Nat × Nat) (s_a0 : S a0 = true) (x1 : Int32) (x2 : Int32) (x3 : Int32) (s0 : Int32) (s1 : Option (Nat × Nat)) (p_s1 : okp S s1) : eqQ S ρ h g (f_X11_parent_93 a0 x1 x2 x3 s0 s1 h) (f_X11_parent_93 (ρ a0) x1 x2 x3 s0 (s1.map ρ) g) := by
  rw [f_X11_parent_93, f_X11_parent_93]
  refine q_ao O p_s1 (fun a21 s_a21 => ?_)
  refine q_bI (e_X11_holds O R _ s_a21 _) (fun h19 gh19 v20 R => ?_)
  refine q_ite (fun _ => ?_) (fun _ => ?_)
  · exact q_rz R
  · refine q_gR O R (okp_s s_a0) (fun o22 p_o22 => ?_)
    refine q_aI O R p_o22 (fun v23 => ?_)
    refine q_bI (e_X11_has O R _ _) (fun h24 gh24 v25 R => ?_)
    refine q_gR O R (okp_s s_a0) (fun o26 p_o26 => ?_)
    refine q_gR O R (okp_s s_a0) (fun o27 p_o27 => ?_)
    refine q_aI O R p_o27 (fun v28 => ?_)
    refine q_ite (fun _ => ?_) (fun _ => ?_)
    · exact e_X11_parent_141 O R _ s_a0 _ _ _ _ _ _ p_o26
    · exact e_X11_parent_141 O R _ s_a0 _ _ _ _ _ _ p_o26
theorem e_X11_parent_92 {S : Nat × Nat → Bool} {ρ : Nat × Nat → Nat × Nat} (O : RhoOk S ρ)  {h g : am_H} (R : eqR S ρ h g) (a0 : Nat × Nat) (s_a0 : S a0 = true) (x1 : Int32) (x2 : Int32) (x3 : Int32) (s0 : Option (Nat × Nat)) (p_s0 : okp S s0) : eqQ S ρ h g (f_X11_parent_92 a0 x1 x2 x3 s0 h) (f_X11_parent_92 (ρ a0) x1 x2 x3 (s0.map ρ) g) := by
  rw [f_X11_parent_92, f_X11_parent_92]
  exact e_X11_parent_93 O R _ s_a0 _ _ _ _ _ p_s0
theorem e_X11_parent_88 {S : Nat × Nat → Bool} {ρ : Nat × Nat → Nat × Nat} (O : RhoOk S ρ)  {h g : am_H} (R : eqR S ρ h g) (a0 : Nat × Nat) (s_a0 : S a0 = true) (x1 : Int32) (x2 : Int32) (x3 : Int32) (s0 : Option (Nat × Nat)) (p_s0 : okp S s0) : eqQ S ρ h g (f_X11_parent_88 a0 x1 x2 x3 s0 h) (f_X11_parent_88 (ρ a0) x1 x2 x3 (s0.map ρ) g) := by
  rw [f_X11_parent_88, f_X11_parent_88]
  exact e_X11_parent_93 O R _ s_a0 _ _ _ _ _ p_s0
theorem e_X11_parent_43 {S : Nat × Nat → Bool} {ρ : Nat × Nat → Nat × Nat} (O : RhoOk S ρ)  {h g : am_H} (R : eqR S ρ h g) (a0 : Nat × Nat) (s_a0 : S a0 = true) (x1 : Int32) (x2 : Int32) (x3 : Int32) (s0 : Int32) (s1 : Option (Nat × Nat)) (p_s1 : okp S s1) : eqQ S ρ h g (f_X11_parent_43 a0 x1 x2 x3 s0 s1 h) (f_X11_parent_43 (ρ a0) x1 x2 x3 s0 (s1.map ρ) g) := by
  rw [f_X11_parent_43, f_X11_parent_43]
  refine q_ao O p_s1 (fun a9 s_a9 => ?_)
  refine q_bI (e_X11_holds O R _ s_a9 _) (fun h7 gh7 v8 R => ?_)
  refine q_ite (fun _ => ?_) (fun _ => ?_)
  · exact q_rz R
  · refine q_gR O R (okp_s s_a0) (fun o10 p_o10 => ?_)
    refine q_aI O R p_o10 (fun v11 => ?_)
    refine q_ite (fun _ => ?_) (fun _ => ?_)
    · refine q_gR O R (okp_s s_a0) (fun o12 p_o12 => ?_)
      refine q_aI O R p_o12 (fun v13 => ?_)
      refine q_ite (fun _ => ?_) (fun _ => ?_)
      · refine q_ite (fun _ => ?_) (fun _ => ?_)
        · exact e_X11_parent_92 O R _ s_a0 _ _ _ _ (okp_s s_a0)
        · refine q_ao O (okp_s s_a0) (fun a16 s_a16 => ?_)
          refine q_bI (e_X11_aboveOf O R _ s_a16 _) (fun h14 gh14 v15 R => ?_)
          refine q_bI (e_X11_has O R _ _) (fun h17 gh17 v18 R => ?_)
          refine q_ite (fun _ => ?_) (fun _ => ?_)
          · exact e_X11_parent_92 O R _ s_a0 _ _ _ _ (okp_s s_a0)
          · exact e_X11_parent_88 O R _ s_a0 _ _ _ _ (okp_s s_a0)
      · exact e_X11_parent_88 O R _ s_a0 _ _ _ _ (okp_s s_a0)
    · exact e_X11_parent_88 O R _ s_a0 _ _ _ _ (okp_s s_a0)
theorem e_X11_parent_21 {S : Nat × Nat → Bool} {ρ : Nat × Nat → Nat × Nat} (O : RhoOk S ρ)  {h g : am_H} (R : eqR S ρ h g) (a0 : Nat × Nat) (s_a0 : S a0 = true) (x1 : Int32) (x2 : Int32) (x3 : Int32) (s0 : Int32) : eqQ S ρ h g (f_X11_parent_21 a0 x1 x2 x3 s0 h) (f_X11_parent_21 (ρ a0) x1 x2 x3 s0 g) := by
  rw [f_X11_parent_21, f_X11_parent_21]
  refine q_ite (fun _ => ?_) (fun _ => ?_)
  · exact e_X11_parent_43 O R _ s_a0 _ _ _ _ _ (okp_s s_a0)
  · refine q_ite (fun _ => ?_) (fun _ => ?_)
    · exact e_X11_parent_43 O R _ s_a0 _ _ _ _ _ (okp_s s_a0)
    · exact e_X11_parent_43 O R _ s_a0 _ _ _ _ _ (okp_s s_a0)
theorem e_X11_parent_20 {S : Nat × Nat → Bool} {ρ : Nat × Nat → Nat × Nat} (O : RhoOk S ρ)  {h g : am_H} (R : eqR S ρ h g) (a0 : Nat × Nat) (s_a0 : S a0 = true) (x1 : Int32) (x2 : Int32) (x3 : Int32) : eqQ S ρ h g (f_X11_parent_20 a0 x1 x2 x3 h) (f_X11_parent_20 (ρ a0) x1 x2 x3 g) := by
  rw [f_X11_parent_20, f_X11_parent_20]
  exact e_X11_parent_21 O R _ s_a0 _ _ _ _
theorem e_X11_parent {S : Nat × Nat → Bool} {ρ : Nat × Nat → Nat × Nat} (O : RhoOk S ρ)  {h g : am_H} (R : eqR S ρ h g) (a0 : Nat × Nat) (s_a0 : S a0 = true) (x1 : Int32) (x2 : Int32) (x3 : Int32) : eqQ S ρ h g (f_X11_parent a0 x1 x2 x3 h) (f_X11_parent (ρ a0) x1 x2 x3 g) := by
  rw [f_X11_parent, f_X11_parent]
  refine q_ao O (okp_s s_a0) (fun a3 s_a3 => ?_)
  refine q_bI (e_X11_isTag O R _ s_a3 _) (fun h1 gh1 v2 R => ?_)
  refine q_ite (fun _ => ?_) (fun _ => ?_)
  · exact e_X11_parent_20 O R _ s_a0 _ _ _
  · refine q_ao O (okp_s s_a0) (fun a6 s_a6 => ?_)
    refine q_bI (e_X11_isTag O R _ s_a6 _) (fun h4 gh4 v5 R => ?_)
    refine q_ite (fun _ => ?_) (fun _ => ?_)
    · exact e_X11_parent_20 O R _ s_a0 _ _ _
    · exact e_X11_parent_21 O R _ s_a0 _ _ _ _
theorem e_X11_pass_32 {S : Nat × Nat → Bool} {ρ : Nat × Nat → Nat × Nat} (O : RhoOk S ρ)  {h g : am_H} (R : eqR S ρ h g) (a0 : Nat × Nat) (s_a0 : S a0 = true) (x1 : Int32) (s0 : Int32) (s1 : Option (Nat × Nat)) (p_s1 : okp S s1) : eqQ S ρ h g (f_X11_pass_32 a0 x1 s0 s1 h) (f_X11_pass_32 (ρ a0) x1 s0 (s1.map ρ) g) := by
  rw [f_X11_pass_32, f_X11_pass_32]
  refine q_ao O p_s1 (fun a6 s_a6 => ?_)
  refine q_bI (e_X11_holds O R _ s_a6 _) (fun h4 gh4 v5 R => ?_)
  refine q_ite (fun _ => ?_) (fun _ => ?_)
  · exact q_ri R
  · refine q_gI O R (okp_s s_a0) (fun v7 => ?_)
    refine q_pI O R (okp_s s_a0) (fun h8 gh8 R => ?_)
    refine q_gI O R (okp_s s_a0) (fun v9 => ?_)
    exact q_ri R
theorem e_X11_pass {S : Nat × Nat → Bool} {ρ : Nat × Nat → Nat × Nat} (O : RhoOk S ρ)  {h g : am_H} (R : eqR S ρ h g) (a0 : Nat × Nat) (s_a0 : S a0 = true) (x1 : Int32) : eqQ S ρ h g (f_X11_pass a0 x1 h) (f_X11_pass (ρ a0) x1 g) := by
  rw [f_X11_pass, f_X11_pass]
  refine q_bI (e_X11_in O R _ _ _) (fun h1 gh1 v2 R => ?_)
  refine q_ite (fun _ => ?_) (fun _ => ?_)
  · exact e_X11_pass_32 O R _ s_a0 _ _ _ (okp_s s_a0)
  · refine q_gI O R (okp_s s_a0) (fun v3 => ?_)
    refine q_ite (fun _ => ?_) (fun _ => ?_)
    · exact e_X11_pass_32 O R _ s_a0 _ _ _ (okp_s s_a0)
    · exact e_X11_pass_32 O R _ s_a0 _ _ _ (okp_s s_a0)
theorem e_X11_post_39 {S : Nat × Nat → Bool} {ρ : Nat × Nat → Nat × Nat} (O : RhoOk S ρ)  {h g : am_H} (R : eqR S ρ h g) (a0 : Nat × Nat) (s_a0 : S a0 = true) (x1 : Int32) (s0 : Int32) (s1 : Option (Nat × Nat)) (p_s1 : okp S s1) : eqQ S ρ h g (f_X11_post_39 a0 x1 s0 s1 h) (f_X11_post_39 (ρ a0) x1 s0 (s1.map ρ) g) := by
  rw [f_X11_post_39, f_X11_post_39]
  refine q_ao O p_s1 (fun a10 s_a10 => ?_)
  refine q_bI (e_X11_holds O R _ s_a10 _) (fun h8 gh8 v9 R => ?_)
  refine q_ite (fun _ => ?_) (fun _ => ?_)
  · exact q_ri R
  · refine q_gR O R (okp_s s_a0) (fun o11 p_o11 => ?_)
    refine q_gI O R (okp_s s_a0) (fun v12 => ?_)
    refine q_sI O R p_o11 (fun h13 gh13 R => ?_)
    refine q_gR O R (okp_s s_a0) (fun o14 p_o14 => ?_)
    refine q_aI O R p_o14 (fun v15 => ?_)
    exact q_ri R
theorem e_X11_post_34 {S : Nat × Nat → Bool} {ρ : Nat × Nat → Nat × Nat} (O : RhoOk S ρ)  {h g : am_H} (R : eqR S ρ h g) (a0 : Nat × Nat) (s_a0 : S a0 = true) (x1 : Int32) (s0 : Option (Nat × Nat)) (p_s0 : okp S s0) : eqQ S ρ h g (f_X11_post_34 a0 x1 s0 h) (f_X11_post_34 (ρ a0) x1 (s0.map ρ) g) := by
  rw [f_X11_post_34, f_X11_post_34]
  exact e_X11_post_39 O R _ s_a0 _ _ _ p_s0
theorem e_X11_post {S : Nat × Nat → Bool} {ρ : Nat × Nat → Nat × Nat} (O : RhoOk S ρ)  {h g : am_H} (R : eqR S ρ h g) (a0 : Nat × Nat) (s_a0 : S a0 = true) (x1 : Int32) : eqQ S ρ h g (f_X11_post a0 x1 h) (f_X11_post (ρ a0) x1 g) := by
  rw [f_X11_post, f_X11_post]
  refine q_ao O (okp_s s_a0) (fun a3 s_a3 => ?_)
  refine q_bI (e_X11_isWork O R _ s_a3 _) (fun h1 gh1 v2 R => ?_)
  refine q_ite (fun _ => ?_) (fun _ => ?_)
  · exact e_X11_post_39 O R _ s_a0 _ _ _ (okp_s s_a0)
  · refine q_gR O R (okp_s s_a0) (fun o4 p_o4 => ?_)
    refine q_aI O R p_o4 (fun v5 => ?_)
    refine q_ite (fun _ => ?_) (fun _ => ?_)
    · refine q_gR O R (okp_s s_a0) (fun o6 p_o6 => ?_)
      refine q_aI O R p_o6 (fun v7 => ?_)
      refine q_ite (fun _ => ?_) (fun _ => ?_)
      · exact e_X11_post_34 O R _ s_a0 _ _ (okp_s s_a0)
      · exact e_X11_post_39 O R _ s_a0 _ _ _ (okp_s s_a0)
    · exact e_X11_post_34 O R _ s_a0 _ _ (okp_s s_a0)
theorem e_X11_belongs_58 {S : Nat × Nat → Bool} {ρ : Nat × Nat → Nat × Nat} (O : RhoOk S ρ) {rc4 : Nat × Nat → Int32 → Int32 → Int32 → am_H → am_R} (hrc4 : ∀ {h g : am_H} (_ : eqR S ρ h g) (y0 : Nat × Nat) (s_y0 : S y0 = true) (y1 : Int32) (y2 : Int32) (y3 : Int32), eqQ S ρ h g (rc4 y0 y1 y2 y3 h) (rc4 (ρ y0) y1 y2 y3 g)) {h g : am_H} (R : eqR S ρ h g) (a0 : Nat × Nat) (s_a0 : S a0 = true) (x1 : Int32) (x3 : Int32) (s0 : Int32) (s1 : Int32) : eqQ S ρ h g (f_X11_belongs_58 rc4 a0 x1 x3 s0 s1 h) (f_X11_belongs_58 rc4 (ρ a0) x1 x3 s0 s1 g) := by
  rw [f_X11_belongs_58, f_X11_belongs_58]
  exact hrc4 R _ s_a0 _ _ _
theorem e_X11_belongs_34 {S : Nat × Nat → Bool} {ρ : Nat × Nat → Nat × Nat} (O : RhoOk S ρ) {rc4 : Nat × Nat → Int32 → Int32 → Int32 → am_H → am_R} (hrc4 : ∀ {h g : am_H} (_ : eqR S ρ h g) (y0 : Nat × Nat) (s_y0 : S y0 = true) (y1 : Int32) (y2 : Int32) (y3 : Int32), eqQ S ρ h g (rc4 y0 y1 y2 y3 h) (rc4 (ρ y0) y1 y2 y3 g)) {h g : am_H} (R : eqR S ρ h g) (a0 : Nat × Nat) (s_a0 : S a0 = true) (x1 : Int32) (x2 : Int32) (x3 : Int32) (s0 : Int32) : eqQ S ρ h g (f_X11_belongs_34 rc4 a0 x1 x2 x3 s0 h) (f_X11_belongs_34 rc4 (ρ a0) x1 x2 x3 s0 g) := by
  rw [f_X11_belongs_34, f_X11_belongs_34]
  refine q_ite (fun _ => ?_) (fun _ => ?_)
  · exact e_X11_belongs_58 O hrc4 R _ s_a0 _ _ _ _
  · refine q_ao O (okp_s s_a0) (fun a11 s_a11 => ?_)
    refine q_bI (e_X11_aboveOf O R _ s_a11 _) (fun h9 gh9 v10 R => ?_)
    exact e_X11_belongs_58 O hrc4 R _ s_a0 _ _ _ _
theorem e_X11_belongs_4 {S : Nat × Nat → Bool} {ρ : Nat × Nat → Nat × Nat} (O : RhoOk S ρ)  : ∀ (n : Nat) {h g : am_H} (_ : eqR S ρ h g) (a0 : Nat × Nat) (s_a0 : S a0 = true) (x1 : Int32) (x2 : Int32) (x3 : Int32), eqQ S ρ h g (f_X11_belongs_4 n a0 x1 x2 x3 h) (f_X11_belongs_4 n (ρ a0) x1 x2 x3 g) := by
  intro n
  induction n with
  | zero => intros; exact q_none
  | succ n ih =>
    intro h g R a0 s_a0 x1 x2 x3
    rw [f_X11_belongs_4, f_X11_belongs_4]
    refine q_gI O R (okp_s s_a0) (fun v1 => ?_)
    refine q_ite (fun _ => ?_) (fun _ => ?_)
    · exact q_ri R
    · refine q_gR O R (okp_s s_a0) (fun o2 p_o2 => ?_)
      refine q_aI O R p_o2 (fun v3 => ?_)
      refine q_bI (e_X11_has O R _ _) (fun h4 gh4 v5 R => ?_)
      refine q_ite (fun _ => ?_) (fun _ => ?_)
      · exact e_X11_belongs_34 O ih R _ s_a0 _ _ _ _
      · refine q_ao O (okp_s s_a0) (fun a8 s_a8 => ?_)
        refine q_bI (e_X11_meaning O R _ s_a8 _) (fun h6 gh6 v7 R => ?_)
        exact e_X11_belongs_34 O ih R _ s_a0 _ _ _ _
theorem e_X11_belongs {S : Nat × Nat → Bool} {ρ : Nat × Nat → Nat × Nat} (O : RhoOk S ρ)  {h g : am_H} (R : eqR S ρ h g) (a0 : Nat × Nat) (s_a0 : S a0 = true) (x1 : Int32) : eqQ S ρ h g (f_X11_belongs a0 x1 h) (f_X11_belongs (ρ a0) x1 g) := by
  rw [f_X11_belongs, f_X11_belongs]
  exact e_X11_belongs_4 O _ R _ s_a0 _ _ _
theorem e_X11_files {S : Nat × Nat → Bool} {ρ : Nat × Nat → Nat × Nat} (O : RhoOk S ρ)  {h g : am_H} (R : eqR S ρ h g) (a0 : Nat × Nat) (s_a0 : S a0 = true) (x1 : Int32) : eqQ S ρ h g (f_X11_files a0 x1 h) (f_X11_files (ρ a0) x1 g) := by
  rw [f_X11_files, f_X11_files]
  refine q_gR O R (okp_s s_a0) (fun o1 p_o1 => ?_)
  refine q_ao O (okp_s s_a0) (fun a4 s_a4 => ?_)
  refine q_bI (e_X11_belongs O R _ s_a4 _) (fun h2 gh2 v3 R => ?_)
  refine q_sI O R p_o1 (fun h5 gh5 R => ?_)
  refine q_gR O R (okp_s s_a0) (fun o6 p_o6 => ?_)
  refine q_sZ O R p_o6 (fun h7 gh7 R => ?_)
  exact q_rtn R
theorem e_X11_put_70 {S : Nat × Nat → Bool} {ρ : Nat × Nat → Nat × Nat} (O : RhoOk S ρ)  {h g : am_H} (R : eqR S ρ h g) (a0 : Nat × Nat) (s_a0 : S a0 = true) (x1 : Int32) (x4 : Int32) (s0 : Int32) (s1 : Int32) (s2 : Int32) (s3 : Option (Nat × Nat)) (p_s3 : okp S s3) : eqQ S ρ h g (f_X11_put_70 a0 x1 x4 s0 s1 s2 s3 h) (f_X11_put_70 (ρ a0) x1 x4 s0 s1 s2 (s3.map ρ) g) := by
  rw [f_X11_put_70, f_X11_put_70]
  refine q_sI O R p_s3 (fun h17 gh17 R => ?_)
  refine q_ao O (okp_s s_a0) (fun a20 s_a20 => ?_)
  refine q_bV (e_X11_files O R _ s_a20 _) (fun h18 gh18 R => ?_)
  exact q_rz R
theorem e_X11_put_22 {S : Nat × Nat → Bool} {ρ : Nat × Nat → Nat × Nat} (O : RhoOk S ρ)  {h g : am_H} (R : eqR S ρ h g) (a0 : Nat × Nat) (s_a0 : S a0 = true) (x1 : Int32) (x2 : Int32) (x3 : Int32) (s0 : Int32) (s1 : Option (Nat × Nat)) (p_s1 : okp S s1) : eqQ S ρ h g (f_X11_put_22 a0 x1 x2 x3 s0 s1 h) (f_X11_put_22 (ρ a0) x1 x2 x3 s0 (s1.map ρ) g) := by
  rw [f_X11_put_22, f_X11_put_22]
  refine q_ao O p_s1 (fun a9 s_a9 => ?_)
  refine q_bI (e_X11_holds O R _ s_a9 _) (fun h7 gh7 v8 R => ?_)
  refine q_ite (fun _ => ?_) (fun _ => ?_)
  · exact q_rz R
  · refine q_gR O R (okp_s s_a0) (fun o10 p_o10 => ?_)
    refine q_aI O R p_o10 (fun v11 => ?_)
    refine q_bI (e_X11_has O R _ _) (fun h12 gh12 v13 R => ?_)
    refine q_gR O R (okp_s s_a0) (fun o14 p_o14 => ?_)
    refine q_gR O R (okp_s s_a0) (fun o15 p_o15 => ?_)
    refine q_aI O R p_o15 (fun v16 => ?_)
    refine q_ite (fun _ => ?_) (fun _ => ?_)
    · exact e_X11_put_70 O R _ s_a0 _ _ _ _ _ _ p_o14
    · exact e_X11_put_70 O R _ s_a0 _ _ _ _ _ _ p_o14
theorem e_X11_put_21 {S : Nat × Nat → Bool} {ρ : Nat × Nat → Nat × Nat} (O : RhoOk S ρ)  {h g : am_H} (R : eqR S ρ h g) (a0 : Nat × Nat) (s_a0 : S a0 = true) (x1 : Int32) (x2 : Int32) (x3 : Int32) (s0 : Option (Nat × Nat)) (p_s0 : okp S s0) : eqQ S ρ h g (f_X11_put_21 a0 x1 x2 x3 s0 h) (f_X11_put_21 (ρ a0) x1 x2 x3 (s0.map ρ) g) := by
  rw [f_X11_put_21, f_X11_put_21]
  exact e_X11_put_22 O R _ s_a0 _ _ _ _ _ p_s0
theorem e_X11_put {S : Nat × Nat → Bool} {ρ : Nat × Nat → Nat × Nat} (O : RhoOk S ρ)  {h g : am_H} (R : eqR S ρ h g) (a0 : Nat × Nat) (s_a0 : S a0 = true) (x1 : Int32) (x2 : Int32) (x3 : Int32) : eqQ S ρ h g (f_X11_put a0 x1 x2 x3 h) (f_X11_put (ρ a0) x1 x2 x3 g) := by
  rw [f_X11_put, f_X11_put]
  refine q_ao O (okp_s s_a0) (fun a3 s_a3 => ?_)
  refine q_bI (e_X11_isWork O R _ s_a3 _) (fun h1 gh1 v2 R => ?_)
  refine q_ite (fun _ => ?_) (fun _ => ?_)
  · exact e_X11_put_21 O R _ s_a0 _ _ _ _ (okp_s s_a0)
  · refine q_ao O (okp_s s_a0) (fun a6 s_a6 => ?_)
    refine q_bI (e_X11_isTag O R _ s_a6 _) (fun h4 gh4 v5 R => ?_)
    refine q_ite (fun _ => ?_) (fun _ => ?_)
    · exact e_X11_put_21 O R _ s_a0 _ _ _ _ (okp_s s_a0)
    · exact e_X11_put_22 O R _ s_a0 _ _ _ _ _ (okp_s s_a0)
theorem e_X11_reads_70 {S : Nat × Nat → Bool} {ρ : Nat × Nat → Nat × Nat} (O : RhoOk S ρ) {rc34 : Nat × Nat → Int32 → Int32 → Int32 → Int32 → am_H → am_R} (hrc34 : ∀ {h g : am_H} (_ : eqR S ρ h g) (y0 : Nat × Nat) (s_y0 : S y0 = true) (y1 : Int32) (y2 : Int32) (y3 : Int32) (y4 : Int32), eqQ S ρ h g (rc34 y0 y1 y2 y3 y4 h) (rc34 (ρ y0) y1 y2 y3 y4 g)) {h g : am_H} (R : eqR S ρ h g) (a0 : Nat × Nat) (s_a0 : S a0 = true) (x1 : Int32) (x2 : Int32) (x4 : Int32) (s0 : Int32) (s1 : Int32) : eqQ S ρ h g (f_X11_reads_70 rc34 a0 x1 x2 x4 s0 s1 h) (f_X11_reads_70 rc34 (ρ a0) x1 x2 x4 s0 s1 g) := by
  rw [f_X11_reads_70, f_X11_reads_70]
  exact hrc34 R _ s_a0 _ _ _ _
theorem e_X11_reads_69 {S : Nat × Nat → Bool} {ρ : Nat × Nat → Nat × Nat} (O : RhoOk S ρ) {rc34 : Nat × Nat → Int32 → Int32 → Int32 → Int32 → am_H → am_R} (hrc34 : ∀ {h g : am_H} (_ : eqR S ρ h g) (y0 : Nat × Nat) (s_y0 : S y0 = true) (y1 : Int32) (y2 : Int32) (y3 : Int32) (y4 : Int32), eqQ S ρ h g (rc34 y0 y1 y2 y3 y4 h) (rc34 (ρ y0) y1 y2 y3 y4 g)) {h g : am_H} (R : eqR S ρ h g) (a0 : Nat × Nat) (s_a0 : S a0 = true) (x1 : Int32) (x2 : Int32) (x4 : Int32) (s0 : Int32) : eqQ S ρ h g (f_X11_reads_69 rc34 a0 x1 x2 x4 s0 h) (f_X11_reads_69 rc34 (ρ a0) x1 x2 x4 s0 g) := by
  rw [f_X11_reads_69, f_X11_reads_69]
  exact e_X11_reads_70 O hrc34 R _ s_a0 _ _ _ _ _
theorem e_X11_reads_34 {S : Nat × Nat → Bool} {ρ : Nat × Nat → Nat × Nat} (O : RhoOk S ρ)  : ∀ (n : Nat) {h g : am_H} (_ : eqR S ρ h g) (a0 : Nat × Nat) (s_a0 : S a0 = true) (x1 : Int32) (x2 : Int32) (x3 : Int32) (x4 : Int32), eqQ S ρ h g (f_X11_reads_34 n a0 x1 x2 x3 x4 h) (f_X11_reads_34 n (ρ a0) x1 x2 x3 x4 g) := by
  intro n
  induction n with
  | zero => intros; exact q_none
  | succ n ih =>
    intro h g R a0 s_a0 x1 x2 x3 x4
    rw [f_X11_reads_34, f_X11_reads_34]
    refine q_gI O R (okp_s s_a0) (fun v9 => ?_)
    refine q_ite (fun _ => ?_) (fun _ => ?_)
    · exact q_ri R
    · refine q_gR O R (okp_s s_a0) (fun o10 p_o10 => ?_)
      refine q_aI O R p_o10 (fun v11 => ?_)
      refine q_ite (fun _ => ?_) (fun _ => ?_)
      · refine q_ao O (okp_s s_a0) (fun a14 s_a14 => ?_)
        refine q_bI (e_X11_isRead O R _ s_a14 _ _) (fun h12 gh12 v13 R => ?_)
        refine q_ite (fun _ => ?_) (fun _ => ?_)
        · exact e_X11_reads_69 O ih R _ s_a0 _ _ _ _
        · exact e_X11_reads_70 O ih R _ s_a0 _ _ _ _ _
      · exact e_X11_reads_69 O ih R _ s_a0 _ _ _ _
theorem e_X11_reads_21 {S : Nat × Nat → Bool} {ρ : Nat × Nat → Nat × Nat} (O : RhoOk S ρ)  {h g : am_H} (R : eqR S ρ h g) (a0 : Nat × Nat) (s_a0 : S a0 = true) (x1 : Int32) (x2 : Int32) (s0 : Int32) (s1 : Option (Nat × Nat)) (p_s1 : okp S s1) : eqQ S ρ h g (f_X11_reads_21 a0 x1 x2 s0 s1 h) (f_X11_reads_21 (ρ a0) x1 x2 s0 (s1.map ρ) g) := by
  rw [f_X11_reads_21, f_X11_reads_21]
  refine q_ao O p_s1 (fun a8 s_a8 => ?_)
  refine q_bI (e_X11_holds O R _ s_a8 _) (fun h6 gh6 v7 R => ?_)
  refine q_ite (fun _ => ?_) (fun _ => ?_)
  · exact q_ri R
  · exact e_X11_reads_34 O _ R _ s_a0 _ _ _ _
theorem e_X11_reads_20 {S : Nat × Nat → Bool} {ρ : Nat × Nat → Nat × Nat} (O : RhoOk S ρ)  {h g : am_H} (R : eqR S ρ h g) (a0 : Nat × Nat) (s_a0 : S a0 = true) (x1 : Int32) (x2 : Int32) (s0 : Option (Nat × Nat)) (p_s0 : okp S s0) : eqQ S ρ h g (f_X11_reads_20 a0 x1 x2 s0 h) (f_X11_reads_20 (ρ a0) x1 x2 (s0.map ρ) g) := by
  rw [f_X11_reads_20, f_X11_reads_20]
  exact e_X11_reads_21 O R _ s_a0 _ _ _ _ p_s0
theorem e_X11_reads {S : Nat × Nat → Bool} {ρ : Nat × Nat → Nat × Nat} (O : RhoOk S ρ)  {h g : am_H} (R : eqR S ρ h g) (a0 : Nat × Nat) (s_a0 : S a0 = true) (x1 : Int32) (x2 : Int32) : eqQ S ρ h g (f_X11_reads a0 x1 x2 h) (f_X11_reads (ρ a0) x1 x2 g) := by
  rw [f_X11_reads, f_X11_reads]
  refine q_ao O (okp_s s_a0) (fun a3 s_a3 => ?_)
  refine q_bI (e_X11_isWork O R _ s_a3 _) (fun h1 gh1 v2 R => ?_)
  refine q_ite (fun _ => ?_) (fun _ => ?_)
  · exact e_X11_reads_20 O R _ s_a0 _ _ _ (okp_s s_a0)
  · refine q_bI (e_X11_isFace O R _) (fun h4 gh4 v5 R => ?_)
    refine q_ite (fun _ => ?_) (fun _ => ?_)
    · exact e_X11_reads_20 O R _ s_a0 _ _ _ (okp_s s_a0)
    · exact e_X11_reads_21 O R _ s_a0 _ _ _ _ (okp_s s_a0)
theorem e_X11_latest_27 {S : Nat × Nat → Bool} {ρ : Nat × Nat → Nat × Nat} (O : RhoOk S ρ)  {h g : am_H} (R : eqR S ρ h g) (s0 : Int32) : eqQ S ρ h g (f_X11_latest_27 s0 h) (f_X11_latest_27 s0 g) := by
  rw [f_X11_latest_27, f_X11_latest_27]
  exact q_ri R
theorem e_X11_latest {S : Nat × Nat → Bool} {ρ : Nat × Nat → Nat × Nat} (O : RhoOk S ρ)  {h g : am_H} (R : eqR S ρ h g) (a0 : Nat × Nat) (s_a0 : S a0 = true) (x1 : Int32) : eqQ S ρ h g (f_X11_latest a0 x1 h) (f_X11_latest (ρ a0) x1 g) := by
  rw [f_X11_latest, f_X11_latest]
  refine q_gR O R (okp_s s_a0) (fun o1 p_o1 => ?_)
  refine q_aI O R p_o1 (fun v2 => ?_)
  refine q_ite (fun _ => ?_) (fun _ => ?_)
  · exact e_X11_latest_27 O R _
  · refine q_gR O R (okp_s s_a0) (fun o3 p_o3 => ?_)
    refine q_aI O R p_o3 (fun v4 => ?_)
    refine q_ao O (okp_s s_a0) (fun a7 s_a7 => ?_)
    refine q_bI (e_X11_outDay O R _ s_a7 _ _) (fun h5 gh5 v6 R => ?_)
    exact e_X11_latest_27 O R _
theorem e_X11_gets_38 {S : Nat × Nat → Bool} {ρ : Nat × Nat → Nat × Nat} (O : RhoOk S ρ)  {h g : am_H} (R : eqR S ρ h g) (a0 : Nat × Nat) (s_a0 : S a0 = true) (s0 : Int32) (s1 : Int32) (s2 : Option (Nat × Nat)) (p_s2 : okp S s2) : eqQ S ρ h g (f_X11_gets_38 a0 s0 s1 s2 h) (f_X11_gets_38 (ρ a0) s0 s1 (s2.map ρ) g) := by
  rw [f_X11_gets_38, f_X11_gets_38]
  refine q_sZ O R p_s2 (fun h9 gh9 R => ?_)
  refine q_gR O R (okp_s s_a0) (fun o10 p_o10 => ?_)
  refine q_gI O R (okp_s s_a0) (fun v11 => ?_)
  refine q_sZ O R p_o10 (fun h12 gh12 R => ?_)
  exact q_rtn R
theorem e_X11_gets_37 {S : Nat × Nat → Bool} {ρ : Nat × Nat → Nat × Nat} (O : RhoOk S ρ)  {h g : am_H} (R : eqR S ρ h g) (a0 : Nat × Nat) (s_a0 : S a0 = true) (s0 : Int32) (s1 : Option (Nat × Nat)) (p_s1 : okp S s1) : eqQ S ρ h g (f_X11_gets_37 a0 s0 s1 h) (f_X11_gets_37 (ρ a0) s0 (s1.map ρ) g) := by
  rw [f_X11_gets_37, f_X11_gets_37]
  exact e_X11_gets_38 O R _ s_a0 _ _ _ p_s1
theorem e_X11_gets {S : Nat × Nat → Bool} {ρ : Nat × Nat → Nat × Nat} (O : RhoOk S ρ)  {h g : am_H} (R : eqR S ρ h g) (a0 : Nat × Nat) (s_a0 : S a0 = true) (x1 : Int32) : eqQ S ρ h g (f_X11_gets a0 x1 h) (f_X11_gets (ρ a0) x1 g) := by
  rw [f_X11_gets, f_X11_gets]
  refine q_gR O R (okp_s s_a0) (fun o1 p_o1 => ?_)
  refine q_gI O R (okp_s s_a0) (fun v2 => ?_)
  refine q_gR O R (okp_s s_a0) (fun o3 p_o3 => ?_)
  refine q_gI O R (okp_s s_a0) (fun v4 => ?_)
  refine q_aI O R p_o3 (fun v5 => ?_)
  refine q_ite (fun _ => ?_) (fun _ => ?_)
  · exact e_X11_gets_37 O R _ s_a0 _ _ p_o1
  · refine q_gR O R (okp_s s_a0) (fun o6 p_o6 => ?_)
    refine q_gI O R (okp_s s_a0) (fun v7 => ?_)
    refine q_aI O R p_o6 (fun v8 => ?_)
    refine q_ite (fun _ => ?_) (fun _ => ?_)
    · exact e_X11_gets_37 O R _ s_a0 _ _ p_o1
    · exact e_X11_gets_38 O R _ s_a0 _ _ _ p_o1
theorem e_X11_isOfTag_59 {S : Nat × Nat → Bool} {ρ : Nat × Nat → Nat × Nat} (O : RhoOk S ρ)  {h g : am_H} (R : eqR S ρ h g) (s0 : Int32) : eqQ S ρ h g (f_X11_isOfTag_59 s0 h) (f_X11_isOfTag_59 s0 g) := by
  rw [f_X11_isOfTag_59, f_X11_isOfTag_59]
  exact q_rz R
theorem e_X11_isOfTag_54 {S : Nat × Nat → Bool} {ρ : Nat × Nat → Nat × Nat} (O : RhoOk S ρ)  {h g : am_H} (R : eqR S ρ h g) (x4 : Int32) (s0 : Int32) : eqQ S ρ h g (f_X11_isOfTag_54 x4 s0 h) (f_X11_isOfTag_54 x4 s0 g) := by
  rw [f_X11_isOfTag_54, f_X11_isOfTag_54]
  refine q_bI (e_X11_has O R _ _) (fun h16 gh16 v17 R => ?_)
  exact e_X11_isOfTag_59 O R _
theorem e_X11_isOfTag {S : Nat × Nat → Bool} {ρ : Nat × Nat → Nat × Nat} (O : RhoOk S ρ)  {h g : am_H} (R : eqR S ρ h g) (a0 : Nat × Nat) (s_a0 : S a0 = true) (x1 : Int32) (x2 : Int32) (x3 : Int32) : eqQ S ρ h g (f_X11_isOfTag a0 x1 x2 x3 h) (f_X11_isOfTag (ρ a0) x1 x2 x3 g) := by
  rw [f_X11_isOfTag, f_X11_isOfTag]
  refine q_ao O (okp_s s_a0) (fun a3 s_a3 => ?_)
  refine q_bI (e_X11_isTag O R _ s_a3 _) (fun h1 gh1 v2 R => ?_)
  refine q_ite (fun _ => ?_) (fun _ => ?_)
  · exact q_rz R
  · refine q_ao O (okp_s s_a0) (fun a6 s_a6 => ?_)
    refine q_bI (e_X11_meaning O R _ s_a6 _) (fun h4 gh4 v5 R => ?_)
    refine q_ite (fun _ => ?_) (fun _ => ?_)
    · refine q_gR O R (okp_s s_a0) (fun o12 p_o12 => ?_)
      refine q_aI O R p_o12 (fun v13 => ?_)
      refine q_bI (e_X11_has O R _ _) (fun h14 gh14 v15 R => ?_)
      exact e_X11_isOfTag_59 O R _
    · refine q_ite (fun _ => ?_) (fun _ => ?_)
      · refine q_gR O R (okp_s s_a0) (fun o7 p_o7 => ?_)
        refine q_aI O R p_o7 (fun v8 => ?_)
        exact e_X11_isOfTag_54 O R _ _
      · refine q_ao O (okp_s s_a0) (fun a11 s_a11 => ?_)
        refine q_bI (e_X11_belongs O R _ s_a11 _) (fun h9 gh9 v10 R => ?_)
        exact e_X11_isOfTag_54 O R _ _
theorem e_X11_opens {S : Nat × Nat → Bool} {ρ : Nat × Nat → Nat × Nat} (O : RhoOk S ρ)  {h g : am_H} (R : eqR S ρ h g) (a0 : Nat × Nat) (s_a0 : S a0 = true) : eqQ S ρ h g (f_X11_opens a0 h) (f_X11_opens (ρ a0) g) := by
  rw [f_X11_opens, f_X11_opens]
  refine q_gI O R (okp_s s_a0) (fun v1 => ?_)
  refine q_pI O R (okp_s s_a0) (fun h2 gh2 R => ?_)
  refine q_gR O R (okp_s s_a0) (fun o3 p_o3 => ?_)
  refine q_gI O R (okp_s s_a0) (fun v4 => ?_)
  refine q_sZ O R p_o3 (fun h5 gh5 R => ?_)
  refine q_gR O R (okp_s s_a0) (fun o6 p_o6 => ?_)
  refine q_gI O R (okp_s s_a0) (fun v7 => ?_)
  refine q_sZ O R p_o6 (fun h8 gh8 R => ?_)
  refine q_gR O R (okp_s s_a0) (fun o9 p_o9 => ?_)
  refine q_gI O R (okp_s s_a0) (fun v10 => ?_)
  refine q_sZ O R p_o9 (fun h11 gh11 R => ?_)
  exact q_rtn R
theorem e_X11_isSo_389 {S : Nat × Nat → Bool} {ρ : Nat × Nat → Nat × Nat} (O : RhoOk S ρ)  {h g : am_H} (R : eqR S ρ h g) (s0 : Int32) : eqQ S ρ h g (f_X11_isSo_389 s0 h) (f_X11_isSo_389 s0 g) := by
  rw [f_X11_isSo_389, f_X11_isSo_389]
  exact q_rz R
theorem e_X11_isSo_384 {S : Nat × Nat → Bool} {ρ : Nat × Nat → Nat × Nat} (O : RhoOk S ρ)  {h g : am_H} (R : eqR S ρ h g)  : eqQ S ρ h g (f_X11_isSo_384  h) (f_X11_isSo_384  g) := by
  unfold f_X11_isSo_384
  exact e_X11_isSo_389 O R _
theorem e_X11_isSo_360 {S : Nat × Nat → Bool} {ρ : Nat × Nat → Nat × Nat} (O : RhoOk S ρ) {rc12 : Nat × Nat → Int32 → Int32 → Int32 → Int32 → am_H → am_R} (hrc12 : ∀ {h g : am_H} (_ : eqR S ρ h g) (y0 : Nat × Nat) (s_y0 : S y0 = true) (y1 : Int32) (y2 : Int32) (y3 : Int32) (y4 : Int32), eqQ S ρ h g (rc12 y0 y1 y2 y3 y4 h) (rc12 (ρ y0) y1 y2 y3 y4 g)) {h g : am_H} (R : eqR S ρ h g) (a0 : Nat × Nat) (s_a0 : S a0 = true) (x1 : Int32) (x2 : Int32) (x3 : Int32) (x4 : Int32) : eqQ S ρ h g (f_X11_isSo_360 rc12 a0 x1 x2 x3 x4 h) (f_X11_isSo_360 rc12 (ρ a0) x1 x2 x3 x4 g) := by
  rw [f_X11_isSo_360, f_X11_isSo_360]
  exact hrc12 R _ s_a0 _ _ _ _
theorem e_X11_isSo_354 {S : Nat × Nat → Bool} {ρ : Nat × Nat → Nat × Nat} (O : RhoOk S ρ) {rc12 : Nat × Nat → Int32 → Int32 → Int32 → Int32 → am_H → am_R} (hrc12 : ∀ {h g : am_H} (_ : eqR S ρ h g) (y0 : Nat × Nat) (s_y0 : S y0 = true) (y1 : Int32) (y2 : Int32) (y3 : Int32) (y4 : Int32), eqQ S ρ h g (rc12 y0 y1 y2 y3 y4 h) (rc12 (ρ y0) y1 y2 y3 y4 g)) {h g : am_H} (R : eqR S ρ h g) (a0 : Nat × Nat) (s_a0 : S a0 = true) (x1 : Int32) (x2 : Int32) (x3 : Int32) (x4 : Int32) (s0 : Int32) (s1 : Option (Nat × Nat)) (p_s1 : okp S s1) : eqQ S ρ h g (f_X11_isSo_354 rc12 a0 x1 x2 x3 x4 s0 s1 h) (f_X11_isSo_354 rc12 (ρ a0) x1 x2 x3 x4 s0 (s1.map ρ) g) := by
  rw [f_X11_isSo_354, f_X11_isSo_354]
  refine q_ao O p_s1 (fun a64 s_a64 => ?_)
  refine q_bV (e_X11_gets O R _ s_a64 _) (fun h62 gh62 R => ?_)
  exact e_X11_isSo_360 O hrc12 R _ s_a0 _ _ _ _
theorem e_X11_isSo_321 {S : Nat × Nat → Bool} {ρ : Nat × Nat → Nat × Nat} (O : RhoOk S ρ) {rc12 : Nat × Nat → Int32 → Int32 → Int32 → Int32 → am_H → am_R} (hrc12 : ∀ {h g : am_H} (_ : eqR S ρ h g) (y0 : Nat × Nat) (s_y0 : S y0 = true) (y1 : Int32) (y2 : Int32) (y3 : Int32) (y4 : Int32), eqQ S ρ h g (rc12 y0 y1 y2 y3 y4 h) (rc12 (ρ y0) y1 y2 y3 y4 g)) {h g : am_H} (R : eqR S ρ h g) (a0 : Nat × Nat) (s_a0 : S a0 = true) (x1 : Int32) (x2 : Int32) (x3 : Int32) (x4 : Int32) (s0 : Int32) (s1 : Option (Nat × Nat)) (p_s1 : okp S s1) : eqQ S ρ h g (f_X11_isSo_321 rc12 a0 x1 x2 x3 x4 s0 s1 h) (f_X11_isSo_321 rc12 (ρ a0) x1 x2 x3 x4 s0 (s1.map ρ) g) := by
  rw [f_X11_isSo_321, f_X11_isSo_321]
  refine q_ao O p_s1 (fun a67 s_a67 => ?_)
  refine q_bV (e_X11_gets O R _ s_a67 _) (fun h65 gh65 R => ?_)
  exact e_X11_isSo_360 O hrc12 R _ s_a0 _ _ _ _
theorem e_X11_isSo_320 {S : Nat × Nat → Bool} {ρ : Nat × Nat → Nat × Nat} (O : RhoOk S ρ) {rc12 : Nat × Nat → Int32 → Int32 → Int32 → Int32 → am_H → am_R} (hrc12 : ∀ {h g : am_H} (_ : eqR S ρ h g) (y0 : Nat × Nat) (s_y0 : S y0 = true) (y1 : Int32) (y2 : Int32) (y3 : Int32) (y4 : Int32), eqQ S ρ h g (rc12 y0 y1 y2 y3 y4 h) (rc12 (ρ y0) y1 y2 y3 y4 g)) {h g : am_H} (R : eqR S ρ h g) (a0 : Nat × Nat) (s_a0 : S a0 = true) (x1 : Int32) (x2 : Int32) (x3 : Int32) (x4 : Int32) (s0 : Option (Nat × Nat)) (p_s0 : okp S s0) : eqQ S ρ h g (f_X11_isSo_320 rc12 a0 x1 x2 x3 x4 s0 h) (f_X11_isSo_320 rc12 (ρ a0) x1 x2 x3 x4 (s0.map ρ) g) := by
  rw [f_X11_isSo_320, f_X11_isSo_320]
  exact e_X11_isSo_321 O hrc12 R _ s_a0 _ _ _ _ _ _ p_s0
theorem e_X11_isSo_263 {S : Nat × Nat → Bool} {ρ : Nat × Nat → Nat × Nat} (O : RhoOk S ρ) {rc12 : Nat × Nat → Int32 → Int32 → Int32 → Int32 → am_H → am_R} (hrc12 : ∀ {h g : am_H} (_ : eqR S ρ h g) (y0 : Nat × Nat) (s_y0 : S y0 = true) (y1 : Int32) (y2 : Int32) (y3 : Int32) (y4 : Int32), eqQ S ρ h g (rc12 y0 y1 y2 y3 y4 h) (rc12 (ρ y0) y1 y2 y3 y4 g)) {h g : am_H} (R : eqR S ρ h g) (a0 : Nat × Nat) (s_a0 : S a0 = true) (x1 : Int32) (x2 : Int32) (x3 : Int32) (x4 : Int32) (s0 : Int32) (s1 : Int32) (s2 : Option (Nat × Nat)) (p_s2 : okp S s2) : eqQ S ρ h g (f_X11_isSo_263 rc12 a0 x1 x2 x3 x4 s0 s1 s2 h) (f_X11_isSo_263 rc12 (ρ a0) x1 x2 x3 x4 s0 s1 (s2.map ρ) g) := by
  rw [f_X11_isSo_263, f_X11_isSo_263]
  refine q_sZ O R p_s2 (fun h58 gh58 R => ?_)
  refine q_gR O R (okp_s s_a0) (fun o59 p_o59 => ?_)
  refine q_gI O R (okp_s s_a0) (fun v60 => ?_)
  refine q_sZ O R p_o59 (fun h61 gh61 R => ?_)
  exact e_X11_isSo_360 O hrc12 R _ s_a0 _ _ _ _
theorem e_X11_isSo_258 {S : Nat × Nat → Bool} {ρ : Nat × Nat → Nat × Nat} (O : RhoOk S ρ) {rc12 : Nat × Nat → Int32 → Int32 → Int32 → Int32 → am_H → am_R} (hrc12 : ∀ {h g : am_H} (_ : eqR S ρ h g) (y0 : Nat × Nat) (s_y0 : S y0 = true) (y1 : Int32) (y2 : Int32) (y3 : Int32) (y4 : Int32), eqQ S ρ h g (rc12 y0 y1 y2 y3 y4 h) (rc12 (ρ y0) y1 y2 y3 y4 g)) {h g : am_H} (R : eqR S ρ h g) (a0 : Nat × Nat) (s_a0 : S a0 = true) (x1 : Int32) (x2 : Int32) (x3 : Int32) (x4 : Int32) (s0 : Int32) (s1 : Option (Nat × Nat)) (p_s1 : okp S s1) : eqQ S ρ h g (f_X11_isSo_258 rc12 a0 x1 x2 x3 x4 s0 s1 h) (f_X11_isSo_258 rc12 (ρ a0) x1 x2 x3 x4 s0 (s1.map ρ) g) := by
  rw [f_X11_isSo_258, f_X11_isSo_258]
  exact e_X11_isSo_263 O hrc12 R _ s_a0 _ _ _ _ _ _ _ p_s1
theorem e_X11_isSo_222 {S : Nat × Nat → Bool} {ρ : Nat × Nat → Nat × Nat} (O : RhoOk S ρ) {rc12 : Nat × Nat → Int32 → Int32 → Int32 → Int32 → am_H → am_R} (hrc12 : ∀ {h g : am_H} (_ : eqR S ρ h g) (y0 : Nat × Nat) (s_y0 : S y0 = true) (y1 : Int32) (y2 : Int32) (y3 : Int32) (y4 : Int32), eqQ S ρ h g (rc12 y0 y1 y2 y3 y4 h) (rc12 (ρ y0) y1 y2 y3 y4 g)) {h g : am_H} (R : eqR S ρ h g) (a0 : Nat × Nat) (s_a0 : S a0 = true) (x1 : Int32) (x2 : Int32) (x3 : Int32) (x4 : Int32) (s0 : Int32) (s1 : Int32) (s2 : Option (Nat × Nat)) (p_s2 : okp S s2) : eqQ S ρ h g (f_X11_isSo_222 rc12 a0 x1 x2 x3 x4 s0 s1 s2 h) (f_X11_isSo_222 rc12 (ρ a0) x1 x2 x3 x4 s0 s1 (s2.map ρ) g) := by
  rw [f_X11_isSo_222, f_X11_isSo_222]
  refine q_sZ O R p_s2 (fun h71 gh71 R => ?_)
  exact e_X11_isSo_360 O hrc12 R _ s_a0 _ _ _ _
theorem e_X11_isSo_191 {S : Nat × Nat → Bool} {ρ : Nat × Nat → Nat × Nat} (O : RhoOk S ρ) {rc12 : Nat × Nat → Int32 → Int32 → Int32 → Int32 → am_H → am_R} (hrc12 : ∀ {h g : am_H} (_ : eqR S ρ h g) (y0 : Nat × Nat) (s_y0 : S y0 = true) (y1 : Int32) (y2 : Int32) (y3 : Int32) (y4 : Int32), eqQ S ρ h g (rc12 y0 y1 y2 y3 y4 h) (rc12 (ρ y0) y1 y2 y3 y4 g)) {h g : am_H} (R : eqR S ρ h g) (a0 : Nat × Nat) (s_a0 : S a0 = true) (x1 : Int32) (x2 : Int32) (x3 : Int32) (x4 : Int32) (s0 : Int32) (s1 : Option (Nat × Nat)) (p_s1 : okp S s1) : eqQ S ρ h g (f_X11_isSo_191 rc12 a0 x1 x2 x3 x4 s0 s1 h) (f_X11_isSo_191 rc12 (ρ a0) x1 x2 x3 x4 s0 (s1.map ρ) g) := by
  rw [f_X11_isSo_191, f_X11_isSo_191]
  refine q_ao O p_s1 (fun a70 s_a70 => ?_)
  refine q_bV (e_X11_gets O R _ s_a70 _) (fun h68 gh68 R => ?_)
  exact e_X11_isSo_360 O hrc12 R _ s_a0 _ _ _ _
theorem e_X11_isSo_186 {S : Nat × Nat → Bool} {ρ : Nat × Nat → Nat × Nat} (O : RhoOk S ρ) {rc12 : Nat × Nat → Int32 → Int32 → Int32 → Int32 → am_H → am_R} (hrc12 : ∀ {h g : am_H} (_ : eqR S ρ h g) (y0 : Nat × Nat) (s_y0 : S y0 = true) (y1 : Int32) (y2 : Int32) (y3 : Int32) (y4 : Int32), eqQ S ρ h g (rc12 y0 y1 y2 y3 y4 h) (rc12 (ρ y0) y1 y2 y3 y4 g)) {h g : am_H} (R : eqR S ρ h g) (a0 : Nat × Nat) (s_a0 : S a0 = true) (x1 : Int32) (x2 : Int32) (x3 : Int32) (x4 : Int32) (s0 : Option (Nat × Nat)) (p_s0 : okp S s0) : eqQ S ρ h g (f_X11_isSo_186 rc12 a0 x1 x2 x3 x4 s0 h) (f_X11_isSo_186 rc12 (ρ a0) x1 x2 x3 x4 (s0.map ρ) g) := by
  rw [f_X11_isSo_186, f_X11_isSo_186]
  exact e_X11_isSo_191 O hrc12 R _ s_a0 _ _ _ _ _ _ p_s0
theorem e_X11_isSo_64 {S : Nat × Nat → Bool} {ρ : Nat × Nat → Nat × Nat} (O : RhoOk S ρ) {rc12 : Nat × Nat → Int32 → Int32 → Int32 → Int32 → am_H → am_R} (hrc12 : ∀ {h g : am_H} (_ : eqR S ρ h g) (y0 : Nat × Nat) (s_y0 : S y0 = true) (y1 : Int32) (y2 : Int32) (y3 : Int32) (y4 : Int32), eqQ S ρ h g (rc12 y0 y1 y2 y3 y4 h) (rc12 (ρ y0) y1 y2 y3 y4 g)) {h g : am_H} (R : eqR S ρ h g) (a0 : Nat × Nat) (s_a0 : S a0 = true) (x1 : Int32) (x2 : Int32) (x3 : Int32) (x4 : Int32) (s0 : Int32) : eqQ S ρ h g (f_X11_isSo_64 rc12 a0 x1 x2 x3 x4 s0 h) (f_X11_isSo_64 rc12 (ρ a0) x1 x2 x3 x4 s0 g) := by
  rw [f_X11_isSo_64, f_X11_isSo_64]
  refine q_gR O R (okp_s s_a0) (fun o15 p_o15 => ?_)
  refine q_aI O R p_o15 (fun v16 => ?_)
  refine q_ite (fun _ => ?_) (fun _ => ?_)
  · refine q_gR O R (okp_s s_a0) (fun o17 p_o17 => ?_)
    refine q_gI O R (okp_s s_a0) (fun v18 => ?_)
    refine q_gR O R (okp_s s_a0) (fun o19 p_o19 => ?_)
    refine q_gI O R (okp_s s_a0) (fun v20 => ?_)
    refine q_aI O R p_o19 (fun v21 => ?_)
    refine q_ite (fun _ => ?_) (fun _ => ?_)
    · exact e_X11_isSo_222 O hrc12 R _ s_a0 _ _ _ _ _ _ _ p_o17
    · exact e_X11_isSo_222 O hrc12 R _ s_a0 _ _ _ _ _ _ _ p_o17
  · refine q_ite (fun _ => ?_) (fun _ => ?_)
    · refine q_ao O (okp_s s_a0) (fun a24 s_a24 => ?_)
      refine q_bV (e_X11_opens O R _ s_a24) (fun h22 gh22 R => ?_)
      exact e_X11_isSo_360 O hrc12 R _ s_a0 _ _ _ _
    · refine q_ite (fun _ => ?_) (fun _ => ?_)
      · refine q_gI O R (okp_s s_a0) (fun v25 => ?_)
        refine q_pI O R (okp_s s_a0) (fun h26 gh26 R => ?_)
        refine q_gR O R (okp_s s_a0) (fun o27 p_o27 => ?_)
        refine q_gI O R (okp_s s_a0) (fun v28 => ?_)
        refine q_aI O R p_o27 (fun v29 => ?_)
        refine q_ite (fun _ => ?_) (fun _ => ?_)
        · refine q_gR O R (okp_s s_a0) (fun o30 p_o30 => ?_)
          refine q_gI O R (okp_s s_a0) (fun v31 => ?_)
          refine q_aI O R p_o30 (fun v32 => ?_)
          refine q_ite (fun _ => ?_) (fun _ => ?_)
          · exact e_X11_isSo_191 O hrc12 R _ s_a0 _ _ _ _ _ _ (okp_s s_a0)
          · exact e_X11_isSo_186 O hrc12 R _ s_a0 _ _ _ _ _ (okp_s s_a0)
        · exact e_X11_isSo_186 O hrc12 R _ s_a0 _ _ _ _ _ (okp_s s_a0)
      · refine q_ite (fun _ => ?_) (fun _ => ?_)
        · refine q_ao O (okp_s s_a0) (fun a35 s_a35 => ?_)
          refine q_bI (e_X11_areTold O R _ s_a35 _ _) (fun h33 gh33 v34 R => ?_)
          refine q_ite (fun _ => ?_) (fun _ => ?_)
          · exact e_X11_isSo_320 O hrc12 R _ s_a0 _ _ _ _ _ (okp_s s_a0)
          · refine q_gR O R (okp_s s_a0) (fun o36 p_o36 => ?_)
            refine q_aI O R p_o36 (fun v37 => ?_)
            refine q_bI (e_X11_has O R _ _) (fun h38 gh38 v39 R => ?_)
            refine q_ite (fun _ => ?_) (fun _ => ?_)
            · exact e_X11_isSo_320 O hrc12 R _ s_a0 _ _ _ _ _ (okp_s s_a0)
            · exact e_X11_isSo_321 O hrc12 R _ s_a0 _ _ _ _ _ _ (okp_s s_a0)
        · refine q_ite (fun _ => ?_) (fun _ => ?_)
          · refine q_gR O R (okp_s s_a0) (fun o40 p_o40 => ?_)
            refine q_aI O R p_o40 (fun v41 => ?_)
            refine q_gR O R (okp_s s_a0) (fun o42 p_o42 => ?_)
            refine q_aI O R p_o42 (fun v43 => ?_)
            refine q_ite (fun _ => ?_) (fun _ => ?_)
            · exact e_X11_isSo_354 O hrc12 R _ s_a0 _ _ _ _ _ _ (okp_s s_a0)
            · exact e_X11_isSo_354 O hrc12 R _ s_a0 _ _ _ _ _ _ (okp_s s_a0)
          · refine q_ite (fun _ => ?_) (fun _ => ?_)
            · refine q_ao O (okp_s s_a0) (fun a46 s_a46 => ?_)
              refine q_bI (e_X11_isOfTag O R _ s_a46 _ _ _) (fun h44 gh44 v45 R => ?_)
              refine q_ao O (okp_s s_a0) (fun a49 s_a49 => ?_)
              refine q_bV (e_X11_gets O R _ s_a49 _) (fun h47 gh47 R => ?_)
              exact e_X11_isSo_360 O hrc12 R _ s_a0 _ _ _ _
            · refine q_ite (fun _ => ?_) (fun _ => ?_)
              · refine q_gR O R (okp_s s_a0) (fun o50 p_o50 => ?_)
                refine q_gI O R (okp_s s_a0) (fun v51 => ?_)
                refine q_gR O R (okp_s s_a0) (fun o52 p_o52 => ?_)
                refine q_gI O R (okp_s s_a0) (fun v53 => ?_)
                refine q_aI O R p_o52 (fun v54 => ?_)
                refine q_ite (fun _ => ?_) (fun _ => ?_)
                · refine q_gR O R (okp_s s_a0) (fun o55 p_o55 => ?_)
                  refine q_gI O R (okp_s s_a0) (fun v56 => ?_)
                  refine q_aI O R p_o55 (fun v57 => ?_)
                  refine q_ite (fun _ => ?_) (fun _ => ?_)
                  · exact e_X11_isSo_263 O hrc12 R _ s_a0 _ _ _ _ _ _ _ p_o50
                  · exact e_X11_isSo_258 O hrc12 R _ s_a0 _ _ _ _ _ _ p_o50
                · exact e_X11_isSo_258 O hrc12 R _ s_a0 _ _ _ _ _ _ p_o50
              · exact e_X11_isSo_360 O hrc12 R _ s_a0 _ _ _ _
theorem e_X11_isSo_12 {S : Nat × Nat → Bool} {ρ : Nat × Nat → Nat × Nat} (O : RhoOk S ρ)  : ∀ (n : Nat) {h g : am_H} (_ : eqR S ρ h g) (a0 : Nat × Nat) (s_a0 : S a0 = true) (x1 : Int32) (x2 : Int32) (x3 : Int32) (x4 : Int32), eqQ S ρ h g (f_X11_isSo_12 n a0 x1 x2 x3 x4 h) (f_X11_isSo_12 n (ρ a0) x1 x2 x3 x4 g) := by
  intro n
  induction n with
  | zero => intros; exact q_none
  | succ n ih =>
    intro h g R a0 s_a0 x1 x2 x3 x4
    rw [f_X11_isSo_12, f_X11_isSo_12]
    refine q_gI O R (okp_s s_a0) (fun v5 => ?_)
    refine q_ite (fun _ => ?_) (fun _ => ?_)
    · refine q_gR O R (okp_s s_a0) (fun o6 p_o6 => ?_)
      refine q_aI O R p_o6 (fun v7 => ?_)
      refine q_ite (fun _ => ?_) (fun _ => ?_)
      · refine q_gR O R (okp_s s_a0) (fun o8 p_o8 => ?_)
        refine q_aI O R p_o8 (fun v9 => ?_)
        refine q_ite (fun _ => ?_) (fun _ => ?_)
        · exact e_X11_isSo_389 O R _
        · exact e_X11_isSo_384 O R
      · exact e_X11_isSo_384 O R
    · refine q_gI O R (okp_s s_a0) (fun v10 => ?_)
      refine q_ite (fun _ => ?_) (fun _ => ?_)
      · exact e_X11_isSo_64 O ih R _ s_a0 _ _ _ _ _
      · refine q_gR O R (okp_s s_a0) (fun o11 p_o11 => ?_)
        refine q_aI O R p_o11 (fun v12 => ?_)
        refine q_gR O R (okp_s s_a0) (fun o13 p_o13 => ?_)
        refine q_aI O R p_o13 (fun v14 => ?_)
        exact e_X11_isSo_64 O ih R _ s_a0 _ _ _ _ _
theorem e_X11_isSo {S : Nat × Nat → Bool} {ρ : Nat × Nat → Nat × Nat} (O : RhoOk S ρ)  {h g : am_H} (R : eqR S ρ h g) (a0 : Nat × Nat) (s_a0 : S a0 = true) (x1 : Int32) (x2 : Int32) (x3 : Int32) : eqQ S ρ h g (f_X11_isSo a0 x1 x2 x3 h) (f_X11_isSo (ρ a0) x1 x2 x3 g) := by
  rw [f_X11_isSo, f_X11_isSo]
  refine q_pI O R (okp_s s_a0) (fun h1 gh1 R => ?_)
  refine q_ao O (okp_s s_a0) (fun a4 s_a4 => ?_)
  refine q_bV (e_X11_opens O R _ s_a4) (fun h2 gh2 R => ?_)
  exact e_X11_isSo_12 O _ R _ s_a0 _ _ _ _
theorem e_X11_searchOf_44 {S : Nat × Nat → Bool} {ρ : Nat × Nat → Nat × Nat} (O : RhoOk S ρ) {rc5 : Nat × Nat → Int32 → Int32 → Int32 → Int32 → am_H → am_R} (hrc5 : ∀ {h g : am_H} (_ : eqR S ρ h g) (y0 : Nat × Nat) (s_y0 : S y0 = true) (y1 : Int32) (y2 : Int32) (y3 : Int32) (y4 : Int32), eqQ S ρ h g (rc5 y0 y1 y2 y3 y4 h) (rc5 (ρ y0) y1 y2 y3 y4 g)) {h g : am_H} (R : eqR S ρ h g) (a0 : Nat × Nat) (s_a0 : S a0 = true) (x1 : Int32) (x2 : Int32) (x4 : Int32) (s0 : Int32) (s1 : Int32) : eqQ S ρ h g (f_X11_searchOf_44 rc5 a0 x1 x2 x4 s0 s1 h) (f_X11_searchOf_44 rc5 (ρ a0) x1 x2 x4 s0 s1 g) := by
  rw [f_X11_searchOf_44, f_X11_searchOf_44]
  exact hrc5 R _ s_a0 _ _ _ _
theorem e_X11_searchOf_43 {S : Nat × Nat → Bool} {ρ : Nat × Nat → Nat × Nat} (O : RhoOk S ρ) {rc5 : Nat × Nat → Int32 → Int32 → Int32 → Int32 → am_H → am_R} (hrc5 : ∀ {h g : am_H} (_ : eqR S ρ h g) (y0 : Nat × Nat) (s_y0 : S y0 = true) (y1 : Int32) (y2 : Int32) (y3 : Int32) (y4 : Int32), eqQ S ρ h g (rc5 y0 y1 y2 y3 y4 h) (rc5 (ρ y0) y1 y2 y3 y4 g)) {h g : am_H} (R : eqR S ρ h g) (a0 : Nat × Nat) (s_a0 : S a0 = true) (x1 : Int32) (x2 : Int32) (x4 : Int32) (s0 : Int32) : eqQ S ρ h g (f_X11_searchOf_43 rc5 a0 x1 x2 x4 s0 h) (f_X11_searchOf_43 rc5 (ρ a0) x1 x2 x4 s0 g) := by
  rw [f_X11_searchOf_43, f_X11_searchOf_43]
  exact e_X11_searchOf_44 O hrc5 R _ s_a0 _ _ _ _ _
theorem e_X11_searchOf_5 {S : Nat × Nat → Bool} {ρ : Nat × Nat → Nat × Nat} (O : RhoOk S ρ)  : ∀ (n : Nat) {h g : am_H} (_ : eqR S ρ h g) (a0 : Nat × Nat) (s_a0 : S a0 = true) (x1 : Int32) (x2 : Int32) (x3 : Int32) (x4 : Int32), eqQ S ρ h g (f_X11_searchOf_5 n a0 x1 x2 x3 x4 h) (f_X11_searchOf_5 n (ρ a0) x1 x2 x3 x4 g) := by
  intro n
  induction n with
  | zero => intros; exact q_none
  | succ n ih =>
    intro h g R a0 s_a0 x1 x2 x3 x4
    rw [f_X11_searchOf_5, f_X11_searchOf_5]
    refine q_gI O R (okp_s s_a0) (fun v1 => ?_)
    refine q_ite (fun _ => ?_) (fun _ => ?_)
    · exact q_ri R
    · refine q_ao O (okp_s s_a0) (fun a4 s_a4 => ?_)
      refine q_bI (e_X11_isSeen O R _ s_a4 _ _) (fun h2 gh2 v3 R => ?_)
      refine q_ite (fun _ => ?_) (fun _ => ?_)
      · exact e_X11_searchOf_43 O ih R _ s_a0 _ _ _ _
      · refine q_ao O (okp_s s_a0) (fun a7 s_a7 => ?_)
        refine q_bI (e_X11_isSo O R _ s_a7 _ _ _) (fun h5 gh5 v6 R => ?_)
        refine q_ite (fun _ => ?_) (fun _ => ?_)
        · exact e_X11_searchOf_43 O ih R _ s_a0 _ _ _ _
        · exact e_X11_searchOf_44 O ih R _ s_a0 _ _ _ _ _
theorem e_X11_searchOf {S : Nat × Nat → Bool} {ρ : Nat × Nat → Nat × Nat} (O : RhoOk S ρ)  {h g : am_H} (R : eqR S ρ h g) (a0 : Nat × Nat) (s_a0 : S a0 = true) (x1 : Int32) (x2 : Int32) : eqQ S ρ h g (f_X11_searchOf a0 x1 x2 h) (f_X11_searchOf (ρ a0) x1 x2 g) := by
  rw [f_X11_searchOf, f_X11_searchOf]
  exact e_X11_searchOf_5 O _ R _ s_a0 _ _ _ _
theorem e_X11_result_149 {S : Nat × Nat → Bool} {ρ : Nat × Nat → Nat × Nat} (O : RhoOk S ρ)  {h g : am_H} (R : eqR S ρ h g) (x4 : Int32) : eqQ S ρ h g (f_X11_result_149 x4 h) (f_X11_result_149 x4 g) := by
  rw [f_X11_result_149, f_X11_result_149]
  exact q_ri R
theorem e_X11_result_141 {S : Nat × Nat → Bool} {ρ : Nat × Nat → Nat × Nat} (O : RhoOk S ρ) {rc50 : Nat × Nat → Int32 → Int32 → Int32 → Int32 → am_H → am_R} (hrc50 : ∀ {h g : am_H} (_ : eqR S ρ h g) (y0 : Nat × Nat) (s_y0 : S y0 = true) (y1 : Int32) (y2 : Int32) (y3 : Int32) (y4 : Int32), eqQ S ρ h g (rc50 y0 y1 y2 y3 y4 h) (rc50 (ρ y0) y1 y2 y3 y4 g)) {h g : am_H} (R : eqR S ρ h g) (a0 : Nat × Nat) (s_a0 : S a0 = true) (x2 : Int32) (x3 : Int32) (x5 : Int32) (s0 : Int32) : eqQ S ρ h g (f_X11_result_141 rc50 a0 x2 x3 x5 s0 h) (f_X11_result_141 rc50 (ρ a0) x2 x3 x5 s0 g) := by
  rw [f_X11_result_141, f_X11_result_141]
  exact hrc50 R _ s_a0 _ _ _ _
theorem e_X11_result_112 {S : Nat × Nat → Bool} {ρ : Nat × Nat → Nat × Nat} (O : RhoOk S ρ) {rc50 : Nat × Nat → Int32 → Int32 → Int32 → Int32 → am_H → am_R} (hrc50 : ∀ {h g : am_H} (_ : eqR S ρ h g) (y0 : Nat × Nat) (s_y0 : S y0 = true) (y1 : Int32) (y2 : Int32) (y3 : Int32) (y4 : Int32), eqQ S ρ h g (rc50 y0 y1 y2 y3 y4 h) (rc50 (ρ y0) y1 y2 y3 y4 g)) {rc66 : Nat × Nat → Int32 → Int32 → Int32 → Int32 → Int32 → am_H → am_R} (hrc66 : ∀ {h g : am_H} (_ : eqR S ρ h g) (y0 : Nat × Nat) (s_y0 : S y0 = true) (y1 : Int32) (y2 : Int32) (y3 : Int32) (y4 : Int32) (y5 : Int32), eqQ S ρ h g (rc66 y0 y1 y2 y3 y4 y5 h) (rc66 (ρ y0) y1 y2 y3 y4 y5 g)) {h g : am_H} (R : eqR S ρ h g) (a0 : Nat × Nat) (s_a0 : S a0 = true) (x2 : Int32) (x3 : Int32) (x5 : Int32) (x6 : Int32) (s0 : Int32) : eqQ S ρ h g (f_X11_result_112 rc50 rc66 a0 x2 x3 x5 x6 s0 h) (f_X11_result_112 rc50 rc66 (ρ a0) x2 x3 x5 x6 s0 g) := by
  rw [f_X11_result_112, f_X11_result_112]
  exact hrc66 R _ s_a0 _ _ _ _ _
