theorem e_X11_isNews_87 {S : Nat × Nat → Bool} {ρ : Nat × Nat → Nat × Nat} (O : RhoOk S ρ)  {h g : am_H} (R : eqR S ρ h g) (a0 : Nat × Nat) (s_a0 : S a0 = true) (x1 : Int32) (x2 : Int32) (x4 : Int32) : eqQ S ρ h g (f_X11_isNews_87 a0 x1 x2 x4 h) (f_X11_isNews_87 (ρ a0) x1 x2 x4 g) := by
  rw [f_X11_isNews_87, f_X11_isNews_87]
  exact e_X11_isNews_88 O R _ s_a0 _ _ _ _
theorem e_X11_isNews_47 {S : Nat × Nat → Bool} {ρ : Nat × Nat → Nat × Nat} (O : RhoOk S ρ)  {h g : am_H} (R : eqR S ρ h g)  : eqQ S ρ h g (f_X11_isNews_47  h) (f_X11_isNews_47  g) := by
  unfold f_X11_isNews_47
  exact q_rz R
theorem e_X11_isNews {S : Nat × Nat → Bool} {ρ : Nat × Nat → Nat × Nat} (O : RhoOk S ρ)  {h g : am_H} (R : eqR S ρ h g) (a0 : Nat × Nat) (s_a0 : S a0 = true) (x1 : Int32) (x2 : Int32) (x3 : Int32) : eqQ S ρ h g (f_X11_isNews a0 x1 x2 x3 h) (f_X11_isNews (ρ a0) x1 x2 x3 g) := by
  rw [f_X11_isNews, f_X11_isNews]
  refine q_gR O R (okp_s s_a0) (fun o1 p_o1 => ?_)
  refine q_aI O R p_o1 (fun v2 => ?_)
  refine q_ite (fun _ => ?_) (fun _ => ?_)
  · exact e_X11_isNews_47 O R
  · refine q_ao O (okp_s s_a0) (fun a5 s_a5 => ?_)
    refine q_bI (e_X11_isSeen O R _ s_a5 _ _) (fun h3 gh3 v4 R => ?_)
    refine q_ite (fun _ => ?_) (fun _ => ?_)
    · exact e_X11_isNews_47 O R
    · refine q_ao O (okp_s s_a0) (fun a8 s_a8 => ?_)
      refine q_bI (e_X11_isOwner O R _ s_a8 _ _) (fun h6 gh6 v7 R => ?_)
      refine q_ite (fun _ => ?_) (fun _ => ?_)
      · refine q_gR O R (okp_s s_a0) (fun o9 p_o9 => ?_)
        refine q_aI O R p_o9 (fun v10 => ?_)
        refine q_ite (fun _ => ?_) (fun _ => ?_)
        · refine q_ao O (okp_s s_a0) (fun a13 s_a13 => ?_)
          refine q_bI (e_X11_outDay O R _ s_a13 _ _) (fun h11 gh11 v12 R => ?_)
          refine q_gR O R (okp_s s_a0) (fun o14 p_o14 => ?_)
          refine q_aI O R p_o14 (fun v15 => ?_)
          refine q_ite (fun _ => ?_) (fun _ => ?_)
          · exact e_X11_isNews_87 O R _ s_a0 _ _ _
          · refine q_ite (fun _ => ?_) (fun _ => ?_)
            · exact e_X11_isNews_87 O R _ s_a0 _ _ _
            · exact e_X11_isNews_88 O R _ s_a0 _ _ _ _
        · exact e_X11_isNews_47 O R
      · exact e_X11_isNews_47 O R
theorem e_X11_digest_96 {S : Nat × Nat → Bool} {ρ : Nat × Nat → Nat × Nat} (O : RhoOk S ρ)  {h g : am_H} (R : eqR S ρ h g) (x2 : Int32) : eqQ S ρ h g (f_X11_digest_96 x2 h) (f_X11_digest_96 x2 g) := by
  rw [f_X11_digest_96, f_X11_digest_96]
  exact q_ri R
theorem e_X11_digest_84 {S : Nat × Nat → Bool} {ρ : Nat × Nat → Nat × Nat} (O : RhoOk S ρ) {rc22 : Nat × Nat → Int32 → Int32 → Int32 → Int32 → am_H → am_R} (hrc22 : ∀ {h g : am_H} (_ : eqR S ρ h g) (y0 : Nat × Nat) (s_y0 : S y0 = true) (y1 : Int32) (y2 : Int32) (y3 : Int32) (y4 : Int32), eqQ S ρ h g (rc22 y0 y1 y2 y3 y4 h) (rc22 (ρ y0) y1 y2 y3 y4 g)) {rc38 : Nat × Nat → Int32 → Int32 → Int32 → Int32 → Int32 → am_H → am_R} (hrc38 : ∀ {h g : am_H} (_ : eqR S ρ h g) (y0 : Nat × Nat) (s_y0 : S y0 = true) (y1 : Int32) (y2 : Int32) (y3 : Int32) (y4 : Int32) (y5 : Int32), eqQ S ρ h g (rc38 y0 y1 y2 y3 y4 y5 h) (rc38 (ρ y0) y1 y2 y3 y4 y5 g)) {h g : am_H} (R : eqR S ρ h g) (a0 : Nat × Nat) (s_a0 : S a0 = true) (x1 : Int32) (x2 : Int32) (x3 : Int32) (x4 : Int32) (x5 : Int32) : eqQ S ρ h g (f_X11_digest_84 rc22 rc38 a0 x1 x2 x3 x4 x5 h) (f_X11_digest_84 rc22 rc38 (ρ a0) x1 x2 x3 x4 x5 g) := by
  rw [f_X11_digest_84, f_X11_digest_84]
  exact hrc38 R _ s_a0 _ _ _ _ _
theorem e_X11_digest_38 {S : Nat × Nat → Bool} {ρ : Nat × Nat → Nat × Nat} (O : RhoOk S ρ) {rc22 : Nat × Nat → Int32 → Int32 → Int32 → Int32 → am_H → am_R} (hrc22 : ∀ {h g : am_H} (_ : eqR S ρ h g) (y0 : Nat × Nat) (s_y0 : S y0 = true) (y1 : Int32) (y2 : Int32) (y3 : Int32) (y4 : Int32), eqQ S ρ h g (rc22 y0 y1 y2 y3 y4 h) (rc22 (ρ y0) y1 y2 y3 y4 g)) : ∀ (n : Nat) {h g : am_H} (_ : eqR S ρ h g) (a0 : Nat × Nat) (s_a0 : S a0 = true) (x1 : Int32) (x2 : Int32) (x3 : Int32) (x4 : Int32) (x5 : Int32), eqQ S ρ h g (f_X11_digest_38 rc22 n a0 x1 x2 x3 x4 x5 h) (f_X11_digest_38 rc22 n (ρ a0) x1 x2 x3 x4 x5 g) := by
  intro n
  induction n with
  | zero => intros; exact q_none
  | succ n ih =>
    intro h g R a0 s_a0 x1 x2 x3 x4 x5
    rw [f_X11_digest_38, f_X11_digest_38]
    refine q_gR O R (okp_s s_a0) (fun o7 p_o7 => ?_)
    refine q_aI O R p_o7 (fun v8 => ?_)
    refine q_ite (fun _ => ?_) (fun _ => ?_)
    · exact hrc22 R _ s_a0 _ _ _ _
    · refine q_ao O (okp_s s_a0) (fun a11 s_a11 => ?_)
      refine q_bI (e_X11_isNews O R _ s_a11 _ _ _) (fun h9 gh9 v10 R => ?_)
      refine q_ite (fun _ => ?_) (fun _ => ?_)
      · exact e_X11_digest_84 O hrc22 ih R _ s_a0 _ _ _ _ _
      · refine q_gR O R (okp_s s_a0) (fun o12 p_o12 => ?_)
        refine q_sZ O R p_o12 (fun h13 gh13 R => ?_)
        exact e_X11_digest_84 O hrc22 ih R _ s_a0 _ _ _ _ _
theorem e_X11_digest_22 {S : Nat × Nat → Bool} {ρ : Nat × Nat → Nat × Nat} (O : RhoOk S ρ)  : ∀ (n : Nat) {h g : am_H} (_ : eqR S ρ h g) (a0 : Nat × Nat) (s_a0 : S a0 = true) (x1 : Int32) (x2 : Int32) (x3 : Int32) (x4 : Int32), eqQ S ρ h g (f_X11_digest_22 n a0 x1 x2 x3 x4 h) (f_X11_digest_22 n (ρ a0) x1 x2 x3 x4 g) := by
  intro n
  induction n with
  | zero => intros; exact q_none
  | succ n ih =>
    intro h g R a0 s_a0 x1 x2 x3 x4
    rw [f_X11_digest_22, f_X11_digest_22]
    refine q_gI O R (okp_s s_a0) (fun v6 => ?_)
    refine q_ite (fun _ => ?_) (fun _ => ?_)
    · exact e_X11_digest_96 O R _
    · refine q_ite (fun _ => ?_) (fun _ => ?_)
      · exact e_X11_digest_96 O R _
      · exact e_X11_digest_38 O ih _ R _ s_a0 _ _ _ _ _
theorem e_X11_digest_15 {S : Nat × Nat → Bool} {ρ : Nat × Nat → Nat × Nat} (O : RhoOk S ρ)  {h g : am_H} (R : eqR S ρ h g) (a0 : Nat × Nat) (s_a0 : S a0 = true) (x1 : Int32) (x2 : Int32) (s0 : Int32) (s1 : Option (Nat × Nat)) (p_s1 : okp S s1) : eqQ S ρ h g (f_X11_digest_15 a0 x1 x2 s0 s1 h) (f_X11_digest_15 (ρ a0) x1 x2 s0 (s1.map ρ) g) := by
  rw [f_X11_digest_15, f_X11_digest_15]
  refine q_ao O p_s1 (fun a5 s_a5 => ?_)
  refine q_bI (e_X11_holds O R _ s_a5 _) (fun h3 gh3 v4 R => ?_)
  exact e_X11_digest_22 O _ R _ s_a0 _ _ _ _
theorem e_X11_digest {S : Nat × Nat → Bool} {ρ : Nat × Nat → Nat × Nat} (O : RhoOk S ρ)  {h g : am_H} (R : eqR S ρ h g) (a0 : Nat × Nat) (s_a0 : S a0 = true) (x1 : Int32) : eqQ S ρ h g (f_X11_digest a0 x1 h) (f_X11_digest (ρ a0) x1 g) := by
  rw [f_X11_digest, f_X11_digest]
  refine q_bI (e_X11_isPerson O R _) (fun h1 gh1 v2 R => ?_)
  refine q_ite (fun _ => ?_) (fun _ => ?_)
  · exact e_X11_digest_15 O R _ s_a0 _ _ _ _ (okp_s s_a0)
  · exact e_X11_digest_15 O R _ s_a0 _ _ _ _ (okp_s s_a0)
theorem e_X11_isFigure {S : Nat × Nat → Bool} {ρ : Nat × Nat → Nat × Nat} (O : RhoOk S ρ)  {h g : am_H} (R : eqR S ρ h g) (x0 : Int32) : eqQ S ρ h g (f_X11_isFigure x0 h) (f_X11_isFigure x0 g) := by
  rw [f_X11_isFigure, f_X11_isFigure]
  refine q_bI (e_X11_in O R _ _ _) (fun h1 gh1 v2 R => ?_)
  exact q_rz R
theorem e_X11_behind_211 {S : Nat × Nat → Bool} {ρ : Nat × Nat → Nat × Nat} (O : RhoOk S ρ)  {h g : am_H} (R : eqR S ρ h g) (s0 : Int32) : eqQ S ρ h g (f_X11_behind_211 s0 h) (f_X11_behind_211 s0 g) := by
  rw [f_X11_behind_211, f_X11_behind_211]
  exact q_ri R
theorem e_X11_behind_199 {S : Nat × Nat → Bool} {ρ : Nat × Nat → Nat × Nat} (O : RhoOk S ρ)  {h g : am_H} (R : eqR S ρ h g) (x1 : Int32) : eqQ S ρ h g (f_X11_behind_199 x1 h) (f_X11_behind_199 x1 g) := by
  rw [f_X11_behind_199, f_X11_behind_199]
  refine q_bI (e_X11_isFigure O R _) (fun h7 gh7 v8 R => ?_)
  refine q_ite (fun _ => ?_) (fun _ => ?_)
  · exact e_X11_behind_211 O R _
  · exact e_X11_behind_211 O R _
theorem e_X11_behind_198 {S : Nat × Nat → Bool} {ρ : Nat × Nat → Nat × Nat} (O : RhoOk S ρ)  {h g : am_H} (R : eqR S ρ h g) (s0 : Int32) : eqQ S ρ h g (f_X11_behind_198 s0 h) (f_X11_behind_198 s0 g) := by
  rw [f_X11_behind_198, f_X11_behind_198]
  exact q_ri R
theorem e_X11_behind_181 {S : Nat × Nat → Bool} {ρ : Nat × Nat → Nat × Nat} (O : RhoOk S ρ)  {h g : am_H} (R : eqR S ρ h g) (s0 : Int32) : eqQ S ρ h g (f_X11_behind_181 s0 h) (f_X11_behind_181 s0 g) := by
  rw [f_X11_behind_181, f_X11_behind_181]
  exact q_ri R
theorem e_X11_behind_164 {S : Nat × Nat → Bool} {ρ : Nat × Nat → Nat × Nat} (O : RhoOk S ρ)  {h g : am_H} (R : eqR S ρ h g) (s0 : Int32) : eqQ S ρ h g (f_X11_behind_164 s0 h) (f_X11_behind_164 s0 g) := by
  rw [f_X11_behind_164, f_X11_behind_164]
  exact q_ri R
theorem e_X11_behind_141 {S : Nat × Nat → Bool} {ρ : Nat × Nat → Nat × Nat} (O : RhoOk S ρ)  {h g : am_H} (R : eqR S ρ h g) (s0 : Int32) : eqQ S ρ h g (f_X11_behind_141 s0 h) (f_X11_behind_141 s0 g) := by
  rw [f_X11_behind_141, f_X11_behind_141]
  exact q_ri R
theorem e_X11_behind_124 {S : Nat × Nat → Bool} {ρ : Nat × Nat → Nat × Nat} (O : RhoOk S ρ)  {h g : am_H} (R : eqR S ρ h g) (s0 : Int32) : eqQ S ρ h g (f_X11_behind_124 s0 h) (f_X11_behind_124 s0 g) := by
  rw [f_X11_behind_124, f_X11_behind_124]
  exact q_ri R
theorem e_X11_behind_109 {S : Nat × Nat → Bool} {ρ : Nat × Nat → Nat × Nat} (O : RhoOk S ρ)  {h g : am_H} (R : eqR S ρ h g)  : eqQ S ρ h g (f_X11_behind_109  h) (f_X11_behind_109  g) := by
  unfold f_X11_behind_109
  exact e_X11_behind_124 O R _
theorem e_X11_behind_96 {S : Nat × Nat → Bool} {ρ : Nat × Nat → Nat × Nat} (O : RhoOk S ρ)  {h g : am_H} (R : eqR S ρ h g) (s0 : Int32) : eqQ S ρ h g (f_X11_behind_96 s0 h) (f_X11_behind_96 s0 g) := by
  rw [f_X11_behind_96, f_X11_behind_96]
  exact q_ri R
theorem e_X11_behind_60 {S : Nat × Nat → Bool} {ρ : Nat × Nat → Nat × Nat} (O : RhoOk S ρ)  {h g : am_H} (R : eqR S ρ h g)  : eqQ S ρ h g (f_X11_behind_60  h) (f_X11_behind_60  g) := by
  unfold f_X11_behind_60
  exact e_X11_behind_96 O R _
theorem e_X11_behind {S : Nat × Nat → Bool} {ρ : Nat × Nat → Nat × Nat} (O : RhoOk S ρ)  {h g : am_H} (R : eqR S ρ h g) (x0 : Int32) (x1 : Int32) : eqQ S ρ h g (f_X11_behind x0 x1 h) (f_X11_behind x0 x1 g) := by
  rw [f_X11_behind, f_X11_behind]
  refine q_ite (fun _ => ?_) (fun _ => ?_)
  · refine q_ite (fun _ => ?_) (fun _ => ?_)
    · exact e_X11_behind_60 O R
    · refine q_ite (fun _ => ?_) (fun _ => ?_)
      · exact e_X11_behind_60 O R
      · refine q_ite (fun _ => ?_) (fun _ => ?_)
        · exact e_X11_behind_96 O R _
        · refine q_ite (fun _ => ?_) (fun _ => ?_)
          · exact e_X11_behind_96 O R _
          · refine q_ite (fun _ => ?_) (fun _ => ?_)
            · exact e_X11_behind_96 O R _
            · exact e_X11_behind_96 O R _
  · refine q_ite (fun _ => ?_) (fun _ => ?_)
    · refine q_ite (fun _ => ?_) (fun _ => ?_)
      · exact e_X11_behind_109 O R
      · refine q_ite (fun _ => ?_) (fun _ => ?_)
        · exact e_X11_behind_109 O R
        · refine q_ite (fun _ => ?_) (fun _ => ?_)
          · exact e_X11_behind_124 O R _
          · exact e_X11_behind_124 O R _
    · refine q_ite (fun _ => ?_) (fun _ => ?_)
      · refine q_bI (e_X11_in O R _ _ _) (fun h1 gh1 v2 R => ?_)
        refine q_ite (fun _ => ?_) (fun _ => ?_)
        · exact e_X11_behind_141 O R _
        · exact e_X11_behind_141 O R _
      · refine q_ite (fun _ => ?_) (fun _ => ?_)
        · exact e_X11_behind_199 O R _
        · refine q_ite (fun _ => ?_) (fun _ => ?_)
          · refine q_ite (fun _ => ?_) (fun _ => ?_)
            · exact e_X11_behind_164 O R _
            · refine q_ite (fun _ => ?_) (fun _ => ?_)
              · exact e_X11_behind_164 O R _
              · exact e_X11_behind_164 O R _
          · refine q_ite (fun _ => ?_) (fun _ => ?_)
            · exact e_X11_behind_199 O R _
            · refine q_ite (fun _ => ?_) (fun _ => ?_)
              · refine q_bI (e_X11_in O R _ _ _) (fun h3 gh3 v4 R => ?_)
                refine q_ite (fun _ => ?_) (fun _ => ?_)
                · exact e_X11_behind_181 O R _
                · exact e_X11_behind_181 O R _
              · refine q_ite (fun _ => ?_) (fun _ => ?_)
                · refine q_bI (e_X11_in O R _ _ _) (fun h5 gh5 v6 R => ?_)
                  refine q_ite (fun _ => ?_) (fun _ => ?_)
                  · exact e_X11_behind_198 O R _
                  · exact e_X11_behind_198 O R _
                · exact e_X11_behind_199 O R _
theorem e_X11_faultOf_93 {S : Nat × Nat → Bool} {ρ : Nat × Nat → Nat × Nat} (O : RhoOk S ρ)  {h g : am_H} (R : eqR S ρ h g) (s0 : Int32) : eqQ S ρ h g (f_X11_faultOf_93 s0 h) (f_X11_faultOf_93 s0 g) := by
  rw [f_X11_faultOf_93, f_X11_faultOf_93]
  exact q_ri R
theorem e_X11_faultOf_89 {S : Nat × Nat → Bool} {ρ : Nat × Nat → Nat × Nat} (O : RhoOk S ρ)  {h g : am_H} (R : eqR S ρ h g) (a0 : Nat × Nat) (s_a0 : S a0 = true) : eqQ S ρ h g (f_X11_faultOf_89 a0 h) (f_X11_faultOf_89 (ρ a0) g) := by
  rw [f_X11_faultOf_89, f_X11_faultOf_89]
  refine q_gI O R (okp_s s_a0) (fun v10 => ?_)
  exact e_X11_faultOf_93 O R _
theorem e_X11_faultOf_68 {S : Nat × Nat → Bool} {ρ : Nat × Nat → Nat × Nat} (O : RhoOk S ρ)  {h g : am_H} (R : eqR S ρ h g) (x3 : Int32) : eqQ S ρ h g (f_X11_faultOf_68 x3 h) (f_X11_faultOf_68 x3 g) := by
  rw [f_X11_faultOf_68, f_X11_faultOf_68]
  exact q_ri R
theorem e_X11_faultOf_57 {S : Nat × Nat → Bool} {ρ : Nat × Nat → Nat × Nat} (O : RhoOk S ρ) {rc6 : Nat × Nat → Int32 → Int32 → Int32 → am_H → am_R} (hrc6 : ∀ {h g : am_H} (_ : eqR S ρ h g) (y0 : Nat × Nat) (s_y0 : S y0 = true) (y1 : Int32) (y2 : Int32) (y3 : Int32), eqQ S ρ h g (rc6 y0 y1 y2 y3 h) (rc6 (ρ y0) y1 y2 y3 g)) {h g : am_H} (R : eqR S ρ h g) (a0 : Nat × Nat) (s_a0 : S a0 = true) (x1 : Int32) (x3 : Int32) (s0 : Int32) (s1 : Int32) : eqQ S ρ h g (f_X11_faultOf_57 rc6 a0 x1 x3 s0 s1 h) (f_X11_faultOf_57 rc6 (ρ a0) x1 x3 s0 s1 g) := by
  rw [f_X11_faultOf_57, f_X11_faultOf_57]
  refine q_ite (fun _ => ?_) (fun _ => ?_)
  · exact e_X11_faultOf_68 O R _
  · refine q_ite (fun _ => ?_) (fun _ => ?_)
    · exact hrc6 R _ s_a0 _ _ _
    · exact e_X11_faultOf_68 O R _
theorem e_X11_faultOf_6 {S : Nat × Nat → Bool} {ρ : Nat × Nat → Nat × Nat} (O : RhoOk S ρ)  : ∀ (n : Nat) {h g : am_H} (_ : eqR S ρ h g) (a0 : Nat × Nat) (s_a0 : S a0 = true) (x1 : Int32) (x2 : Int32) (x3 : Int32), eqQ S ρ h g (f_X11_faultOf_6 n a0 x1 x2 x3 h) (f_X11_faultOf_6 n (ρ a0) x1 x2 x3 g) := by
  intro n
  induction n with
  | zero => intros; exact q_none
  | succ n ih =>
    intro h g R a0 s_a0 x1 x2 x3
    rw [f_X11_faultOf_6, f_X11_faultOf_6]
    refine q_gI O R (okp_s s_a0) (fun v1 => ?_)
    refine q_ite (fun _ => ?_) (fun _ => ?_)
    · refine q_ite (fun _ => ?_) (fun _ => ?_)
      · refine q_ite (fun _ => ?_) (fun _ => ?_)
        · exact e_X11_faultOf_93 O R _
        · exact e_X11_faultOf_89 O R _ s_a0
      · exact e_X11_faultOf_89 O R _ s_a0
    · refine q_gR O R (okp_s s_a0) (fun o2 p_o2 => ?_)
      refine q_aI O R p_o2 (fun v3 => ?_)
      refine q_bI (e_X11_behind O R _ _) (fun h4 gh4 v5 R => ?_)
      refine q_gR O R (okp_s s_a0) (fun o6 p_o6 => ?_)
      refine q_aI O R p_o6 (fun v7 => ?_)
      refine q_ite (fun _ => ?_) (fun _ => ?_)
      · exact e_X11_faultOf_57 O ih R _ s_a0 _ _ _ _
      · refine q_gR O R (okp_s s_a0) (fun o8 p_o8 => ?_)
        refine q_aI O R p_o8 (fun v9 => ?_)
        refine q_ite (fun _ => ?_) (fun _ => ?_)
        · exact e_X11_faultOf_57 O ih R _ s_a0 _ _ _ _
        · exact e_X11_faultOf_57 O ih R _ s_a0 _ _ _ _
theorem e_X11_faultOf {S : Nat × Nat → Bool} {ρ : Nat × Nat → Nat × Nat} (O : RhoOk S ρ)  {h g : am_H} (R : eqR S ρ h g) (a0 : Nat × Nat) (s_a0 : S a0 = true) : eqQ S ρ h g (f_X11_faultOf a0 h) (f_X11_faultOf (ρ a0) g) := by
  rw [f_X11_faultOf, f_X11_faultOf]
  exact e_X11_faultOf_6 O _ R _ s_a0 _ _ _
theorem e_X11_fault {S : Nat × Nat → Bool} {ρ : Nat × Nat → Nat × Nat} (O : RhoOk S ρ)  {h g : am_H} (R : eqR S ρ h g) (a0 : Nat × Nat) (s_a0 : S a0 = true) : eqQ S ρ h g (f_X11_fault a0 h) (f_X11_fault (ρ a0) g) := by
  rw [f_X11_fault, f_X11_fault]
  refine q_pI O R (okp_s s_a0) (fun h1 gh1 R => ?_)
  refine q_ao O (okp_s s_a0) (fun a4 s_a4 => ?_)
  refine q_bI (e_X11_faultOf O R _ s_a4) (fun h2 gh2 v3 R => ?_)
  exact q_ri R
theorem e_X11_init_359 {S : Nat × Nat → Bool} {ρ : Nat × Nat → Nat × Nat} (O : RhoOk S ρ)  : ∀ (n : Nat) {h g : am_H} (_ : eqR S ρ h g) (a0 : Nat × Nat) (s_a0 : S a0 = true) (x1 : Int32), eqQ S ρ h g (f_X11_init_359 n a0 x1 h) (f_X11_init_359 n (ρ a0) x1 g) := by
  intro n
  induction n with
  | zero => intros; exact q_none
  | succ n ih =>
    intro h g R a0 s_a0 x1
    rw [f_X11_init_359, f_X11_init_359]
    refine q_ite (fun _ => ?_) (fun _ => ?_)
    · exact q_rtn R
    · refine q_gR O R (okp_s s_a0) (fun o119 p_o119 => ?_)
      refine q_sI O R p_o119 (fun h120 gh120 R => ?_)
      exact ih R _ s_a0 _
theorem e_X11_init_337 {S : Nat × Nat → Bool} {ρ : Nat × Nat → Nat × Nat} (O : RhoOk S ρ)  : ∀ (n : Nat) {h g : am_H} (_ : eqR S ρ h g) (a0 : Nat × Nat) (s_a0 : S a0 = true) (x1 : Int32), eqQ S ρ h g (f_X11_init_337 n a0 x1 h) (f_X11_init_337 n (ρ a0) x1 g) := by
  intro n
  induction n with
  | zero => intros; exact q_none
  | succ n ih =>
    intro h g R a0 s_a0 x1
    rw [f_X11_init_337, f_X11_init_337]
    refine q_ite (fun _ => ?_) (fun _ => ?_)
    · exact e_X11_init_359 O _ R _ s_a0 _
    · refine q_gR O R (okp_s s_a0) (fun o117 p_o117 => ?_)
      refine q_sI O R p_o117 (fun h118 gh118 R => ?_)
      exact ih R _ s_a0 _
theorem e_X11_init_316 {S : Nat × Nat → Bool} {ρ : Nat × Nat → Nat × Nat} (O : RhoOk S ρ)  : ∀ (n : Nat) {h g : am_H} (_ : eqR S ρ h g) (a0 : Nat × Nat) (s_a0 : S a0 = true) (x1 : Int32), eqQ S ρ h g (f_X11_init_316 n a0 x1 h) (f_X11_init_316 n (ρ a0) x1 g) := by
  intro n
  induction n with
  | zero => intros; exact q_none
  | succ n ih =>
    intro h g R a0 s_a0 x1
    rw [f_X11_init_316, f_X11_init_316]
    refine q_ite (fun _ => ?_) (fun _ => ?_)
    · exact e_X11_init_337 O _ R _ s_a0 _
    · refine q_gR O R (okp_s s_a0) (fun o115 p_o115 => ?_)
      refine q_sI O R p_o115 (fun h116 gh116 R => ?_)
      exact ih R _ s_a0 _
theorem e_X11_bits_4 {S : Nat × Nat → Bool} {ρ : Nat × Nat → Nat × Nat} (O : RhoOk S ρ)  : ∀ (n : Nat) {h g : am_H} (_ : eqR S ρ h g) (x0 : Int32) (x1 : Int32) (x2 : Int32), eqQ S ρ h g (f_X11_bits_4 n x0 x1 x2 h) (f_X11_bits_4 n x0 x1 x2 g) := by
  intro n
  induction n with
  | zero => intros; exact q_none
  | succ n ih =>
    intro h g R x0 x1 x2
    rw [f_X11_bits_4, f_X11_bits_4]
    refine q_ite (fun _ => ?_) (fun _ => ?_)
    · exact q_ri R
    · exact ih R _ _ _
theorem e_X11_bits {S : Nat × Nat → Bool} {ρ : Nat × Nat → Nat × Nat} (O : RhoOk S ρ)  {h g : am_H} (R : eqR S ρ h g) (x0 : Int32) : eqQ S ρ h g (f_X11_bits x0 h) (f_X11_bits x0 g) := by
  rw [f_X11_bits, f_X11_bits]
  exact e_X11_bits_4 O _ R _ _ _
theorem e_X11_join_86 {S : Nat × Nat → Bool} {ρ : Nat × Nat → Nat × Nat} (O : RhoOk S ρ)  {h g : am_H} (R : eqR S ρ h g) (a0 : Nat × Nat) (s_a0 : S a0 = true) (x1 : Int32) (x2 : Int32) (s0 : Int32) (s1 : Option (Nat × Nat)) (p_s1 : okp S s1) : eqQ S ρ h g (f_X11_join_86 a0 x1 x2 s0 s1 h) (f_X11_join_86 (ρ a0) x1 x2 s0 (s1.map ρ) g) := by
  rw [f_X11_join_86, f_X11_join_86]
  refine q_ao O p_s1 (fun a18 s_a18 => ?_)
  refine q_bI (e_X11_holds O R _ s_a18 _) (fun h16 gh16 v17 R => ?_)
  refine q_ite (fun _ => ?_) (fun _ => ?_)
  · exact q_ri R
  · refine q_gR O R (okp_s s_a0) (fun o19 p_o19 => ?_)
    refine q_aI O R p_o19 (fun v20 => ?_)
    refine q_sI O R p_o19 (fun h21 gh21 R => ?_)
    refine q_gR O R (okp_s s_a0) (fun o22 p_o22 => ?_)
    refine q_aI O R p_o22 (fun v23 => ?_)
    refine q_bI (e_X11_bits O R _) (fun h24 gh24 v25 R => ?_)
    exact q_ri R
theorem e_X11_join_65 {S : Nat × Nat → Bool} {ρ : Nat × Nat → Nat × Nat} (O : RhoOk S ρ)  {h g : am_H} (R : eqR S ρ h g) (a0 : Nat × Nat) (s_a0 : S a0 = true) (x1 : Int32) (x2 : Int32) (x3 : Int32) (s0 : Int32) : eqQ S ρ h g (f_X11_join_65 a0 x1 x2 x3 s0 h) (f_X11_join_65 (ρ a0) x1 x2 x3 s0 g) := by
  rw [f_X11_join_65, f_X11_join_65]
  refine q_ite (fun _ => ?_) (fun _ => ?_)
  · exact e_X11_join_86 O R _ s_a0 _ _ _ _ (okp_s s_a0)
  · refine q_ite (fun _ => ?_) (fun _ => ?_)
    · exact e_X11_join_86 O R _ s_a0 _ _ _ _ (okp_s s_a0)
    · exact e_X11_join_86 O R _ s_a0 _ _ _ _ (okp_s s_a0)
theorem e_X11_join_64 {S : Nat × Nat → Bool} {ρ : Nat × Nat → Nat × Nat} (O : RhoOk S ρ)  {h g : am_H} (R : eqR S ρ h g) (a0 : Nat × Nat) (s_a0 : S a0 = true) (x1 : Int32) (x2 : Int32) (x3 : Int32) : eqQ S ρ h g (f_X11_join_64 a0 x1 x2 x3 h) (f_X11_join_64 (ρ a0) x1 x2 x3 g) := by
  rw [f_X11_join_64, f_X11_join_64]
  exact e_X11_join_65 O R _ s_a0 _ _ _ _
theorem e_X11_join_20 {S : Nat × Nat → Bool} {ρ : Nat × Nat → Nat × Nat} (O : RhoOk S ρ)  {h g : am_H} (R : eqR S ρ h g) (a0 : Nat × Nat) (s_a0 : S a0 = true) (x1 : Int32) (x2 : Int32) (s0 : Int32) : eqQ S ρ h g (f_X11_join_20 a0 x1 x2 s0 h) (f_X11_join_20 (ρ a0) x1 x2 s0 g) := by
  rw [f_X11_join_20, f_X11_join_20]
  refine q_ite (fun _ => ?_) (fun _ => ?_)
  · exact e_X11_join_64 O R _ s_a0 _ _ _
  · refine q_gR O R (okp_s s_a0) (fun o6 p_o6 => ?_)
    refine q_aI O R p_o6 (fun v7 => ?_)
    refine q_bI (e_X11_has O R _ _) (fun h8 gh8 v9 R => ?_)
    refine q_ite (fun _ => ?_) (fun _ => ?_)
    · refine q_gR O R (okp_s s_a0) (fun o10 p_o10 => ?_)
      refine q_aI O R p_o10 (fun v11 => ?_)
      refine q_ite (fun _ => ?_) (fun _ => ?_)
      · exact e_X11_join_64 O R _ s_a0 _ _ _
      · refine q_gR O R (okp_s s_a0) (fun o12 p_o12 => ?_)
        refine q_aI O R p_o12 (fun v13 => ?_)
        refine q_bI (e_X11_bits O R _) (fun h14 gh14 v15 R => ?_)
        refine q_ite (fun _ => ?_) (fun _ => ?_)
        · exact e_X11_join_64 O R _ s_a0 _ _ _
        · exact e_X11_join_65 O R _ s_a0 _ _ _ _
    · exact e_X11_join_64 O R _ s_a0 _ _ _
theorem e_X11_join_19 {S : Nat × Nat → Bool} {ρ : Nat × Nat → Nat × Nat} (O : RhoOk S ρ)  {h g : am_H} (R : eqR S ρ h g) (a0 : Nat × Nat) (s_a0 : S a0 = true) (x1 : Int32) (x2 : Int32) : eqQ S ρ h g (f_X11_join_19 a0 x1 x2 h) (f_X11_join_19 (ρ a0) x1 x2 g) := by
  rw [f_X11_join_19, f_X11_join_19]
  exact e_X11_join_20 O R _ s_a0 _ _ _
theorem e_X11_join {S : Nat × Nat → Bool} {ρ : Nat × Nat → Nat × Nat} (O : RhoOk S ρ)  {h g : am_H} (R : eqR S ρ h g) (a0 : Nat × Nat) (s_a0 : S a0 = true) (x1 : Int32) (x2 : Int32) : eqQ S ρ h g (f_X11_join a0 x1 x2 h) (f_X11_join (ρ a0) x1 x2 g) := by
  rw [f_X11_join, f_X11_join]
  refine q_ao O (okp_s s_a0) (fun a3 s_a3 => ?_)
  refine q_bI (e_X11_isWork O R _ s_a3 _) (fun h1 gh1 v2 R => ?_)
  refine q_ite (fun _ => ?_) (fun _ => ?_)
  · exact e_X11_join_19 O R _ s_a0 _ _
  · refine q_bI (e_X11_isPerson O R _) (fun h4 gh4 v5 R => ?_)
    refine q_ite (fun _ => ?_) (fun _ => ?_)
    · exact e_X11_join_19 O R _ s_a0 _ _
    · exact e_X11_join_20 O R _ s_a0 _ _ _
theorem e_X11_gave_36 {S : Nat × Nat → Bool} {ρ : Nat × Nat → Nat × Nat} (O : RhoOk S ρ) {rc4 : Nat × Nat → Int32 → Int32 → Int32 → am_H → am_R} (hrc4 : ∀ {h g : am_H} (_ : eqR S ρ h g) (y0 : Nat × Nat) (s_y0 : S y0 = true) (y1 : Int32) (y2 : Int32) (y3 : Int32), eqQ S ρ h g (rc4 y0 y1 y2 y3 h) (rc4 (ρ y0) y1 y2 y3 g)) {h g : am_H} (R : eqR S ρ h g) (a0 : Nat × Nat) (s_a0 : S a0 = true) (x1 : Int32) (x3 : Int32) (s0 : Int32) (s1 : Int32) : eqQ S ρ h g (f_X11_gave_36 rc4 a0 x1 x3 s0 s1 h) (f_X11_gave_36 rc4 (ρ a0) x1 x3 s0 s1 g) := by
  rw [f_X11_gave_36, f_X11_gave_36]
  exact hrc4 R _ s_a0 _ _ _
theorem e_X11_gave_4 {S : Nat × Nat → Bool} {ρ : Nat × Nat → Nat × Nat} (O : RhoOk S ρ)  : ∀ (n : Nat) {h g : am_H} (_ : eqR S ρ h g) (a0 : Nat × Nat) (s_a0 : S a0 = true) (x1 : Int32) (x2 : Int32) (x3 : Int32), eqQ S ρ h g (f_X11_gave_4 n a0 x1 x2 x3 h) (f_X11_gave_4 n (ρ a0) x1 x2 x3 g) := by
  intro n
  induction n with
  | zero => intros; exact q_none
  | succ n ih =>
    intro h g R a0 s_a0 x1 x2 x3
    rw [f_X11_gave_4, f_X11_gave_4]
    refine q_ite (fun _ => ?_) (fun _ => ?_)
    · exact q_ri R
    · refine q_gR O R (okp_s s_a0) (fun o1 p_o1 => ?_)
      refine q_aI O R p_o1 (fun v2 => ?_)
      refine q_bI (e_X11_has O R _ _) (fun h3 gh3 v4 R => ?_)
      refine q_ite (fun _ => ?_) (fun _ => ?_)
      · exact e_X11_gave_36 O ih R _ s_a0 _ _ _ _
      · refine q_gR O R (okp_s s_a0) (fun o5 p_o5 => ?_)
        refine q_aI O R p_o5 (fun v6 => ?_)
        exact e_X11_gave_36 O ih R _ s_a0 _ _ _ _
theorem e_X11_gave {S : Nat × Nat → Bool} {ρ : Nat × Nat → Nat × Nat} (O : RhoOk S ρ)  {h g : am_H} (R : eqR S ρ h g) (a0 : Nat × Nat) (s_a0 : S a0 = true) (x1 : Int32) : eqQ S ρ h g (f_X11_gave a0 x1 h) (f_X11_gave (ρ a0) x1 g) := by
  rw [f_X11_gave, f_X11_gave]
  exact e_X11_gave_4 O _ R _ s_a0 _ _ _
theorem e_X11_kudos_86 {S : Nat × Nat → Bool} {ρ : Nat × Nat → Nat × Nat} (O : RhoOk S ρ)  {h g : am_H} (R : eqR S ρ h g) (a0 : Nat × Nat) (s_a0 : S a0 = true) (x1 : Int32) (x2 : Int32) (s0 : Int32) (s1 : Option (Nat × Nat)) (p_s1 : okp S s1) : eqQ S ρ h g (f_X11_kudos_86 a0 x1 x2 s0 s1 h) (f_X11_kudos_86 (ρ a0) x1 x2 s0 (s1.map ρ) g) := by
  rw [f_X11_kudos_86, f_X11_kudos_86]
  refine q_ao O p_s1 (fun a21 s_a21 => ?_)
  refine q_bI (e_X11_holds O R _ s_a21 _) (fun h19 gh19 v20 R => ?_)
  refine q_ite (fun _ => ?_) (fun _ => ?_)
  · exact q_ri R
  · refine q_gR O R (okp_s s_a0) (fun o22 p_o22 => ?_)
    refine q_aI O R p_o22 (fun v23 => ?_)
    refine q_sI O R p_o22 (fun h24 gh24 R => ?_)
    refine q_ao O (okp_s s_a0) (fun a27 s_a27 => ?_)
    refine q_bI (e_X11_gave O R _ s_a27 _) (fun h25 gh25 v26 R => ?_)
    refine q_bI (e_X11_bits O R _) (fun h28 gh28 v29 R => ?_)
    exact q_ri R
theorem e_X11_kudos_65 {S : Nat × Nat → Bool} {ρ : Nat × Nat → Nat × Nat} (O : RhoOk S ρ)  {h g : am_H} (R : eqR S ρ h g) (a0 : Nat × Nat) (s_a0 : S a0 = true) (x1 : Int32) (x2 : Int32) (x3 : Int32) (s0 : Int32) : eqQ S ρ h g (f_X11_kudos_65 a0 x1 x2 x3 s0 h) (f_X11_kudos_65 (ρ a0) x1 x2 x3 s0 g) := by
  rw [f_X11_kudos_65, f_X11_kudos_65]
  refine q_ite (fun _ => ?_) (fun _ => ?_)
  · exact e_X11_kudos_86 O R _ s_a0 _ _ _ _ (okp_s s_a0)
  · refine q_ite (fun _ => ?_) (fun _ => ?_)
    · exact e_X11_kudos_86 O R _ s_a0 _ _ _ _ (okp_s s_a0)
    · exact e_X11_kudos_86 O R _ s_a0 _ _ _ _ (okp_s s_a0)
theorem e_X11_kudos_64 {S : Nat × Nat → Bool} {ρ : Nat × Nat → Nat × Nat} (O : RhoOk S ρ)  {h g : am_H} (R : eqR S ρ h g) (a0 : Nat × Nat) (s_a0 : S a0 = true) (x1 : Int32) (x2 : Int32) (x3 : Int32) : eqQ S ρ h g (f_X11_kudos_64 a0 x1 x2 x3 h) (f_X11_kudos_64 (ρ a0) x1 x2 x3 g) := by
  rw [f_X11_kudos_64, f_X11_kudos_64]
  exact e_X11_kudos_65 O R _ s_a0 _ _ _ _
theorem e_X11_kudos_20 {S : Nat × Nat → Bool} {ρ : Nat × Nat → Nat × Nat} (O : RhoOk S ρ)  {h g : am_H} (R : eqR S ρ h g) (a0 : Nat × Nat) (s_a0 : S a0 = true) (x1 : Int32) (x2 : Int32) (s0 : Int32) : eqQ S ρ h g (f_X11_kudos_20 a0 x1 x2 s0 h) (f_X11_kudos_20 (ρ a0) x1 x2 s0 g) := by
  rw [f_X11_kudos_20, f_X11_kudos_20]
  refine q_ite (fun _ => ?_) (fun _ => ?_)
  · exact e_X11_kudos_64 O R _ s_a0 _ _ _
  · refine q_ao O (okp_s s_a0) (fun a8 s_a8 => ?_)
    refine q_bI (e_X11_isSeen O R _ s_a8 _ _) (fun h6 gh6 v7 R => ?_)
    refine q_ite (fun _ => ?_) (fun _ => ?_)
    · exact e_X11_kudos_64 O R _ s_a0 _ _ _
    · refine q_ao O (okp_s s_a0) (fun a11 s_a11 => ?_)
      refine q_bI (e_X11_isOwner O R _ s_a11 _ _) (fun h9 gh9 v10 R => ?_)
      refine q_ite (fun _ => ?_) (fun _ => ?_)
      · refine q_ao O (okp_s s_a0) (fun a14 s_a14 => ?_)
        refine q_bI (e_X11_gave O R _ s_a14 _) (fun h12 gh12 v13 R => ?_)
        refine q_gR O R (okp_s s_a0) (fun o15 p_o15 => ?_)
        refine q_aI O R p_o15 (fun v16 => ?_)
        refine q_bI (e_X11_has O R _ _) (fun h17 gh17 v18 R => ?_)
        refine q_ite (fun _ => ?_) (fun _ => ?_)
        · exact e_X11_kudos_65 O R _ s_a0 _ _ _ _
        · exact e_X11_kudos_64 O R _ s_a0 _ _ _
      · exact e_X11_kudos_64 O R _ s_a0 _ _ _
theorem e_X11_kudos_19 {S : Nat × Nat → Bool} {ρ : Nat × Nat → Nat × Nat} (O : RhoOk S ρ)  {h g : am_H} (R : eqR S ρ h g) (a0 : Nat × Nat) (s_a0 : S a0 = true) (x1 : Int32) (x2 : Int32) : eqQ S ρ h g (f_X11_kudos_19 a0 x1 x2 h) (f_X11_kudos_19 (ρ a0) x1 x2 g) := by
  rw [f_X11_kudos_19, f_X11_kudos_19]
  exact e_X11_kudos_20 O R _ s_a0 _ _ _
theorem e_X11_kudos {S : Nat × Nat → Bool} {ρ : Nat × Nat → Nat × Nat} (O : RhoOk S ρ)  {h g : am_H} (R : eqR S ρ h g) (a0 : Nat × Nat) (s_a0 : S a0 = true) (x1 : Int32) (x2 : Int32) : eqQ S ρ h g (f_X11_kudos a0 x1 x2 h) (f_X11_kudos (ρ a0) x1 x2 g) := by
  rw [f_X11_kudos, f_X11_kudos]
  refine q_ao O (okp_s s_a0) (fun a3 s_a3 => ?_)
  refine q_bI (e_X11_isWork O R _ s_a3 _) (fun h1 gh1 v2 R => ?_)
  refine q_ite (fun _ => ?_) (fun _ => ?_)
  · exact e_X11_kudos_19 O R _ s_a0 _ _
  · refine q_bI (e_X11_isFace O R _) (fun h4 gh4 v5 R => ?_)
    refine q_ite (fun _ => ?_) (fun _ => ?_)
    · exact e_X11_kudos_19 O R _ s_a0 _ _
    · exact e_X11_kudos_20 O R _ s_a0 _ _ _
theorem e_X11_leave_48 {S : Nat × Nat → Bool} {ρ : Nat × Nat → Nat × Nat} (O : RhoOk S ρ)  {h g : am_H} (R : eqR S ρ h g) (a0 : Nat × Nat) (s_a0 : S a0 = true) (x1 : Int32) (x2 : Int32) (s0 : Int32) (s1 : Option (Nat × Nat)) (p_s1 : okp S s1) : eqQ S ρ h g (f_X11_leave_48 a0 x1 x2 s0 s1 h) (f_X11_leave_48 (ρ a0) x1 x2 s0 (s1.map ρ) g) := by
  rw [f_X11_leave_48, f_X11_leave_48]
  refine q_ao O p_s1 (fun a12 s_a12 => ?_)
  refine q_bI (e_X11_holds O R _ s_a12 _) (fun h10 gh10 v11 R => ?_)
  refine q_ite (fun _ => ?_) (fun _ => ?_)
  · exact q_ri R
  · refine q_gR O R (okp_s s_a0) (fun o13 p_o13 => ?_)
    refine q_aI O R p_o13 (fun v14 => ?_)
    refine q_sI O R p_o13 (fun h15 gh15 R => ?_)
    refine q_gR O R (okp_s s_a0) (fun o16 p_o16 => ?_)
    refine q_aI O R p_o16 (fun v17 => ?_)
    refine q_bI (e_X11_bits O R _) (fun h18 gh18 v19 R => ?_)
    exact q_ri R
theorem e_X11_leave_20 {S : Nat × Nat → Bool} {ρ : Nat × Nat → Nat × Nat} (O : RhoOk S ρ)  {h g : am_H} (R : eqR S ρ h g) (a0 : Nat × Nat) (s_a0 : S a0 = true) (x1 : Int32) (x2 : Int32) (s0 : Int32) : eqQ S ρ h g (f_X11_leave_20 a0 x1 x2 s0 h) (f_X11_leave_20 (ρ a0) x1 x2 s0 g) := by
  rw [f_X11_leave_20, f_X11_leave_20]
  refine q_ite (fun _ => ?_) (fun _ => ?_)
  · exact e_X11_leave_48 O R _ s_a0 _ _ _ _ (okp_s s_a0)
  · refine q_gR O R (okp_s s_a0) (fun o6 p_o6 => ?_)
    refine q_aI O R p_o6 (fun v7 => ?_)
    refine q_bI (e_X11_has O R _ _) (fun h8 gh8 v9 R => ?_)
    refine q_ite (fun _ => ?_) (fun _ => ?_)
    · exact e_X11_leave_48 O R _ s_a0 _ _ _ _ (okp_s s_a0)
    · exact e_X11_leave_48 O R _ s_a0 _ _ _ _ (okp_s s_a0)
theorem e_X11_leave_19 {S : Nat × Nat → Bool} {ρ : Nat × Nat → Nat × Nat} (O : RhoOk S ρ)  {h g : am_H} (R : eqR S ρ h g) (a0 : Nat × Nat) (s_a0 : S a0 = true) (x1 : Int32) (x2 : Int32) : eqQ S ρ h g (f_X11_leave_19 a0 x1 x2 h) (f_X11_leave_19 (ρ a0) x1 x2 g) := by
  rw [f_X11_leave_19, f_X11_leave_19]
  exact e_X11_leave_20 O R _ s_a0 _ _ _
theorem e_X11_leave {S : Nat × Nat → Bool} {ρ : Nat × Nat → Nat × Nat} (O : RhoOk S ρ)  {h g : am_H} (R : eqR S ρ h g) (a0 : Nat × Nat) (s_a0 : S a0 = true) (x1 : Int32) (x2 : Int32) : eqQ S ρ h g (f_X11_leave a0 x1 x2 h) (f_X11_leave (ρ a0) x1 x2 g) := by
  rw [f_X11_leave, f_X11_leave]
  refine q_ao O (okp_s s_a0) (fun a3 s_a3 => ?_)
  refine q_bI (e_X11_isWork O R _ s_a3 _) (fun h1 gh1 v2 R => ?_)
  refine q_ite (fun _ => ?_) (fun _ => ?_)
  · exact e_X11_leave_19 O R _ s_a0 _ _
  · refine q_bI (e_X11_isPerson O R _) (fun h4 gh4 v5 R => ?_)
    refine q_ite (fun _ => ?_) (fun _ => ?_)
    · exact e_X11_leave_19 O R _ s_a0 _ _
    · exact e_X11_leave_20 O R _ s_a0 _ _ _
theorem e_X11_liked_32 {S : Nat × Nat → Bool} {ρ : Nat × Nat → Nat × Nat} (O : RhoOk S ρ)  {h g : am_H} (R : eqR S ρ h g) (s0 : Int32) : eqQ S ρ h g (f_X11_liked_32 s0 h) (f_X11_liked_32 s0 g) := by
  rw [f_X11_liked_32, f_X11_liked_32]
  exact q_ri R
theorem e_X11_liked_14 {S : Nat × Nat → Bool} {ρ : Nat × Nat → Nat × Nat} (O : RhoOk S ρ)  {h g : am_H} (R : eqR S ρ h g) (a0 : Nat × Nat) (s_a0 : S a0 = true) (x1 : Int32) (s0 : Int32) (s1 : Option (Nat × Nat)) (p_s1 : okp S s1) : eqQ S ρ h g (f_X11_liked_14 a0 x1 s0 s1 h) (f_X11_liked_14 (ρ a0) x1 s0 (s1.map ρ) g) := by
  rw [f_X11_liked_14, f_X11_liked_14]
  refine q_ao O p_s1 (fun a6 s_a6 => ?_)
  refine q_bI (e_X11_holds O R _ s_a6 _) (fun h4 gh4 v5 R => ?_)
  refine q_ite (fun _ => ?_) (fun _ => ?_)
  · exact e_X11_liked_32 O R _
  · refine q_ao O (okp_s s_a0) (fun a9 s_a9 => ?_)
    refine q_bI (e_X11_gave O R _ s_a9 _) (fun h7 gh7 v8 R => ?_)
    refine q_bI (e_X11_bits O R _) (fun h10 gh10 v11 R => ?_)
    exact e_X11_liked_32 O R _
theorem e_X11_liked {S : Nat × Nat → Bool} {ρ : Nat × Nat → Nat × Nat} (O : RhoOk S ρ)  {h g : am_H} (R : eqR S ρ h g) (a0 : Nat × Nat) (s_a0 : S a0 = true) (x1 : Int32) : eqQ S ρ h g (f_X11_liked a0 x1 h) (f_X11_liked (ρ a0) x1 g) := by
  rw [f_X11_liked, f_X11_liked]
  refine q_ao O (okp_s s_a0) (fun a3 s_a3 => ?_)
  refine q_bI (e_X11_isWork O R _ s_a3 _) (fun h1 gh1 v2 R => ?_)
  refine q_ite (fun _ => ?_) (fun _ => ?_)
  · exact e_X11_liked_14 O R _ s_a0 _ _ _ (okp_s s_a0)
  · exact e_X11_liked_14 O R _ s_a0 _ _ _ (okp_s s_a0)
theorem e_X11_lock_14 {S : Nat × Nat → Bool} {ρ : Nat × Nat → Nat × Nat} (O : RhoOk S ρ)  {h g : am_H} (R : eqR S ρ h g) (a0 : Nat × Nat) (s_a0 : S a0 = true) (x1 : Int32) (x2 : Int32) (s0 : Int32) (s1 : Option (Nat × Nat)) (p_s1 : okp S s1) : eqQ S ρ h g (f_X11_lock_14 a0 x1 x2 s0 s1 h) (f_X11_lock_14 (ρ a0) x1 x2 s0 (s1.map ρ) g) := by
  rw [f_X11_lock_14, f_X11_lock_14]
  refine q_ao O p_s1 (fun a6 s_a6 => ?_)
  refine q_bI (e_X11_holds O R _ s_a6 _) (fun h4 gh4 v5 R => ?_)
  refine q_ite (fun _ => ?_) (fun _ => ?_)
  · exact q_rz R
  · refine q_gR O R (okp_s s_a0) (fun o7 p_o7 => ?_)
    refine q_aI O R p_o7 (fun v8 => ?_)
    refine q_gR O R (okp_s s_a0) (fun o9 p_o9 => ?_)
    refine q_sZ O R p_o9 (fun h10 gh10 R => ?_)
    exact q_rz R
theorem e_X11_lock {S : Nat × Nat → Bool} {ρ : Nat × Nat → Nat × Nat} (O : RhoOk S ρ)  {h g : am_H} (R : eqR S ρ h g) (a0 : Nat × Nat) (s_a0 : S a0 = true) (x1 : Int32) (x2 : Int32) : eqQ S ρ h g (f_X11_lock a0 x1 x2 h) (f_X11_lock (ρ a0) x1 x2 g) := by
  rw [f_X11_lock, f_X11_lock]
  refine q_ao O (okp_s s_a0) (fun a3 s_a3 => ?_)
  refine q_bI (e_X11_isWork O R _ s_a3 _) (fun h1 gh1 v2 R => ?_)
  refine q_ite (fun _ => ?_) (fun _ => ?_)
  · exact e_X11_lock_14 O R _ s_a0 _ _ _ _ (okp_s s_a0)
  · exact e_X11_lock_14 O R _ s_a0 _ _ _ _ (okp_s s_a0)
theorem e_X11_isTag {S : Nat × Nat → Bool} {ρ : Nat × Nat → Nat × Nat} (O : RhoOk S ρ)  {h g : am_H} (R : eqR S ρ h g) (a0 : Nat × Nat) (s_a0 : S a0 = true) (x1 : Int32) : eqQ S ρ h g (f_X11_isTag a0 x1 h) (f_X11_isTag (ρ a0) x1 g) := by
  rw [f_X11_isTag, f_X11_isTag]
  refine q_gI O R (okp_s s_a0) (fun v1 => ?_)
  refine q_bI (e_X11_in O R _ _ _) (fun h2 gh2 v3 R => ?_)
  exact q_rz R
theorem e_X11_letsWait_38 {S : Nat × Nat → Bool} {ρ : Nat × Nat → Nat × Nat} (O : RhoOk S ρ) {rc2 : Nat × Nat → Int32 → am_H → am_R} (hrc2 : ∀ {h g : am_H} (_ : eqR S ρ h g) (y0 : Nat × Nat) (s_y0 : S y0 = true) (y1 : Int32), eqQ S ρ h g (rc2 y0 y1 h) (rc2 (ρ y0) y1 g)) {h g : am_H} (R : eqR S ρ h g) (a0 : Nat × Nat) (s_a0 : S a0 = true) (x1 : Int32) (s0 : Int32) (s1 : Int32) (s2 : Option (Nat × Nat)) (p_s2 : okp S s2) : eqQ S ρ h g (f_X11_letsWait_38 rc2 a0 x1 s0 s1 s2 h) (f_X11_letsWait_38 rc2 (ρ a0) x1 s0 s1 (s2.map ρ) g) := by
  rw [f_X11_letsWait_38, f_X11_letsWait_38]
  refine q_sZ O R p_s2 (fun h7 gh7 R => ?_)
  exact hrc2 R _ s_a0 _
theorem e_X11_letsWait_33 {S : Nat × Nat → Bool} {ρ : Nat × Nat → Nat × Nat} (O : RhoOk S ρ) {rc2 : Nat × Nat → Int32 → am_H → am_R} (hrc2 : ∀ {h g : am_H} (_ : eqR S ρ h g) (y0 : Nat × Nat) (s_y0 : S y0 = true) (y1 : Int32), eqQ S ρ h g (rc2 y0 y1 h) (rc2 (ρ y0) y1 g)) {h g : am_H} (R : eqR S ρ h g) (a0 : Nat × Nat) (s_a0 : S a0 = true) (x1 : Int32) (s0 : Int32) (s1 : Option (Nat × Nat)) (p_s1 : okp S s1) : eqQ S ρ h g (f_X11_letsWait_33 rc2 a0 x1 s0 s1 h) (f_X11_letsWait_33 rc2 (ρ a0) x1 s0 (s1.map ρ) g) := by
  rw [f_X11_letsWait_33, f_X11_letsWait_33]
  exact e_X11_letsWait_38 O hrc2 R _ s_a0 _ _ _ _ p_s1
theorem e_X11_letsWait_2 {S : Nat × Nat → Bool} {ρ : Nat × Nat → Nat × Nat} (O : RhoOk S ρ)  : ∀ (n : Nat) {h g : am_H} (_ : eqR S ρ h g) (a0 : Nat × Nat) (s_a0 : S a0 = true) (x1 : Int32), eqQ S ρ h g (f_X11_letsWait_2 n a0 x1 h) (f_X11_letsWait_2 n (ρ a0) x1 g) := by
  intro n
  induction n with
  | zero => intros; exact q_none
  | succ n ih =>
    intro h g R a0 s_a0 x1
    rw [f_X11_letsWait_2, f_X11_letsWait_2]
    refine q_gI O R (okp_s s_a0) (fun v1 => ?_)
    refine q_ite (fun _ => ?_) (fun _ => ?_)
    · exact q_rtn R
    · refine q_gR O R (okp_s s_a0) (fun o2 p_o2 => ?_)
      refine q_gR O R (okp_s s_a0) (fun o3 p_o3 => ?_)
      refine q_aI O R p_o3 (fun v4 => ?_)
      refine q_ite (fun _ => ?_) (fun _ => ?_)
      · refine q_gR O R (okp_s s_a0) (fun o5 p_o5 => ?_)
        refine q_aI O R p_o5 (fun v6 => ?_)
        refine q_ite (fun _ => ?_) (fun _ => ?_)
        · exact e_X11_letsWait_38 O ih R _ s_a0 _ _ _ _ p_o2
        · exact e_X11_letsWait_33 O ih R _ s_a0 _ _ _ p_o2
      · exact e_X11_letsWait_33 O ih R _ s_a0 _ _ _ p_o2
theorem e_X11_letsWait {S : Nat × Nat → Bool} {ρ : Nat × Nat → Nat × Nat} (O : RhoOk S ρ)  {h g : am_H} (R : eqR S ρ h g) (a0 : Nat × Nat) (s_a0 : S a0 = true) : eqQ S ρ h g (f_X11_letsWait a0 h) (f_X11_letsWait (ρ a0) g) := by
  rw [f_X11_letsWait, f_X11_letsWait]
  exact e_X11_letsWait_2 O _ R _ s_a0 _
theorem e_X11_make_30 {S : Nat × Nat → Bool} {ρ : Nat × Nat → Nat × Nat} (O : RhoOk S ρ)  {h g : am_H} (R : eqR S ρ h g) (a0 : Nat × Nat) (s_a0 : S a0 = true) (x1 : Int32) (s0 : Int32) (s1 : Option (Nat × Nat)) (p_s1 : okp S s1) : eqQ S ρ h g (f_X11_make_30 a0 x1 s0 s1 h) (f_X11_make_30 (ρ a0) x1 s0 (s1.map ρ) g) := by
  rw [f_X11_make_30, f_X11_make_30]
  refine q_ao O p_s1 (fun a8 s_a8 => ?_)
  refine q_bI (e_X11_holds O R _ s_a8 _) (fun h6 gh6 v7 R => ?_)
  refine q_ite (fun _ => ?_) (fun _ => ?_)
  · exact q_ri R
  · refine q_gR O R (okp_s s_a0) (fun o9 p_o9 => ?_)
    refine q_aI O R p_o9 (fun v10 => ?_)
    refine q_gR O R (okp_s s_a0) (fun o11 p_o11 => ?_)
    refine q_sI O R p_o11 (fun h12 gh12 R => ?_)
    refine q_gR O R (okp_s s_a0) (fun o13 p_o13 => ?_)
    refine q_sI O R p_o13 (fun h14 gh14 R => ?_)
    refine q_ao O (okp_s s_a0) (fun a17 s_a17 => ?_)
    refine q_bV (e_X11_letsWait O R _ s_a17) (fun h15 gh15 R => ?_)
    exact q_ri R
theorem e_X11_make {S : Nat × Nat → Bool} {ρ : Nat × Nat → Nat × Nat} (O : RhoOk S ρ)  {h g : am_H} (R : eqR S ρ h g) (a0 : Nat × Nat) (s_a0 : S a0 = true) (x1 : Int32) : eqQ S ρ h g (f_X11_make a0 x1 h) (f_X11_make (ρ a0) x1 g) := by
  rw [f_X11_make, f_X11_make]
  refine q_ao O (okp_s s_a0) (fun a3 s_a3 => ?_)
  refine q_bI (e_X11_isTag O R _ s_a3 _) (fun h1 gh1 v2 R => ?_)
  refine q_ite (fun _ => ?_) (fun _ => ?_)
  · exact e_X11_make_30 O R _ s_a0 _ _ _ (okp_s s_a0)
  · refine q_gR O R (okp_s s_a0) (fun o4 p_o4 => ?_)
    refine q_aI O R p_o4 (fun v5 => ?_)
    refine q_ite (fun _ => ?_) (fun _ => ?_)
    · exact e_X11_make_30 O R _ s_a0 _ _ _ (okp_s s_a0)
    · exact e_X11_make_30 O R _ s_a0 _ _ _ (okp_s s_a0)
theorem e_X11_aboveOf_49 {S : Nat × Nat → Bool} {ρ : Nat × Nat → Nat × Nat} (O : RhoOk S ρ) {rc9 : Nat × Nat → Int32 → Int32 → am_H → am_R} (hrc9 : ∀ {h g : am_H} (_ : eqR S ρ h g) (y0 : Nat × Nat) (s_y0 : S y0 = true) (y1 : Int32) (y2 : Int32), eqQ S ρ h g (rc9 y0 y1 y2 h) (rc9 (ρ y0) y1 y2 g)) {rc19 : Nat × Nat → Int32 → Int32 → Int32 → am_H → am_R} (hrc19 : ∀ {h g : am_H} (_ : eqR S ρ h g) (y0 : Nat × Nat) (s_y0 : S y0 = true) (y1 : Int32) (y2 : Int32) (y3 : Int32), eqQ S ρ h g (rc19 y0 y1 y2 y3 h) (rc19 (ρ y0) y1 y2 y3 g)) {h g : am_H} (R : eqR S ρ h g) (a0 : Nat × Nat) (s_a0 : S a0 = true) (x3 : Int32) (x4 : Int32) (s0 : Int32) (s1 : Int32) : eqQ S ρ h g (f_X11_aboveOf_49 rc9 rc19 a0 x3 x4 s0 s1 h) (f_X11_aboveOf_49 rc9 rc19 (ρ a0) x3 x4 s0 s1 g) := by
  rw [f_X11_aboveOf_49, f_X11_aboveOf_49]
  exact hrc19 R _ s_a0 _ _ _
theorem e_X11_aboveOf_19 {S : Nat × Nat → Bool} {ρ : Nat × Nat → Nat × Nat} (O : RhoOk S ρ) {rc9 : Nat × Nat → Int32 → Int32 → am_H → am_R} (hrc9 : ∀ {h g : am_H} (_ : eqR S ρ h g) (y0 : Nat × Nat) (s_y0 : S y0 = true) (y1 : Int32) (y2 : Int32), eqQ S ρ h g (rc9 y0 y1 y2 h) (rc9 (ρ y0) y1 y2 g)) : ∀ (n : Nat) {h g : am_H} (_ : eqR S ρ h g) (a0 : Nat × Nat) (s_a0 : S a0 = true) (x2 : Int32) (x3 : Int32) (x4 : Int32), eqQ S ρ h g (f_X11_aboveOf_19 rc9 n a0 x2 x3 x4 h) (f_X11_aboveOf_19 rc9 n (ρ a0) x2 x3 x4 g) := by
  intro n
  induction n with
  | zero => intros; exact q_none
  | succ n ih =>
    intro h g R a0 s_a0 x2 x3 x4
    rw [f_X11_aboveOf_19, f_X11_aboveOf_19]
    refine q_gI O R (okp_s s_a0) (fun v3 => ?_)
    refine q_ite (fun _ => ?_) (fun _ => ?_)
    · exact hrc9 R _ s_a0 _ _
    · refine q_bI (e_X11_has O R _ _) (fun h4 gh4 v5 R => ?_)
      refine q_ite (fun _ => ?_) (fun _ => ?_)
      · exact e_X11_aboveOf_49 O hrc9 ih R _ s_a0 _ _ _ _
      · refine q_gR O R (okp_s s_a0) (fun o6 p_o6 => ?_)
        refine q_aI O R p_o6 (fun v7 => ?_)
        exact e_X11_aboveOf_49 O hrc9 ih R _ s_a0 _ _ _ _
theorem e_X11_aboveOf_9 {S : Nat × Nat → Bool} {ρ : Nat × Nat → Nat × Nat} (O : RhoOk S ρ)  : ∀ (n : Nat) {h g : am_H} (_ : eqR S ρ h g) (a0 : Nat × Nat) (s_a0 : S a0 = true) (x2 : Int32) (x3 : Int32), eqQ S ρ h g (f_X11_aboveOf_9 n a0 x2 x3 h) (f_X11_aboveOf_9 n (ρ a0) x2 x3 g) := by
  intro n
  induction n with
  | zero => intros; exact q_none
  | succ n ih =>
    intro h g R a0 s_a0 x2 x3
    rw [f_X11_aboveOf_9, f_X11_aboveOf_9]
    refine q_ite (fun _ => ?_) (fun _ => ?_)
    · exact q_ri R
    · exact e_X11_aboveOf_19 O ih _ R _ s_a0 _ _ _
theorem e_X11_aboveOf {S : Nat × Nat → Bool} {ρ : Nat × Nat → Nat × Nat} (O : RhoOk S ρ)  {h g : am_H} (R : eqR S ρ h g) (a0 : Nat × Nat) (s_a0 : S a0 = true) (x1 : Int32) : eqQ S ρ h g (f_X11_aboveOf a0 x1 h) (f_X11_aboveOf (ρ a0) x1 g) := by
  rw [f_X11_aboveOf, f_X11_aboveOf]
  refine q_gR O R (okp_s s_a0) (fun o1 p_o1 => ?_)
  refine q_aI O R p_o1 (fun v2 => ?_)
  exact e_X11_aboveOf_9 O _ R _ s_a0 _ _
theorem e_X11_meaning_34 {S : Nat × Nat → Bool} {ρ : Nat × Nat → Nat × Nat} (O : RhoOk S ρ)  {h g : am_H} (R : eqR S ρ h g) (s0 : Int32) : eqQ S ρ h g (f_X11_meaning_34 s0 h) (f_X11_meaning_34 s0 g) := by
  rw [f_X11_meaning_34, f_X11_meaning_34]
  exact q_ri R
theorem e_X11_meaning {S : Nat × Nat → Bool} {ρ : Nat × Nat → Nat × Nat} (O : RhoOk S ρ)  {h g : am_H} (R : eqR S ρ h g) (a0 : Nat × Nat) (s_a0 : S a0 = true) (x1 : Int32) : eqQ S ρ h g (f_X11_meaning a0 x1 h) (f_X11_meaning (ρ a0) x1 g) := by
  rw [f_X11_meaning, f_X11_meaning]
  refine q_gR O R (okp_s s_a0) (fun o1 p_o1 => ?_)
  refine q_aI O R p_o1 (fun v2 => ?_)
  refine q_ite (fun _ => ?_) (fun _ => ?_)
  · exact e_X11_meaning_34 O R _
  · refine q_gR O R (okp_s s_a0) (fun o3 p_o3 => ?_)
    refine q_aI O R p_o3 (fun v4 => ?_)
    refine q_ite (fun _ => ?_) (fun _ => ?_)
    · refine q_gR O R (okp_s s_a0) (fun o5 p_o5 => ?_)
      refine q_aI O R p_o5 (fun v6 => ?_)
      exact e_X11_meaning_34 O R _
    · exact e_X11_meaning_34 O R _
theorem e_X11_suits_157 {S : Nat × Nat → Bool} {ρ : Nat × Nat → Nat × Nat} (O : RhoOk S ρ)  {h g : am_H} (R : eqR S ρ h g) (s0 : Int32) : eqQ S ρ h g (f_X11_suits_157 s0 h) (f_X11_suits_157 s0 g) := by
  rw [f_X11_suits_157, f_X11_suits_157]
  exact q_rz R
theorem e_X11_suits_136 {S : Nat × Nat → Bool} {ρ : Nat × Nat → Nat × Nat} (O : RhoOk S ρ) {rc51 : Nat × Nat → Int32 → Int32 → Int32 → Int32 → Int32 → am_H → am_R} (hrc51 : ∀ {h g : am_H} (_ : eqR S ρ h g) (y0 : Nat × Nat) (s_y0 : S y0 = true) (y1 : Int32) (y2 : Int32) (y3 : Int32) (y4 : Int32) (y5 : Int32), eqQ S ρ h g (rc51 y0 y1 y2 y3 y4 y5 h) (rc51 (ρ y0) y1 y2 y3 y4 y5 g)) {h g : am_H} (R : eqR S ρ h g) (a0 : Nat × Nat) (s_a0 : S a0 = true) (x1 : Int32) (x2 : Int32) (x3 : Int32) (x5 : Int32) (s0 : Int32) (s1 : Int32) : eqQ S ρ h g (f_X11_suits_136 rc51 a0 x1 x2 x3 x5 s0 s1 h) (f_X11_suits_136 rc51 (ρ a0) x1 x2 x3 x5 s0 s1 g) := by
  rw [f_X11_suits_136, f_X11_suits_136]
  exact hrc51 R _ s_a0 _ _ _ _ _
theorem e_X11_suits_135 {S : Nat × Nat → Bool} {ρ : Nat × Nat → Nat × Nat} (O : RhoOk S ρ) {rc51 : Nat × Nat → Int32 → Int32 → Int32 → Int32 → Int32 → am_H → am_R} (hrc51 : ∀ {h g : am_H} (_ : eqR S ρ h g) (y0 : Nat × Nat) (s_y0 : S y0 = true) (y1 : Int32) (y2 : Int32) (y3 : Int32) (y4 : Int32) (y5 : Int32), eqQ S ρ h g (rc51 y0 y1 y2 y3 y4 y5 h) (rc51 (ρ y0) y1 y2 y3 y4 y5 g)) {h g : am_H} (R : eqR S ρ h g) (a0 : Nat × Nat) (s_a0 : S a0 = true) (x1 : Int32) (x2 : Int32) (x3 : Int32) (x5 : Int32) (s0 : Int32) : eqQ S ρ h g (f_X11_suits_135 rc51 a0 x1 x2 x3 x5 s0 h) (f_X11_suits_135 rc51 (ρ a0) x1 x2 x3 x5 s0 g) := by
  rw [f_X11_suits_135, f_X11_suits_135]
  exact e_X11_suits_136 O hrc51 R _ s_a0 _ _ _ _ _ _
theorem e_X11_suits_97 {S : Nat × Nat → Bool} {ρ : Nat × Nat → Nat × Nat} (O : RhoOk S ρ) {rc51 : Nat × Nat → Int32 → Int32 → Int32 → Int32 → Int32 → am_H → am_R} (hrc51 : ∀ {h g : am_H} (_ : eqR S ρ h g) (y0 : Nat × Nat) (s_y0 : S y0 = true) (y1 : Int32) (y2 : Int32) (y3 : Int32) (y4 : Int32) (y5 : Int32), eqQ S ρ h g (rc51 y0 y1 y2 y3 y4 y5 h) (rc51 (ρ y0) y1 y2 y3 y4 y5 g)) {h g : am_H} (R : eqR S ρ h g) (a0 : Nat × Nat) (s_a0 : S a0 = true) (x1 : Int32) (x2 : Int32) (x4 : Int32) (x5 : Int32) (x6 : Int32) (s0 : Int32) (s1 : Int32) : eqQ S ρ h g (f_X11_suits_97 rc51 a0 x1 x2 x4 x5 x6 s0 s1 h) (f_X11_suits_97 rc51 (ρ a0) x1 x2 x4 x5 x6 s0 s1 g) := by
  rw [f_X11_suits_97, f_X11_suits_97]
  refine q_gR O R (okp_s s_a0) (fun o21 p_o21 => ?_)
  refine q_aI O R p_o21 (fun v22 => ?_)
  refine q_bI (e_X11_has O R _ _) (fun h23 gh23 v24 R => ?_)
  refine q_ite (fun _ => ?_) (fun _ => ?_)
  · exact e_X11_suits_135 O hrc51 R _ s_a0 _ _ _ _ _
  · refine q_ite (fun _ => ?_) (fun _ => ?_)
    · exact e_X11_suits_135 O hrc51 R _ s_a0 _ _ _ _ _
    · refine q_ao O (okp_s s_a0) (fun a27 s_a27 => ?_)
      refine q_bI (e_X11_aboveOf O R _ s_a27 _) (fun h25 gh25 v26 R => ?_)
      exact e_X11_suits_136 O hrc51 R _ s_a0 _ _ _ _ _ _
theorem e_X11_suits_96 {S : Nat × Nat → Bool} {ρ : Nat × Nat → Nat × Nat} (O : RhoOk S ρ) {rc51 : Nat × Nat → Int32 → Int32 → Int32 → Int32 → Int32 → am_H → am_R} (hrc51 : ∀ {h g : am_H} (_ : eqR S ρ h g) (y0 : Nat × Nat) (s_y0 : S y0 = true) (y1 : Int32) (y2 : Int32) (y3 : Int32) (y4 : Int32) (y5 : Int32), eqQ S ρ h g (rc51 y0 y1 y2 y3 y4 y5 h) (rc51 (ρ y0) y1 y2 y3 y4 y5 g)) {h g : am_H} (R : eqR S ρ h g) (a0 : Nat × Nat) (s_a0 : S a0 = true) (x1 : Int32) (x2 : Int32) (x4 : Int32) (x5 : Int32) (x6 : Int32) (s0 : Int32) : eqQ S ρ h g (f_X11_suits_96 rc51 a0 x1 x2 x4 x5 x6 s0 h) (f_X11_suits_96 rc51 (ρ a0) x1 x2 x4 x5 x6 s0 g) := by
  rw [f_X11_suits_96, f_X11_suits_96]
  exact e_X11_suits_97 O hrc51 R _ s_a0 _ _ _ _ _ _ _
theorem e_X11_suits_51 {S : Nat × Nat → Bool} {ρ : Nat × Nat → Nat × Nat} (O : RhoOk S ρ)  : ∀ (n : Nat) {h g : am_H} (_ : eqR S ρ h g) (a0 : Nat × Nat) (s_a0 : S a0 = true) (x1 : Int32) (x2 : Int32) (x3 : Int32) (x4 : Int32) (x5 : Int32), eqQ S ρ h g (f_X11_suits_51 n a0 x1 x2 x3 x4 x5 h) (f_X11_suits_51 n (ρ a0) x1 x2 x3 x4 x5 g) := by
  intro n
  induction n with
  | zero => intros; exact q_none
  | succ n ih =>
    intro h g R a0 s_a0 x1 x2 x3 x4 x5
    rw [f_X11_suits_51, f_X11_suits_51]
    refine q_gI O R (okp_s s_a0) (fun v13 => ?_)
    refine q_ite (fun _ => ?_) (fun _ => ?_)
    · refine q_ite (fun _ => ?_) (fun _ => ?_)
      · exact e_X11_suits_157 O R _
      · exact e_X11_suits_157 O R _
    · refine q_ao O (okp_s s_a0) (fun a16 s_a16 => ?_)
      refine q_bI (e_X11_meaning O R _ s_a16 _) (fun h14 gh14 v15 R => ?_)
      refine q_gR O R (okp_s s_a0) (fun o17 p_o17 => ?_)
      refine q_aI O R p_o17 (fun v18 => ?_)
      refine q_bI (e_X11_has O R _ _) (fun h19 gh19 v20 R => ?_)
      refine q_ite (fun _ => ?_) (fun _ => ?_)
      · exact e_X11_suits_96 O ih R _ s_a0 _ _ _ _ _ _
      · refine q_ite (fun _ => ?_) (fun _ => ?_)
        · exact e_X11_suits_96 O ih R _ s_a0 _ _ _ _ _ _
        · exact e_X11_suits_97 O ih R _ s_a0 _ _ _ _ _ _ _
theorem e_X11_suits_41 {S : Nat × Nat → Bool} {ρ : Nat × Nat → Nat × Nat} (O : RhoOk S ρ)  {h g : am_H} (R : eqR S ρ h g)  : eqQ S ρ h g (f_X11_suits_41  h) (f_X11_suits_41  g) := by
  unfold f_X11_suits_41
  exact q_rz R
theorem e_X11_suits {S : Nat × Nat → Bool} {ρ : Nat × Nat → Nat × Nat} (O : RhoOk S ρ)  {h g : am_H} (R : eqR S ρ h g) (a0 : Nat × Nat) (s_a0 : S a0 = true) (x1 : Int32) (x2 : Int32) : eqQ S ρ h g (f_X11_suits a0 x1 x2 h) (f_X11_suits (ρ a0) x1 x2 g) := by
  rw [f_X11_suits, f_X11_suits]
  refine q_ite (fun _ => ?_) (fun _ => ?_)
  · exact e_X11_suits_41 O R
  · refine q_gR O R (okp_s s_a0) (fun o1 p_o1 => ?_)
    refine q_aI O R p_o1 (fun v2 => ?_)
    refine q_gR O R (okp_s s_a0) (fun o3 p_o3 => ?_)
    refine q_aI O R p_o3 (fun v4 => ?_)
    refine q_bI (e_X11_has O R _ _) (fun h5 gh5 v6 R => ?_)
    refine q_ite (fun _ => ?_) (fun _ => ?_)
    · refine q_gR O R (okp_s s_a0) (fun o7 p_o7 => ?_)
      refine q_aI O R p_o7 (fun v8 => ?_)
      refine q_gR O R (okp_s s_a0) (fun o9 p_o9 => ?_)
      refine q_aI O R p_o9 (fun v10 => ?_)
      refine q_bI (e_X11_has O R _ _) (fun h11 gh11 v12 R => ?_)
      refine q_ite (fun _ => ?_) (fun _ => ?_)
      · exact e_X11_suits_51 O _ R _ s_a0 _ _ _ _ _
      · exact e_X11_suits_41 O R
    · exact e_X11_suits_41 O R
theorem e_X11_counts_149 {S : Nat × Nat → Bool} {ρ : Nat × Nat → Nat × Nat} (O : RhoOk S ρ) {rc82 : Nat × Nat → Int32 → am_H → am_R} (hrc82 : ∀ {h g : am_H} (_ : eqR S ρ h g) (y0 : Nat × Nat) (s_y0 : S y0 = true) (y1 : Int32), eqQ S ρ h g (rc82 y0 y1 h) (rc82 (ρ y0) y1 g)) {rc95 : Nat × Nat → Int32 → Int32 → am_H → am_R} (hrc95 : ∀ {h g : am_H} (_ : eqR S ρ h g) (y0 : Nat × Nat) (s_y0 : S y0 = true) (y1 : Int32) (y2 : Int32), eqQ S ρ h g (rc95 y0 y1 y2 h) (rc95 (ρ y0) y1 y2 g)) {h g : am_H} (R : eqR S ρ h g) (a0 : Nat × Nat) (s_a0 : S a0 = true) (x2 : Int32) (x3 : Int32) (s0 : Int32) (s1 : Int32) (s2 : Int32) (s3 : Option (Nat × Nat)) (p_s3 : okp S s3) : eqQ S ρ h g (f_X11_counts_149 rc82 rc95 a0 x2 x3 s0 s1 s2 s3 h) (f_X11_counts_149 rc82 rc95 (ρ a0) x2 x3 s0 s1 s2 (s3.map ρ) g) := by
  rw [f_X11_counts_149, f_X11_counts_149]
  refine q_sI O R p_s3 (fun h24 gh24 R => ?_)
  exact hrc95 R _ s_a0 _ _
theorem e_X11_counts_148 {S : Nat × Nat → Bool} {ρ : Nat × Nat → Nat × Nat} (O : RhoOk S ρ) {rc82 : Nat × Nat → Int32 → am_H → am_R} (hrc82 : ∀ {h g : am_H} (_ : eqR S ρ h g) (y0 : Nat × Nat) (s_y0 : S y0 = true) (y1 : Int32), eqQ S ρ h g (rc82 y0 y1 h) (rc82 (ρ y0) y1 g)) {rc95 : Nat × Nat → Int32 → Int32 → am_H → am_R} (hrc95 : ∀ {h g : am_H} (_ : eqR S ρ h g) (y0 : Nat × Nat) (s_y0 : S y0 = true) (y1 : Int32) (y2 : Int32), eqQ S ρ h g (rc95 y0 y1 y2 h) (rc95 (ρ y0) y1 y2 g)) {h g : am_H} (R : eqR S ρ h g) (a0 : Nat × Nat) (s_a0 : S a0 = true) (x2 : Int32) (x3 : Int32) (s0 : Int32) (s1 : Int32) (s2 : Option (Nat × Nat)) (p_s2 : okp S s2) : eqQ S ρ h g (f_X11_counts_148 rc82 rc95 a0 x2 x3 s0 s1 s2 h) (f_X11_counts_148 rc82 rc95 (ρ a0) x2 x3 s0 s1 (s2.map ρ) g) := by
  rw [f_X11_counts_148, f_X11_counts_148]
  exact e_X11_counts_149 O hrc82 hrc95 R _ s_a0 _ _ _ _ _ _ p_s2
theorem e_X11_counts_95 {S : Nat × Nat → Bool} {ρ : Nat × Nat → Nat × Nat} (O : RhoOk S ρ) {rc82 : Nat × Nat → Int32 → am_H → am_R} (hrc82 : ∀ {h g : am_H} (_ : eqR S ρ h g) (y0 : Nat × Nat) (s_y0 : S y0 = true) (y1 : Int32), eqQ S ρ h g (rc82 y0 y1 h) (rc82 (ρ y0) y1 g)) : ∀ (n : Nat) {h g : am_H} (_ : eqR S ρ h g) (a0 : Nat × Nat) (s_a0 : S a0 = true) (x2 : Int32) (x3 : Int32), eqQ S ρ h g (f_X11_counts_95 rc82 n a0 x2 x3 h) (f_X11_counts_95 rc82 n (ρ a0) x2 x3 g) := by
  intro n
  induction n with
  | zero => intros; exact q_none
  | succ n ih =>
    intro h g R a0 s_a0 x2 x3
    rw [f_X11_counts_95, f_X11_counts_95]
    refine q_gI O R (okp_s s_a0) (fun v13 => ?_)
    refine q_ite (fun _ => ?_) (fun _ => ?_)
    · exact hrc82 R _ s_a0 _
    · refine q_gR O R (okp_s s_a0) (fun o14 p_o14 => ?_)
      refine q_aI O R p_o14 (fun v15 => ?_)
      refine q_bI (e_X11_has O R _ _) (fun h16 gh16 v17 R => ?_)
      refine q_ite (fun _ => ?_) (fun _ => ?_)
      · refine q_gR O R (okp_s s_a0) (fun o18 p_o18 => ?_)
        refine q_bI (e_X11_bits O R _) (fun h19 gh19 v20 R => ?_)
        refine q_aI O R p_o18 (fun v21 => ?_)
        refine q_ite (fun _ => ?_) (fun _ => ?_)
        · exact e_X11_counts_148 O hrc82 ih R _ s_a0 _ _ _ _ _ p_o14
        · refine q_gR O R (okp_s s_a0) (fun o22 p_o22 => ?_)
          refine q_aI O R p_o22 (fun v23 => ?_)
          exact e_X11_counts_149 O hrc82 ih R _ s_a0 _ _ _ _ _ _ p_o14
      · exact e_X11_counts_148 O hrc82 ih R _ s_a0 _ _ _ _ _ p_o14
theorem e_X11_counts_82 {S : Nat × Nat → Bool} {ρ : Nat × Nat → Nat × Nat} (O : RhoOk S ρ)  : ∀ (n : Nat) {h g : am_H} (_ : eqR S ρ h g) (a0 : Nat × Nat) (s_a0 : S a0 = true) (x2 : Int32), eqQ S ρ h g (f_X11_counts_82 n a0 x2 h) (f_X11_counts_82 n (ρ a0) x2 g) := by
  intro n
  induction n with
  | zero => intros; exact q_none
  | succ n ih =>
    intro h g R a0 s_a0 x2
    rw [f_X11_counts_82, f_X11_counts_82]
    refine q_ite (fun _ => ?_) (fun _ => ?_)
    · exact q_rtn R
    · refine q_gR O R (okp_s s_a0) (fun o11 p_o11 => ?_)
      refine q_sI O R p_o11 (fun h12 gh12 R => ?_)
      exact e_X11_counts_95 O ih _ R _ s_a0 _ _
theorem e_X11_counts_55 {S : Nat × Nat → Bool} {ρ : Nat × Nat → Nat × Nat} (O : RhoOk S ρ) {rc2 : Nat × Nat → Int32 → am_H → am_R} (hrc2 : ∀ {h g : am_H} (_ : eqR S ρ h g) (y0 : Nat × Nat) (s_y0 : S y0 = true) (y1 : Int32), eqQ S ρ h g (rc2 y0 y1 h) (rc2 (ρ y0) y1 g)) {h g : am_H} (R : eqR S ρ h g) (a0 : Nat × Nat) (s_a0 : S a0 = true) (x1 : Int32) (s0 : Int32) (s1 : Int32) (s2 : Option (Nat × Nat)) (p_s2 : okp S s2) : eqQ S ρ h g (f_X11_counts_55 rc2 a0 x1 s0 s1 s2 h) (f_X11_counts_55 rc2 (ρ a0) x1 s0 s1 (s2.map ρ) g) := by
  rw [f_X11_counts_55, f_X11_counts_55]
  refine q_sZ O R p_s2 (fun h10 gh10 R => ?_)
  exact hrc2 R _ s_a0 _
theorem e_X11_counts_54 {S : Nat × Nat → Bool} {ρ : Nat × Nat → Nat × Nat} (O : RhoOk S ρ) {rc2 : Nat × Nat → Int32 → am_H → am_R} (hrc2 : ∀ {h g : am_H} (_ : eqR S ρ h g) (y0 : Nat × Nat) (s_y0 : S y0 = true) (y1 : Int32), eqQ S ρ h g (rc2 y0 y1 h) (rc2 (ρ y0) y1 g)) {h g : am_H} (R : eqR S ρ h g) (a0 : Nat × Nat) (s_a0 : S a0 = true) (x1 : Int32) (s0 : Int32) (s1 : Option (Nat × Nat)) (p_s1 : okp S s1) : eqQ S ρ h g (f_X11_counts_54 rc2 a0 x1 s0 s1 h) (f_X11_counts_54 rc2 (ρ a0) x1 s0 (s1.map ρ) g) := by
  rw [f_X11_counts_54, f_X11_counts_54]
  exact e_X11_counts_55 O hrc2 R _ s_a0 _ _ _ _ p_s1
theorem e_X11_counts_2 {S : Nat × Nat → Bool} {ρ : Nat × Nat → Nat × Nat} (O : RhoOk S ρ)  : ∀ (n : Nat) {h g : am_H} (_ : eqR S ρ h g) (a0 : Nat × Nat) (s_a0 : S a0 = true) (x1 : Int32), eqQ S ρ h g (f_X11_counts_2 n a0 x1 h) (f_X11_counts_2 n (ρ a0) x1 g) := by
  intro n
  induction n with
  | zero => intros; exact q_none
  | succ n ih =>
    intro h g R a0 s_a0 x1
    rw [f_X11_counts_2, f_X11_counts_2]
    refine q_ite (fun _ => ?_) (fun _ => ?_)
    · refine q_gI O R (okp_s s_a0) (fun v1 => ?_)
      refine q_gR O R (okp_s s_a0) (fun o2 p_o2 => ?_)
      refine q_sI O R p_o2 (fun h3 gh3 R => ?_)
      exact e_X11_counts_82 O _ R _ s_a0 _
    · refine q_gR O R (okp_s s_a0) (fun o4 p_o4 => ?_)
      refine q_dv ?_
      refine q_gI O R (okp_s s_a0) (fun v5 => ?_)
      refine q_ite (fun _ => ?_) (fun _ => ?_)
      · exact e_X11_counts_54 O ih R _ s_a0 _ _ _ p_o4
      · refine q_dv ?_
        refine q_gI O R (okp_s s_a0) (fun v6 => ?_)
        refine q_ite (fun _ => ?_) (fun _ => ?_)
        · exact e_X11_counts_54 O ih R _ s_a0 _ _ _ p_o4
        · refine q_dv ?_
          refine q_dv ?_
          refine q_ao O (okp_s s_a0) (fun a9 s_a9 => ?_)
          refine q_bI (e_X11_suits O R _ s_a9 _ _) (fun h7 gh7 v8 R => ?_)
          refine q_ite (fun _ => ?_) (fun _ => ?_)
          · exact e_X11_counts_54 O ih R _ s_a0 _ _ _ p_o4
          · exact e_X11_counts_55 O ih R _ s_a0 _ _ _ _ p_o4
theorem e_X11_counts {S : Nat × Nat → Bool} {ρ : Nat × Nat → Nat × Nat} (O : RhoOk S ρ)  {h g : am_H} (R : eqR S ρ h g) (a0 : Nat × Nat) (s_a0 : S a0 = true) : eqQ S ρ h g (f_X11_counts a0 h) (f_X11_counts (ρ a0) g) := by
  rw [f_X11_counts, f_X11_counts]
  exact e_X11_counts_2 O _ R _ s_a0 _
theorem e_X11_match_133 {S : Nat × Nat → Bool} {ρ : Nat × Nat → Nat × Nat} (O : RhoOk S ρ)  {h g : am_H} (R : eqR S ρ h g) (x3 : Int32) : eqQ S ρ h g (f_X11_match_133 x3 h) (f_X11_match_133 x3 g) := by
  rw [f_X11_match_133, f_X11_match_133]
  exact q_ri R
theorem e_X11_match_114 {S : Nat × Nat → Bool} {ρ : Nat × Nat → Nat × Nat} (O : RhoOk S ρ) {rc39 : Nat × Nat → Int32 → Int32 → Int32 → Int32 → am_H → am_R} (hrc39 : ∀ {h g : am_H} (_ : eqR S ρ h g) (y0 : Nat × Nat) (s_y0 : S y0 = true) (y1 : Int32) (y2 : Int32) (y3 : Int32) (y4 : Int32), eqQ S ρ h g (rc39 y0 y1 y2 y3 y4 h) (rc39 (ρ y0) y1 y2 y3 y4 g)) {rc64 : Nat × Nat → Int32 → Int32 → Int32 → Int32 → Int32 → am_H → am_R} (hrc64 : ∀ {h g : am_H} (_ : eqR S ρ h g) (y0 : Nat × Nat) (s_y0 : S y0 = true) (y1 : Int32) (y2 : Int32) (y3 : Int32) (y4 : Int32) (y5 : Int32), eqQ S ρ h g (rc64 y0 y1 y2 y3 y4 y5 h) (rc64 (ρ y0) y1 y2 y3 y4 y5 g)) {h g : am_H} (R : eqR S ρ h g) (a0 : Nat × Nat) (s_a0 : S a0 = true) (x1 : Int32) (x2 : Int32) (x4 : Int32) (x5 : Int32) (s0 : Int32) : eqQ S ρ h g (f_X11_match_114 rc39 rc64 a0 x1 x2 x4 x5 s0 h) (f_X11_match_114 rc39 rc64 (ρ a0) x1 x2 x4 x5 s0 g) := by
  rw [f_X11_match_114, f_X11_match_114]
  exact hrc64 R _ s_a0 _ _ _ _ _
theorem e_X11_match_113 {S : Nat × Nat → Bool} {ρ : Nat × Nat → Nat × Nat} (O : RhoOk S ρ) {rc39 : Nat × Nat → Int32 → Int32 → Int32 → Int32 → am_H → am_R} (hrc39 : ∀ {h g : am_H} (_ : eqR S ρ h g) (y0 : Nat × Nat) (s_y0 : S y0 = true) (y1 : Int32) (y2 : Int32) (y3 : Int32) (y4 : Int32), eqQ S ρ h g (rc39 y0 y1 y2 y3 y4 h) (rc39 (ρ y0) y1 y2 y3 y4 g)) {rc64 : Nat × Nat → Int32 → Int32 → Int32 → Int32 → Int32 → am_H → am_R} (hrc64 : ∀ {h g : am_H} (_ : eqR S ρ h g) (y0 : Nat × Nat) (s_y0 : S y0 = true) (y1 : Int32) (y2 : Int32) (y3 : Int32) (y4 : Int32) (y5 : Int32), eqQ S ρ h g (rc64 y0 y1 y2 y3 y4 y5 h) (rc64 (ρ y0) y1 y2 y3 y4 y5 g)) {h g : am_H} (R : eqR S ρ h g) (a0 : Nat × Nat) (s_a0 : S a0 = true) (x1 : Int32) (x2 : Int32) (x3 : Int32) (x4 : Int32) (x5 : Int32) : eqQ S ρ h g (f_X11_match_113 rc39 rc64 a0 x1 x2 x3 x4 x5 h) (f_X11_match_113 rc39 rc64 (ρ a0) x1 x2 x3 x4 x5 g) := by
  rw [f_X11_match_113, f_X11_match_113]
  exact e_X11_match_114 O hrc39 hrc64 R _ s_a0 _ _ _ _ _
theorem e_X11_match_64 {S : Nat × Nat → Bool} {ρ : Nat × Nat → Nat × Nat} (O : RhoOk S ρ) {rc39 : Nat × Nat → Int32 → Int32 → Int32 → Int32 → am_H → am_R} (hrc39 : ∀ {h g : am_H} (_ : eqR S ρ h g) (y0 : Nat × Nat) (s_y0 : S y0 = true) (y1 : Int32) (y2 : Int32) (y3 : Int32) (y4 : Int32), eqQ S ρ h g (rc39 y0 y1 y2 y3 y4 h) (rc39 (ρ y0) y1 y2 y3 y4 g)) : ∀ (n : Nat) {h g : am_H} (_ : eqR S ρ h g) (a0 : Nat × Nat) (s_a0 : S a0 = true) (x1 : Int32) (x2 : Int32) (x3 : Int32) (x4 : Int32) (x5 : Int32), eqQ S ρ h g (f_X11_match_64 rc39 n a0 x1 x2 x3 x4 x5 h) (f_X11_match_64 rc39 n (ρ a0) x1 x2 x3 x4 x5 g) := by
  intro n
  induction n with
  | zero => intros; exact q_none
  | succ n ih =>
    intro h g R a0 s_a0 x1 x2 x3 x4 x5
    rw [f_X11_match_64, f_X11_match_64]
    refine q_ite (fun _ => ?_) (fun _ => ?_)
    · exact hrc39 R _ s_a0 _ _ _ _
    · refine q_bI (e_X11_has O R _ _) (fun h13 gh13 v14 R => ?_)
      refine q_ite (fun _ => ?_) (fun _ => ?_)
      · refine q_gR O R (okp_s s_a0) (fun o15 p_o15 => ?_)
        refine q_aI O R p_o15 (fun v16 => ?_)
        refine q_ite (fun _ => ?_) (fun _ => ?_)
        · exact e_X11_match_113 O hrc39 ih R _ s_a0 _ _ _ _ _
        · refine q_gR O R (okp_s s_a0) (fun o17 p_o17 => ?_)
          refine q_aI O R p_o17 (fun v18 => ?_)
          refine q_ite (fun _ => ?_) (fun _ => ?_)
          · exact e_X11_match_113 O hrc39 ih R _ s_a0 _ _ _ _ _
          · exact e_X11_match_114 O hrc39 ih R _ s_a0 _ _ _ _ _
      · exact e_X11_match_113 O hrc39 ih R _ s_a0 _ _ _ _ _
