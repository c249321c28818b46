theorem e_X10_search {S : Nat × Nat → Bool} {ρ : Nat × Nat → Nat × Nat} (O : RhoOk S ρ)  {h g : am_H} (R : eqR S ρ h g) (a0 : Nat × Nat) (s_a0 : S a0 = true) (x1 : Int32) (x2 : Int32) : eqQ S ρ h g (f_X10_search a0 x1 x2 h) (f_X10_search (ρ a0) x1 x2 g) := by
  rw [f_X10_search, f_X10_search]
  refine q_bV (e_X10_checkFace O R _) (fun h1 gh1 R => ?_)
  refine q_ao O (okp_s s_a0) (fun a5 s_a5 => ?_)
  refine q_bV (e_X10_checkQuery O R _ s_a5) (fun h3 gh3 R => ?_)
  refine q_ao O (okp_s s_a0) (fun a8 s_a8 => ?_)
  refine q_bI (e_X10_found O R _ s_a8 _ _) (fun h6 gh6 v7 R => ?_)
  exact q_ri R
theorem e_X10_isWithin_11 {S : Nat × Nat → Bool} {ρ : Nat × Nat → Nat × Nat} (O : RhoOk S ρ)  {h g : am_H} (R : eqR S ρ h g) (s0 : Int32) : eqQ S ρ h g (f_X10_isWithin_11 s0 h) (f_X10_isWithin_11 s0 g) := by
  rw [f_X10_isWithin_11, f_X10_isWithin_11]
  exact q_rz R
theorem e_X10_isWithin {S : Nat × Nat → Bool} {ρ : Nat × Nat → Nat × Nat} (O : RhoOk S ρ)  {h g : am_H} (R : eqR S ρ h g) (x0 : Int32) (x1 : Int32) : eqQ S ρ h g (f_X10_isWithin x0 x1 h) (f_X10_isWithin x0 x1 g) := by
  rw [f_X10_isWithin, f_X10_isWithin]
  refine q_ite (fun _ => ?_) (fun _ => ?_)
  · exact e_X10_isWithin_11 O R _
  · exact e_X10_isWithin_11 O R _
theorem e_X2_add {S : Nat × Nat → Bool} {ρ : Nat × Nat → Nat × Nat} (O : RhoOk S ρ)  {h g : am_H} (R : eqR S ρ h g) (a0 : Nat × Nat) (s_a0 : S a0 = true) (x1 : Option (Nat × Nat)) (p_x1 : okp S x1) : eqQ S ρ h g (f_X2_add a0 x1 h) (f_X2_add (ρ a0) (x1.map ρ) g) := by
  rw [f_X2_add, f_X2_add]
  refine q_gR O R (okp_s s_a0) (fun o1 p_o1 => ?_)
  refine q_gI O R (okp_s s_a0) (fun v2 => ?_)
  refine q_sR O R p_o1 p_x1 (fun h3 gh3 R => ?_)
  refine q_gI O R (okp_s s_a0) (fun v4 => ?_)
  refine q_pI O R (okp_s s_a0) (fun h5 gh5 R => ?_)
  refine q_gI O R (okp_s s_a0) (fun v6 => ?_)
  exact q_ri R
theorem e_X2_hasSignOf_2 {S : Nat × Nat → Bool} {ρ : Nat × Nat → Nat × Nat} (O : RhoOk S ρ)  : ∀ (n : Nat) {h g : am_H} (_ : eqR S ρ h g) (a0 : Nat × Nat) (s_a0 : S a0 = true) (x1 : Int32) (x2 : Int32), eqQ S ρ h g (f_X2_hasSignOf_2 n a0 x1 x2 h) (f_X2_hasSignOf_2 n (ρ a0) x1 x2 g) := by
  intro n
  induction n with
  | zero => intros; exact q_none
  | succ n ih =>
    intro h g R a0 s_a0 x1 x2
    rw [f_X2_hasSignOf_2, f_X2_hasSignOf_2]
    refine q_gI O R (okp_s s_a0) (fun v1 => ?_)
    refine q_ite (fun _ => ?_) (fun _ => ?_)
    · exact q_rz R
    · refine q_gR O R (okp_s s_a0) (fun o2 p_o2 => ?_)
      refine q_aR O R p_o2 (fun o3 p_o3 => ?_)
      refine q_gI O R p_o3 (fun v4 => ?_)
      refine q_ite (fun _ => ?_) (fun _ => ?_)
      · exact q_rz R
      · exact ih R _ s_a0 _ _
theorem e_X2_hasSignOf {S : Nat × Nat → Bool} {ρ : Nat × Nat → Nat × Nat} (O : RhoOk S ρ)  {h g : am_H} (R : eqR S ρ h g) (a0 : Nat × Nat) (s_a0 : S a0 = true) (x1 : Int32) : eqQ S ρ h g (f_X2_hasSignOf a0 x1 h) (f_X2_hasSignOf (ρ a0) x1 g) := by
  rw [f_X2_hasSignOf, f_X2_hasSignOf]
  exact e_X2_hasSignOf_2 O _ R _ s_a0 _ _
theorem e_X6_init {S : Nat × Nat → Bool} {ρ : Nat × Nat → Nat × Nat} (O : RhoOk S ρ)  {h g : am_H} (R : eqR S ρ h g) (a0 : Nat × Nat) (s_a0 : S a0 = true) (x1 : Int32) (x2 : Int32) (x3 : Int32) (x4 : Int32) : eqQ S ρ h g (f_X6_init a0 x1 x2 x3 x4 h) (f_X6_init (ρ a0) x1 x2 x3 x4 g) := by
  rw [f_X6_init, f_X6_init]
  refine q_pI O R (okp_s s_a0) (fun h1 gh1 R => ?_)
  refine q_pI O R (okp_s s_a0) (fun h2 gh2 R => ?_)
  refine q_pI O R (okp_s s_a0) (fun h3 gh3 R => ?_)
  refine q_pI O R (okp_s s_a0) (fun h4 gh4 R => ?_)
  exact q_rtn R
theorem e_X10_sign_76 {S : Nat × Nat → Bool} {ρ : Nat × Nat → Nat × Nat} (O : RhoOk S ρ)  {h g : am_H} (R : eqR S ρ h g)  : eqQ S ρ h g (f_X10_sign_76  h) (f_X10_sign_76  g) := by
  unfold f_X10_sign_76
  exact q_ex R
theorem e_X10_sign_42 {S : Nat × Nat → Bool} {ρ : Nat × Nat → Nat × Nat} (O : RhoOk S ρ)  {h g : am_H} (R : eqR S ρ h g)  : eqQ S ρ h g (f_X10_sign_42  h) (f_X10_sign_42  g) := by
  unfold f_X10_sign_42
  exact q_ex R
theorem e_X10_characterAt {S : Nat × Nat → Bool} {ρ : Nat × Nat → Nat × Nat} (O : RhoOk S ρ)  {h g : am_H} (R : eqR S ρ h g) (x0 : Int64) (x2 : Int32) : eqQ S ρ h g (f_X10_characterAt x0 x2 h) (f_X10_characterAt x0 x2 g) := by
  rw [f_X10_characterAt, f_X10_characterAt]
  exact q_rc R
theorem e_X8_add {S : Nat × Nat → Bool} {ρ : Nat × Nat → Nat × Nat} (O : RhoOk S ρ)  {h g : am_H} (R : eqR S ρ h g) (a0 : Nat × Nat) (s_a0 : S a0 = true) (x1 : Int32) : eqQ S ρ h g (f_X8_add a0 x1 h) (f_X8_add (ρ a0) x1 g) := by
  rw [f_X8_add, f_X8_add]
  refine q_gR O R (okp_s s_a0) (fun o1 p_o1 => ?_)
  refine q_gI O R (okp_s s_a0) (fun v2 => ?_)
  refine q_sC O R p_o1 (fun h3 gh3 R => ?_)
  refine q_gI O R (okp_s s_a0) (fun v4 => ?_)
  refine q_pI O R (okp_s s_a0) (fun h5 gh5 R => ?_)
  exact q_rtn R
theorem e_X8_holds_49 {S : Nat × Nat → Bool} {ρ : Nat × Nat → Nat × Nat} (O : RhoOk S ρ)  {h g : am_H} (R : eqR S ρ h g) (s0 : Int32) : eqQ S ρ h g (f_X8_holds_49 s0 h) (f_X8_holds_49 s0 g) := by
  rw [f_X8_holds_49, f_X8_holds_49]
  exact q_rz R
theorem e_X8_holds_44 {S : Nat × Nat → Bool} {ρ : Nat × Nat → Nat × Nat} (O : RhoOk S ρ)  {h g : am_H} (R : eqR S ρ h g)  : eqQ S ρ h g (f_X8_holds_44  h) (f_X8_holds_44  g) := by
  unfold f_X8_holds_44
  exact e_X8_holds_49 O R _
theorem e_X8_holds {S : Nat × Nat → Bool} {ρ : Nat × Nat → Nat × Nat} (O : RhoOk S ρ)  {h g : am_H} (R : eqR S ρ h g) (x0 : Int32) : eqQ S ρ h g (f_X8_holds x0 h) (f_X8_holds x0 g) := by
  rw [f_X8_holds, f_X8_holds]
  refine q_bI (e_X4_isFigure O R _) (fun h1 gh1 v2 R => ?_)
  refine q_ite (fun _ => ?_) (fun _ => ?_)
  · refine q_bI (e_X4_figuresOf O R _) (fun h3 gh3 v4 R => ?_)
    refine q_ite (fun _ => ?_) (fun _ => ?_)
    · exact e_X8_holds_44 O R
    · refine q_ite (fun _ => ?_) (fun _ => ?_)
      · exact e_X8_holds_44 O R
      · refine q_ite (fun _ => ?_) (fun _ => ?_)
        · exact e_X8_holds_44 O R
        · refine q_ite (fun _ => ?_) (fun _ => ?_)
          · exact e_X8_holds_44 O R
          · refine q_ite (fun _ => ?_) (fun _ => ?_)
            · exact e_X8_holds_44 O R
            · refine q_ite (fun _ => ?_) (fun _ => ?_)
              · exact e_X8_holds_44 O R
              · exact e_X8_holds_49 O R _
  · exact e_X8_holds_44 O R
theorem e_X10_type_87 {S : Nat × Nat → Bool} {ρ : Nat × Nat → Nat × Nat} (O : RhoOk S ρ)  : ∀ (n : Nat) {h g : am_H} (_ : eqR S ρ h g) (a0 : Nat × Nat) (s_a0 : S a0 = true) (x1 : Int64) (x3 : Int32) (x4 : Int32), eqQ S ρ h g (f_X10_type_87 n a0 x1 x3 x4 h) (f_X10_type_87 n (ρ a0) x1 x3 x4 g) := by
  intro n
  induction n with
  | zero => intros; exact q_none
  | succ n ih =>
    intro h g R a0 s_a0 x1 x3 x4
    rw [f_X10_type_87, f_X10_type_87]
    refine q_ite (fun _ => ?_) (fun _ => ?_)
    · refine q_gR O R (okp_s s_a0) (fun o7 p_o7 => ?_)
      refine q_gI O R p_o7 (fun v8 => ?_)
      exact q_ri R
    · refine q_gR O R (okp_s s_a0) (fun o9 p_o9 => ?_)
      refine q_bI (e_X10_characterAt O R _ _) (fun h10 gh10 v11 R => ?_)
      refine q_ao O p_o9 (fun a14 s_a14 => ?_)
      refine q_bV (e_X8_add O R _ s_a14 _) (fun h12 gh12 R => ?_)
      exact ih R _ s_a0 _ _ _
theorem e_X10_type_24 {S : Nat × Nat → Bool} {ρ : Nat × Nat → Nat × Nat} (O : RhoOk S ρ)  : ∀ (n : Nat) {h g : am_H} (_ : eqR S ρ h g) (a0 : Nat × Nat) (s_a0 : S a0 = true) (x1 : Int64) (x3 : Int32) (x4 : Int32), eqQ S ρ h g (f_X10_type_24 n a0 x1 x3 x4 h) (f_X10_type_24 n (ρ a0) x1 x3 x4 g) := by
  intro n
  induction n with
  | zero => intros; exact q_none
  | succ n ih =>
    intro h g R a0 s_a0 x1 x3 x4
    rw [f_X10_type_24, f_X10_type_24]
    refine q_ite (fun _ => ?_) (fun _ => ?_)
    · refine q_gR O R (okp_s s_a0) (fun o1 p_o1 => ?_)
      refine q_gI O R p_o1 (fun v2 => ?_)
      refine q_ite (fun _ => ?_) (fun _ => ?_)
      · exact e_X10_type_87 O _ R _ s_a0 _ _ _
      · exact q_ex R
    · refine q_bI (e_X10_characterAt O R _ _) (fun h3 gh3 v4 R => ?_)
      refine q_bI (e_X8_holds O R _) (fun h5 gh5 v6 R => ?_)
      refine q_ite (fun _ => ?_) (fun _ => ?_)
      · exact q_ex R
      · exact ih R _ s_a0 _ _ _
theorem e_X10_type_11 {S : Nat × Nat → Bool} {ρ : Nat × Nat → Nat × Nat} (O : RhoOk S ρ)  {h g : am_H} (R : eqR S ρ h g)  : eqQ S ρ h g (f_X10_type_11  h) (f_X10_type_11  g) := by
  unfold f_X10_type_11
  exact q_ex R
theorem e_X10_type {S : Nat × Nat → Bool} {ρ : Nat × Nat → Nat × Nat} (O : RhoOk S ρ)  {h g : am_H} (R : eqR S ρ h g) (a0 : Nat × Nat) (s_a0 : S a0 = true) (x1 : Int64) (x3 : Int32) : eqQ S ρ h g (f_X10_type a0 x1 x3 h) (f_X10_type (ρ a0) x1 x3 g) := by
  rw [f_X10_type, f_X10_type]
  refine q_ite (fun _ => ?_) (fun _ => ?_)
  · exact e_X10_type_11 O R
  · refine q_ite (fun _ => ?_) (fun _ => ?_)
    · exact e_X10_type_24 O _ R _ s_a0 _ _ _
    · exact e_X10_type_11 O R
theorem e_X10_under {S : Nat × Nat → Bool} {ρ : Nat × Nat → Nat × Nat} (O : RhoOk S ρ)  {h g : am_H} (R : eqR S ρ h g) (a0 : Nat × Nat) (s_a0 : S a0 = true) (x1 : Int32) (x2 : Int32) : eqQ S ρ h g (f_X10_under a0 x1 x2 h) (f_X10_under (ρ a0) x1 x2 g) := by
  rw [f_X10_under, f_X10_under]
  refine q_ao O (okp_s s_a0) (fun a3 s_a3 => ?_)
  refine q_bR (e_X10_workAt O R _ s_a3 _) (fun h1 gh1 o2 R p_o2 => ?_)
  refine q_ao O (okp_s s_a0) (fun a6 s_a6 => ?_)
  refine q_bI (e_X10_placesOf O R _ s_a6 _ p_o2 _) (fun h4 gh4 v5 R => ?_)
  exact q_ri R
theorem e_X10_wave_80 {S : Nat × Nat → Bool} {ρ : Nat × Nat → Nat × Nat} (O : RhoOk S ρ)  {h g : am_H} (R : eqR S ρ h g) (x2 : Int32) : eqQ S ρ h g (f_X10_wave_80 x2 h) (f_X10_wave_80 x2 g) := by
  rw [f_X10_wave_80, f_X10_wave_80]
  exact q_ri R
theorem e_X10_wave_74 {S : Nat × Nat → Bool} {ρ : Nat × Nat → Nat × Nat} (O : RhoOk S ρ) {rc25 : Nat × Nat → Int32 → Int32 → Int32 → am_H → am_R} (hrc25 : ∀ {h g : am_H} (_ : eqR S ρ h g) (y0 : Nat × Nat) (s_y0 : S y0 = true) (y1 : Int32) (y2 : Int32) (y3 : Int32), eqQ S ρ h g (rc25 y0 y1 y2 y3 h) (rc25 (ρ y0) y1 y2 y3 g)) {h g : am_H} (R : eqR S ρ h g) (a0 : Nat × Nat) (s_a0 : S a0 = true) (x1 : Int32) (x2 : Int32) (x3 : Int32) : eqQ S ρ h g (f_X10_wave_74 rc25 a0 x1 x2 x3 h) (f_X10_wave_74 rc25 (ρ a0) x1 x2 x3 g) := by
  rw [f_X10_wave_74, f_X10_wave_74]
  exact hrc25 R _ s_a0 _ _ _
theorem e_X10_wave_25 {S : Nat × Nat → Bool} {ρ : Nat × Nat → Nat × Nat} (O : RhoOk S ρ)  : ∀ (n : Nat) {h g : am_H} (_ : eqR S ρ h g) (a0 : Nat × Nat) (s_a0 : S a0 = true) (x1 : Int32) (x2 : Int32) (x3 : Int32), eqQ S ρ h g (f_X10_wave_25 n a0 x1 x2 x3 h) (f_X10_wave_25 n (ρ a0) x1 x2 x3 g) := by
  intro n
  induction n with
  | zero => intros; exact q_none
  | succ n ih =>
    intro h g R a0 s_a0 x1 x2 x3
    rw [f_X10_wave_25, f_X10_wave_25]
    refine q_gI O R (okp_s s_a0) (fun v1 => ?_)
    refine q_ite (fun _ => ?_) (fun _ => ?_)
    · exact e_X10_wave_80 O R _
    · refine q_ite (fun _ => ?_) (fun _ => ?_)
      · exact e_X10_wave_80 O R _
      · refine q_gR O R (okp_s s_a0) (fun o2 p_o2 => ?_)
        refine q_aR O R p_o2 (fun o3 p_o3 => ?_)
        refine q_gI O R p_o3 (fun v4 => ?_)
        refine q_ite (fun _ => ?_) (fun _ => ?_)
        · exact e_X10_wave_74 O ih R _ s_a0 _ _ _
        · refine q_gR O R (okp_s s_a0) (fun o5 p_o5 => ?_)
          refine q_gI O R p_o3 (fun v6 => ?_)
          refine q_ao O p_o5 (fun a9 s_a9 => ?_)
          refine q_bI (e_X7_belongUnder O R _ s_a9 _) (fun h7 gh7 v8 R => ?_)
          refine q_ao O p_o3 (fun a12 s_a12 => ?_)
          refine q_bV (e_X9_fileUnder O R _ s_a12 _) (fun h10 gh10 R => ?_)
          exact e_X10_wave_74 O ih R _ s_a0 _ _ _
theorem e_X10_wave_11 {S : Nat × Nat → Bool} {ρ : Nat × Nat → Nat × Nat} (O : RhoOk S ρ)  {h g : am_H} (R : eqR S ρ h g)  : eqQ S ρ h g (f_X10_wave_11  h) (f_X10_wave_11  g) := by
  unfold f_X10_wave_11
  exact q_ex R
theorem e_X10_wave {S : Nat × Nat → Bool} {ρ : Nat × Nat → Nat × Nat} (O : RhoOk S ρ)  {h g : am_H} (R : eqR S ρ h g) (a0 : Nat × Nat) (s_a0 : S a0 = true) (x1 : Int32) : eqQ S ρ h g (f_X10_wave a0 x1 h) (f_X10_wave (ρ a0) x1 g) := by
  rw [f_X10_wave, f_X10_wave]
  refine q_ite (fun _ => ?_) (fun _ => ?_)
  · exact e_X10_wave_11 O R
  · refine q_ite (fun _ => ?_) (fun _ => ?_)
    · exact e_X10_wave_25 O _ R _ s_a0 _ _ _
    · exact e_X10_wave_11 O R
theorem e_X10_commentAt_12 {S : Nat × Nat → Bool} {ρ : Nat × Nat → Nat × Nat} (O : RhoOk S ρ)  {h g : am_H} (R : eqR S ρ h g)  : eqQ S ρ h g (f_X10_commentAt_12  h) (f_X10_commentAt_12  g) := by
  unfold f_X10_commentAt_12
  exact q_ex R
theorem e_X10_commentAt {S : Nat × Nat → Bool} {ρ : Nat × Nat → Nat × Nat} (O : RhoOk S ρ)  {h g : am_H} (R : eqR S ρ h g) (a0 : Nat × Nat) (s_a0 : S a0 = true) (x1 : Int32) : eqQ S ρ h g (f_X10_commentAt a0 x1 h) (f_X10_commentAt (ρ a0) x1 g) := by
  rw [f_X10_commentAt, f_X10_commentAt]
  refine q_ite (fun _ => ?_) (fun _ => ?_)
  · exact e_X10_commentAt_12 O R
  · refine q_gI O R (okp_s s_a0) (fun v1 => ?_)
    refine q_ite (fun _ => ?_) (fun _ => ?_)
    · refine q_gR O R (okp_s s_a0) (fun o2 p_o2 => ?_)
      refine q_aR O R p_o2 (fun o3 p_o3 => ?_)
      exact q_ra R p_o3
    · exact e_X10_commentAt_12 O R
theorem e_X10_change_98 {S : Nat × Nat → Bool} {ρ : Nat × Nat → Nat × Nat} (O : RhoOk S ρ)  {h g : am_H} (R : eqR S ρ h g) (x3 : Option (Nat × Nat)) (p_x3 : okp S x3) (s0 : Int32) : eqQ S ρ h g (f_X10_change_98 x3 s0 h) (f_X10_change_98 (x3.map ρ) s0 g) := by
  rw [f_X10_change_98, f_X10_change_98]
  refine q_pZ O R p_x3 (fun h10 gh10 R => ?_)
  exact q_rz R
theorem e_X10_change_48 {S : Nat × Nat → Bool} {ρ : Nat × Nat → Nat × Nat} (O : RhoOk S ρ)  {h g : am_H} (R : eqR S ρ h g) (x3 : Option (Nat × Nat)) (p_x3 : okp S x3) (s0 : Int32) : eqQ S ρ h g (f_X10_change_48 x3 s0 h) (f_X10_change_48 (x3.map ρ) s0 g) := by
  rw [f_X10_change_48, f_X10_change_48]
  refine q_pZ O R p_x3 (fun h11 gh11 R => ?_)
  exact q_rz R
theorem e_X10_change {S : Nat × Nat → Bool} {ρ : Nat × Nat → Nat × Nat} (O : RhoOk S ρ)  {h g : am_H} (R : eqR S ρ h g) (a0 : Nat × Nat) (s_a0 : S a0 = true) (x1 : Int32) (x2 : Int32) : eqQ S ρ h g (f_X10_change a0 x1 x2 h) (f_X10_change (ρ a0) x1 x2 g) := by
  rw [f_X10_change, f_X10_change]
  refine q_ao O (okp_s s_a0) (fun a3 s_a3 => ?_)
  refine q_bR (e_X10_commentAt O R _ s_a3 _) (fun h1 gh1 o2 R p_o2 => ?_)
  refine q_ite (fun _ => ?_) (fun _ => ?_)
  · refine q_gI O R p_o2 (fun v4 => ?_)
    refine q_ite (fun _ => ?_) (fun _ => ?_)
    · exact e_X10_change_48 O R _ p_o2 _
    · exact e_X10_change_48 O R _ p_o2 _
  · refine q_ite (fun _ => ?_) (fun _ => ?_)
    · refine q_gI O R p_o2 (fun v5 => ?_)
      refine q_pZ O R p_o2 (fun h6 gh6 R => ?_)
      exact q_rz R
    · refine q_ite (fun _ => ?_) (fun _ => ?_)
      · refine q_gI O R p_o2 (fun v7 => ?_)
        refine q_pZ O R p_o2 (fun h8 gh8 R => ?_)
        exact q_rz R
      · refine q_ite (fun _ => ?_) (fun _ => ?_)
        · refine q_gI O R p_o2 (fun v9 => ?_)
          refine q_ite (fun _ => ?_) (fun _ => ?_)
          · exact e_X10_change_98 O R _ p_o2 _
          · exact e_X10_change_98 O R _ p_o2 _
        · exact q_ex R
theorem e_X10_isBlockedBy_31 {S : Nat × Nat → Bool} {ρ : Nat × Nat → Nat × Nat} (O : RhoOk S ρ)  {h g : am_H} (R : eqR S ρ h g) (s0 : Int32) : eqQ S ρ h g (f_X10_isBlockedBy_31 s0 h) (f_X10_isBlockedBy_31 s0 g) := by
  rw [f_X10_isBlockedBy_31, f_X10_isBlockedBy_31]
  exact q_rz R
theorem e_X10_isBlockedBy_30 {S : Nat × Nat → Bool} {ρ : Nat × Nat → Nat × Nat} (O : RhoOk S ρ)  {h g : am_H} (R : eqR S ρ h g)  : eqQ S ρ h g (f_X10_isBlockedBy_30  h) (f_X10_isBlockedBy_30  g) := by
  unfold f_X10_isBlockedBy_30
  exact e_X10_isBlockedBy_31 O R _
theorem e_X10_isBlockedBy {S : Nat × Nat → Bool} {ρ : Nat × Nat → Nat × Nat} (O : RhoOk S ρ)  {h g : am_H} (R : eqR S ρ h g) (a0 : Nat × Nat) (s_a0 : S a0 = true) (x1 : Int32) (x2 : Int32) : eqQ S ρ h g (f_X10_isBlockedBy a0 x1 x2 h) (f_X10_isBlockedBy (ρ a0) x1 x2 g) := by
  rw [f_X10_isBlockedBy, f_X10_isBlockedBy]
  refine q_ite (fun _ => ?_) (fun _ => ?_)
  · exact e_X10_isBlockedBy_30 O R
  · refine q_ite (fun _ => ?_) (fun _ => ?_)
    · exact e_X10_isBlockedBy_30 O R
    · refine q_gR O R (okp_s s_a0) (fun o1 p_o1 => ?_)
      refine q_aR O R p_o1 (fun o2 p_o2 => ?_)
      refine q_gI O R p_o2 (fun v3 => ?_)
      refine q_bI (e_X10_has O R _ _) (fun h4 gh4 v5 R => ?_)
      refine q_ite (fun _ => ?_) (fun _ => ?_)
      · exact e_X10_isBlockedBy_30 O R
      · exact e_X10_isBlockedBy_31 O R _
theorem e_X10_isBlockedByAny_27 {S : Nat × Nat → Bool} {ρ : Nat × Nat → Nat × Nat} (O : RhoOk S ρ) {rc2 : Nat × Nat → Int32 → Int32 → Int32 → am_H → am_R} (hrc2 : ∀ {h g : am_H} (_ : eqR S ρ h g) (y0 : Nat × Nat) (s_y0 : S y0 = true) (y1 : Int32) (y2 : Int32) (y3 : Int32), eqQ S ρ h g (rc2 y0 y1 y2 y3 h) (rc2 (ρ y0) y1 y2 y3 g)) {h g : am_H} (R : eqR S ρ h g) (a0 : Nat × Nat) (s_a0 : S a0 = true) (x1 : Int32) (x2 : Int32) (x3 : Int32) : eqQ S ρ h g (f_X10_isBlockedByAny_27 rc2 a0 x1 x2 x3 h) (f_X10_isBlockedByAny_27 rc2 (ρ a0) x1 x2 x3 g) := by
  rw [f_X10_isBlockedByAny_27, f_X10_isBlockedByAny_27]
  exact hrc2 R _ s_a0 _ _ _
theorem e_X10_isBlockedByAny_2 {S : Nat × Nat → Bool} {ρ : Nat × Nat → Nat × Nat} (O : RhoOk S ρ)  : ∀ (n : Nat) {h g : am_H} (_ : eqR S ρ h g) (a0 : Nat × Nat) (s_a0 : S a0 = true) (x1 : Int32) (x2 : Int32) (x3 : Int32), eqQ S ρ h g (f_X10_isBlockedByAny_2 n a0 x1 x2 x3 h) (f_X10_isBlockedByAny_2 n (ρ a0) x1 x2 x3 g) := by
  intro n
  induction n with
  | zero => intros; exact q_none
  | succ n ih =>
    intro h g R a0 s_a0 x1 x2 x3
    rw [f_X10_isBlockedByAny_2, f_X10_isBlockedByAny_2]
    refine q_ite (fun _ => ?_) (fun _ => ?_)
    · exact q_rz R
    · refine q_bI (e_X10_has O R _ _) (fun h1 gh1 v2 R => ?_)
      refine q_ite (fun _ => ?_) (fun _ => ?_)
      · exact e_X10_isBlockedByAny_27 O ih R _ s_a0 _ _ _
      · refine q_ao O (okp_s s_a0) (fun a5 s_a5 => ?_)
        refine q_bI (e_X10_isBlockedBy O R _ s_a5 _ _) (fun h3 gh3 v4 R => ?_)
        refine q_ite (fun _ => ?_) (fun _ => ?_)
        · exact e_X10_isBlockedByAny_27 O ih R _ s_a0 _ _ _
        · exact q_rz R
theorem e_X10_isBlockedByAny {S : Nat × Nat → Bool} {ρ : Nat × Nat → Nat × Nat} (O : RhoOk S ρ)  {h g : am_H} (R : eqR S ρ h g) (a0 : Nat × Nat) (s_a0 : S a0 = true) (x1 : Int32) (x2 : Int32) : eqQ S ρ h g (f_X10_isBlockedByAny a0 x1 x2 h) (f_X10_isBlockedByAny (ρ a0) x1 x2 g) := by
  rw [f_X10_isBlockedByAny, f_X10_isBlockedByAny]
  exact e_X10_isBlockedByAny_2 O _ R _ s_a0 _ _ _
theorem e_X10_isReadBy_49 {S : Nat × Nat → Bool} {ρ : Nat × Nat → Nat × Nat} (O : RhoOk S ρ)  {h g : am_H} (R : eqR S ρ h g) (s0 : Int32) : eqQ S ρ h g (f_X10_isReadBy_49 s0 h) (f_X10_isReadBy_49 s0 g) := by
  rw [f_X10_isReadBy_49, f_X10_isReadBy_49]
  exact q_rz R
theorem e_X10_isReadBy_44 {S : Nat × Nat → Bool} {ρ : Nat × Nat → Nat × Nat} (O : RhoOk S ρ)  {h g : am_H} (R : eqR S ρ h g)  : eqQ S ρ h g (f_X10_isReadBy_44  h) (f_X10_isReadBy_44  g) := by
  unfold f_X10_isReadBy_44
  exact e_X10_isReadBy_49 O R _
theorem e_X10_isReadBy_19 {S : Nat × Nat → Bool} {ρ : Nat × Nat → Nat × Nat} (O : RhoOk S ρ)  {h g : am_H} (R : eqR S ρ h g)  : eqQ S ρ h g (f_X10_isReadBy_19  h) (f_X10_isReadBy_19  g) := by
  unfold f_X10_isReadBy_19
  exact q_rz R
theorem e_X10_isReadBy {S : Nat × Nat → Bool} {ρ : Nat × Nat → Nat × Nat} (O : RhoOk S ρ)  {h g : am_H} (R : eqR S ρ h g) (a0 : Nat × Nat) (s_a0 : S a0 = true) (x1 : Int32) (x2 : Option (Nat × Nat)) (p_x2 : okp S x2) (x3 : Option (Nat × Nat)) (p_x3 : okp S x3) : eqQ S ρ h g (f_X10_isReadBy a0 x1 x2 x3 h) (f_X10_isReadBy (ρ a0) x1 (x2.map ρ) (x3.map ρ) g) := by
  rw [f_X10_isReadBy, f_X10_isReadBy]
  refine q_gI O R p_x2 (fun v1 => ?_)
  refine q_ite (fun _ => ?_) (fun _ => ?_)
  · refine q_gI O R (okp_s s_a0) (fun v2 => ?_)
    refine q_ao O p_x3 (fun a5 s_a5 => ?_)
    refine q_bI (e_X9_isSeenBy O R _ s_a5 _ _) (fun h3 gh3 v4 R => ?_)
    refine q_ite (fun _ => ?_) (fun _ => ?_)
    · exact e_X10_isReadBy_19 O R
    · refine q_gI O R p_x2 (fun v6 => ?_)
      refine q_ite (fun _ => ?_) (fun _ => ?_)
      · exact e_X10_isReadBy_44 O R
      · refine q_gI O R p_x2 (fun v7 => ?_)
        refine q_ite (fun _ => ?_) (fun _ => ?_)
        · exact e_X10_isReadBy_44 O R
        · refine q_ao O p_x3 (fun a10 s_a10 => ?_)
          refine q_bI (e_X9_isOwnedBy O R _ s_a10 _) (fun h8 gh8 v9 R => ?_)
          refine q_ite (fun _ => ?_) (fun _ => ?_)
          · exact e_X10_isReadBy_49 O R _
          · exact e_X10_isReadBy_44 O R
  · exact e_X10_isReadBy_19 O R
theorem e_X1_isFrozenHereOrAbove_2 {S : Nat × Nat → Bool} {ρ : Nat × Nat → Nat × Nat} (O : RhoOk S ρ)  : ∀ (n : Nat) {h g : am_H} (_ : eqR S ρ h g) (x1 : Option (Nat × Nat)) (p_x1 : okp S x1), eqQ S ρ h g (f_X1_isFrozenHereOrAbove_2 n x1 h) (f_X1_isFrozenHereOrAbove_2 n (x1.map ρ) g) := by
  intro n
  induction n with
  | zero => intros; exact q_none
  | succ n ih =>
    intro h g R x1 p_x1
    rw [f_X1_isFrozenHereOrAbove_2, f_X1_isFrozenHereOrAbove_2]
    refine q_itN ?_ ?_
    · exact q_rz R
    · refine q_gI O R p_x1 (fun v1 => ?_)
      refine q_ite (fun _ => ?_) (fun _ => ?_)
      · refine q_gR O R p_x1 (fun o2 p_o2 => ?_)
        exact ih R _ p_o2
      · exact q_rz R
theorem e_X1_isFrozenHereOrAbove {S : Nat × Nat → Bool} {ρ : Nat × Nat → Nat × Nat} (O : RhoOk S ρ)  {h g : am_H} (R : eqR S ρ h g) (a0 : Nat × Nat) (s_a0 : S a0 = true) : eqQ S ρ h g (f_X1_isFrozenHereOrAbove a0 h) (f_X1_isFrozenHereOrAbove (ρ a0) g) := by
  rw [f_X1_isFrozenHereOrAbove, f_X1_isFrozenHereOrAbove]
  exact e_X1_isFrozenHereOrAbove_2 O _ R _ (okp_s s_a0)
theorem e_X10_mayComment_66 {S : Nat × Nat → Bool} {ρ : Nat × Nat → Nat × Nat} (O : RhoOk S ρ)  {h g : am_H} (R : eqR S ρ h g) (s0 : Int32) : eqQ S ρ h g (f_X10_mayComment_66 s0 h) (f_X10_mayComment_66 s0 g) := by
  rw [f_X10_mayComment_66, f_X10_mayComment_66]
  exact q_rz R
theorem e_X10_mayComment_65 {S : Nat × Nat → Bool} {ρ : Nat × Nat → Nat × Nat} (O : RhoOk S ρ)  {h g : am_H} (R : eqR S ρ h g)  : eqQ S ρ h g (f_X10_mayComment_65  h) (f_X10_mayComment_65  g) := by
  unfold f_X10_mayComment_65
  exact e_X10_mayComment_66 O R _
theorem e_X10_mayComment_24 {S : Nat × Nat → Bool} {ρ : Nat × Nat → Nat × Nat} (O : RhoOk S ρ)  {h g : am_H} (R : eqR S ρ h g)  : eqQ S ρ h g (f_X10_mayComment_24  h) (f_X10_mayComment_24  g) := by
  unfold f_X10_mayComment_24
  exact q_rz R
theorem e_X10_mayComment {S : Nat × Nat → Bool} {ρ : Nat × Nat → Nat × Nat} (O : RhoOk S ρ)  {h g : am_H} (R : eqR S ρ h g) (a0 : Nat × Nat) (s_a0 : S a0 = true) (x1 : Option (Nat × Nat)) (p_x1 : okp S x1) (x2 : Int32) (x3 : Option (Nat × Nat)) (p_x3 : okp S x3) : eqQ S ρ h g (f_X10_mayComment a0 x1 x2 x3 h) (f_X10_mayComment (ρ a0) (x1.map ρ) x2 (x3.map ρ) g) := by
  rw [f_X10_mayComment, f_X10_mayComment]
  refine q_gI O R (okp_s s_a0) (fun v1 => ?_)
  refine q_ao O p_x1 (fun a4 s_a4 => ?_)
  refine q_bI (e_X9_isSeenBy O R _ s_a4 _ _) (fun h2 gh2 v3 R => ?_)
  refine q_ite (fun _ => ?_) (fun _ => ?_)
  · exact e_X10_mayComment_24 O R
  · refine q_gI O R p_x1 (fun v5 => ?_)
    refine q_ao O (okp_s s_a0) (fun a8 s_a8 => ?_)
    refine q_bI (e_X10_isBlockedByAny O R _ s_a8 _ _) (fun h6 gh6 v7 R => ?_)
    refine q_ite (fun _ => ?_) (fun _ => ?_)
    · refine q_itN ?_ ?_
      · exact q_rz R
      · refine q_ao O (okp_s s_a0) (fun a11 s_a11 => ?_)
        refine q_bI (e_X10_isReadBy O R _ s_a11 _ _ p_x3 _ p_x1) (fun h9 gh9 v10 R => ?_)
        refine q_ite (fun _ => ?_) (fun _ => ?_)
        · exact e_X10_mayComment_65 O R
        · refine q_ao O p_x3 (fun a14 s_a14 => ?_)
          refine q_bI (e_X1_isFrozenHereOrAbove O R _ s_a14) (fun h12 gh12 v13 R => ?_)
          refine q_ite (fun _ => ?_) (fun _ => ?_)
          · refine q_gI O R p_x3 (fun v15 => ?_)
            refine q_ao O (okp_s s_a0) (fun a18 s_a18 => ?_)
            refine q_bI (e_X10_isBlockedBy O R _ s_a18 _ _) (fun h16 gh16 v17 R => ?_)
            refine q_ite (fun _ => ?_) (fun _ => ?_)
            · exact e_X10_mayComment_66 O R _
            · exact e_X10_mayComment_65 O R
          · exact e_X10_mayComment_65 O R
    · exact e_X10_mayComment_24 O R
theorem e_X1_init {S : Nat × Nat → Bool} {ρ : Nat × Nat → Nat × Nat} (O : RhoOk S ρ)  {h g : am_H} (R : eqR S ρ h g) (a0 : Nat × Nat) (s_a0 : S a0 = true) (x1 : Int32) (x2 : Int32) (x3 : Option (Nat × Nat)) (p_x3 : okp S x3) (x4 : Int32) : eqQ S ρ h g (f_X1_init a0 x1 x2 x3 x4 h) (f_X1_init (ρ a0) x1 x2 (x3.map ρ) x4 g) := by
  rw [f_X1_init, f_X1_init]
  refine q_pI O R (okp_s s_a0) (fun h1 gh1 R => ?_)
  refine q_pI O R (okp_s s_a0) (fun h2 gh2 R => ?_)
  refine q_pR O R (okp_s s_a0) p_x3 (fun h3 gh3 R => ?_)
  refine q_pZ O R (okp_s s_a0) (fun h4 gh4 R => ?_)
  exact q_rtn R
theorem e_X10_comment_73 {S : Nat × Nat → Bool} {ρ : Nat × Nat → Nat × Nat} (O : RhoOk S ρ)  {h g : am_H} (R : eqR S ρ h g)  : eqQ S ρ h g (f_X10_comment_73  h) (f_X10_comment_73  g) := by
  unfold f_X10_comment_73
  exact q_ex R
theorem e_X3_firstDayOfAny_31 {S : Nat × Nat → Bool} {ρ : Nat × Nat → Nat × Nat} (O : RhoOk S ρ) {rc6 : Nat × Nat → Int32 → Int32 → Int32 → am_H → am_R} (hrc6 : ∀ {h g : am_H} (_ : eqR S ρ h g) (y0 : Nat × Nat) (s_y0 : S y0 = true) (y1 : Int32) (y2 : Int32) (y3 : Int32), eqQ S ρ h g (rc6 y0 y1 y2 y3 h) (rc6 (ρ y0) y1 y2 y3 g)) {h g : am_H} (R : eqR S ρ h g) (a0 : Nat × Nat) (s_a0 : S a0 = true) (x1 : Int32) (x2 : Int32) (x3 : Int32) : eqQ S ρ h g (f_X3_firstDayOfAny_31 rc6 a0 x1 x2 x3 h) (f_X3_firstDayOfAny_31 rc6 (ρ a0) x1 x2 x3 g) := by
  rw [f_X3_firstDayOfAny_31, f_X3_firstDayOfAny_31]
  exact hrc6 R _ s_a0 _ _ _
theorem e_X3_firstDayOfAny_6 {S : Nat × Nat → Bool} {ρ : Nat × Nat → Nat × Nat} (O : RhoOk S ρ)  : ∀ (n : Nat) {h g : am_H} (_ : eqR S ρ h g) (a0 : Nat × Nat) (s_a0 : S a0 = true) (x1 : Int32) (x2 : Int32) (x3 : Int32), eqQ S ρ h g (f_X3_firstDayOfAny_6 n a0 x1 x2 x3 h) (f_X3_firstDayOfAny_6 n (ρ a0) x1 x2 x3 g) := by
  intro n
  induction n with
  | zero => intros; exact q_none
  | succ n ih =>
    intro h g R a0 s_a0 x1 x2 x3
    rw [f_X3_firstDayOfAny_6, f_X3_firstDayOfAny_6]
    refine q_ite (fun _ => ?_) (fun _ => ?_)
    · exact q_ri R
    · refine q_bJ (e_X10_has O R _ _) (fun h1 gh1 v2 R => ?_)
      refine q_ite (fun _ => ?_) (fun _ => ?_)
      · exact e_X3_firstDayOfAny_31 O ih R _ s_a0 _ _ _
      · refine q_gR O R (okp_s s_a0) (fun o3 p_o3 => ?_)
        refine q_aI O R p_o3 (fun v4 => ?_)
        exact e_X3_firstDayOfAny_31 O ih R _ s_a0 _ _ _
theorem e_X3_firstDayOfAny {S : Nat × Nat → Bool} {ρ : Nat × Nat → Nat × Nat} (O : RhoOk S ρ)  {h g : am_H} (R : eqR S ρ h g) (a0 : Nat × Nat) (s_a0 : S a0 = true) (x1 : Int32) : eqQ S ρ h g (f_X3_firstDayOfAny a0 x1 h) (f_X3_firstDayOfAny (ρ a0) x1 g) := by
  rw [f_X3_firstDayOfAny, f_X3_firstDayOfAny]
  exact e_X3_firstDayOfAny_6 O _ R _ s_a0 _ _ _
theorem e_X9_chaptersOutFrom_28 {S : Nat × Nat → Bool} {ρ : Nat × Nat → Nat × Nat} (O : RhoOk S ρ) {rc4 : Nat × Nat → Int32 → Int32 → Int32 → am_H → am_R} (hrc4 : ∀ {h g : am_H} (_ : eqR S ρ h g) (y0 : Nat × Nat) (s_y0 : S y0 = true) (y1 : Int32) (y2 : Int32) (y3 : Int32), eqQ S ρ h g (rc4 y0 y1 y2 y3 h) (rc4 (ρ y0) y1 y2 y3 g)) {h g : am_H} (R : eqR S ρ h g) (a0 : Nat × Nat) (s_a0 : S a0 = true) (x1 : Int32) (x3 : Int32) (s0 : Int32) (s1 : Int32) (s2 : Int32) : eqQ S ρ h g (f_X9_chaptersOutFrom_28 rc4 a0 x1 x3 s0 s1 s2 h) (f_X9_chaptersOutFrom_28 rc4 (ρ a0) x1 x3 s0 s1 s2 g) := by
  rw [f_X9_chaptersOutFrom_28, f_X9_chaptersOutFrom_28]
  refine q_bJ (e_X10_with O R _ _ _) (fun h5 gh5 v6 R => ?_)
  exact hrc4 R _ s_a0 _ _ _
theorem e_X9_chaptersOutFrom_4 {S : Nat × Nat → Bool} {ρ : Nat × Nat → Nat × Nat} (O : RhoOk S ρ)  : ∀ (n : Nat) {h g : am_H} (_ : eqR S ρ h g) (a0 : Nat × Nat) (s_a0 : S a0 = true) (x1 : Int32) (x2 : Int32) (x3 : Int32), eqQ S ρ h g (f_X9_chaptersOutFrom_4 n a0 x1 x2 x3 h) (f_X9_chaptersOutFrom_4 n (ρ a0) x1 x2 x3 g) := by
  intro n
  induction n with
  | zero => intros; exact q_none
  | succ n ih =>
    intro h g R a0 s_a0 x1 x2 x3
    rw [f_X9_chaptersOutFrom_4, f_X9_chaptersOutFrom_4]
    refine q_gI O R (okp_s s_a0) (fun v1 => ?_)
    refine q_ite (fun _ => ?_) (fun _ => ?_)
    · exact q_ri R
    · refine q_ao O (okp_s s_a0) (fun a4 s_a4 => ?_)
      refine q_bI (e_X9_outDay O R _ s_a4 _) (fun h2 gh2 v3 R => ?_)
      refine q_ite (fun _ => ?_) (fun _ => ?_)
      · exact e_X9_chaptersOutFrom_28 O ih R _ s_a0 _ _ _ _ _
      · exact e_X9_chaptersOutFrom_28 O ih R _ s_a0 _ _ _ _ _
theorem e_X9_chaptersOutFrom {S : Nat × Nat → Bool} {ρ : Nat × Nat → Nat × Nat} (O : RhoOk S ρ)  {h g : am_H} (R : eqR S ρ h g) (a0 : Nat × Nat) (s_a0 : S a0 = true) (x1 : Int32) : eqQ S ρ h g (f_X9_chaptersOutFrom a0 x1 h) (f_X9_chaptersOutFrom (ρ a0) x1 g) := by
  rw [f_X9_chaptersOutFrom, f_X9_chaptersOutFrom]
  exact e_X9_chaptersOutFrom_4 O _ R _ s_a0 _ _ _
theorem e_X10_newChapters_42 {S : Nat × Nat → Bool} {ρ : Nat × Nat → Nat × Nat} (O : RhoOk S ρ)  {h g : am_H} (R : eqR S ρ h g)  : eqQ S ρ h g (f_X10_newChapters_42  h) (f_X10_newChapters_42  g) := by
  unfold f_X10_newChapters_42
  exact q_ri R
theorem e_X10_newChapters {S : Nat × Nat → Bool} {ρ : Nat × Nat → Nat × Nat} (O : RhoOk S ρ)  {h g : am_H} (R : eqR S ρ h g) (a0 : Nat × Nat) (s_a0 : S a0 = true) (x1 : Int32) (x2 : Int32) : eqQ S ρ h g (f_X10_newChapters a0 x1 x2 h) (f_X10_newChapters (ρ a0) x1 x2 g) := by
  rw [f_X10_newChapters, f_X10_newChapters]
  refine q_gR O R (okp_s s_a0) (fun o1 p_o1 => ?_)
  refine q_aR O R p_o1 (fun o2 p_o2 => ?_)
  refine q_gR O R (okp_s s_a0) (fun o3 p_o3 => ?_)
  refine q_aR O R p_o3 (fun o4 p_o4 => ?_)
  refine q_ao O p_o2 (fun a7 s_a7 => ?_)
  refine q_bI (e_X9_isPosted O R _ s_a7) (fun h5 gh5 v6 R => ?_)
  refine q_ite (fun _ => ?_) (fun _ => ?_)
  · exact e_X10_newChapters_42 O R
  · refine q_gI O R (okp_s s_a0) (fun v8 => ?_)
    refine q_ao O p_o2 (fun a11 s_a11 => ?_)
    refine q_bI (e_X9_isSeenBy O R _ s_a11 _ _) (fun h9 gh9 v10 R => ?_)
    refine q_ite (fun _ => ?_) (fun _ => ?_)
    · exact e_X10_newChapters_42 O R
    · refine q_ao O p_o2 (fun a14 s_a14 => ?_)
      refine q_bI (e_X9_isOwnedBy O R _ s_a14 _) (fun h12 gh12 v13 R => ?_)
      refine q_ite (fun _ => ?_) (fun _ => ?_)
      · refine q_gR O R p_o4 (fun o15 p_o15 => ?_)
        refine q_aI O R p_o15 (fun v16 => ?_)
        refine q_gI O R (okp_s s_a0) (fun v17 => ?_)
        refine q_ao O p_o2 (fun a20 s_a20 => ?_)
        refine q_bI (e_X9_ownersToldTo O R _ s_a20 _ _) (fun h18 gh18 v19 R => ?_)
        refine q_ao O p_o4 (fun a23 s_a23 => ?_)
        refine q_bI (e_X3_firstDayOfAny O R _ s_a23 _) (fun h21 gh21 v22 R => ?_)
        refine q_ao O p_o2 (fun a26 s_a26 => ?_)
        refine q_bI (e_X9_chaptersOutFrom O R _ s_a26 _) (fun h24 gh24 v25 R => ?_)
        refine q_gR O R p_o4 (fun o27 p_o27 => ?_)
        refine q_aI O R p_o27 (fun v28 => ?_)
        exact q_ri R
      · exact e_X10_newChapters_42 O R
theorem e_X10_digest_16 {S : Nat × Nat → Bool} {ρ : Nat × Nat → Nat × Nat} (O : RhoOk S ρ)  : ∀ (n : Nat) {h g : am_H} (_ : eqR S ρ h g) (a0 : Nat × Nat) (s_a0 : S a0 = true) (x1 : Int32) (x2 : Option (Nat × Nat)) (p_x2 : okp S x2) (x3 : Int32) (x4 : Int32), eqQ S ρ h g (f_X10_digest_16 n a0 x1 x2 x3 x4 h) (f_X10_digest_16 n (ρ a0) x1 (x2.map ρ) x3 x4 g) := by
  intro n
  induction n with
  | zero => intros; exact q_none
  | succ n ih =>
    intro h g R a0 s_a0 x1 x2 p_x2 x3 x4
    rw [f_X10_digest_16, f_X10_digest_16]
    refine q_gI O R (okp_s s_a0) (fun v5 => ?_)
    refine q_ite (fun _ => ?_) (fun _ => ?_)
    · exact q_ri R
    · refine q_ao O (okp_s s_a0) (fun a8 s_a8 => ?_)
      refine q_bI (e_X10_newChapters O R _ s_a8 _ _) (fun h6 gh6 v7 R => ?_)
      refine q_gR O R p_x2 (fun o9 p_o9 => ?_)
      refine q_aI O R p_o9 (fun v10 => ?_)
      refine q_sI O R p_o9 (fun h11 gh11 R => ?_)
      refine q_bI (e_J6_bitCount_0f7a4 O R _) (fun h12 gh12 v13 R => ?_)
      exact ih R _ s_a0 _ _ p_x2 _ _
theorem e_X10_digest {S : Nat × Nat → Bool} {ρ : Nat × Nat → Nat × Nat} (O : RhoOk S ρ)  {h g : am_H} (R : eqR S ρ h g) (a0 : Nat × Nat) (s_a0 : S a0 = true) (x1 : Int32) : eqQ S ρ h g (f_X10_digest a0 x1 h) (f_X10_digest (ρ a0) x1 g) := by
  rw [f_X10_digest, f_X10_digest]
  refine q_bV (e_X10_checkPerson O R _) (fun h1 gh1 R => ?_)
  refine q_gR O R (okp_s s_a0) (fun o3 p_o3 => ?_)
  refine q_aR O R p_o3 (fun o4 p_o4 => ?_)
  exact e_X10_digest_16 O _ R _ s_a0 _ _ p_o4 _ _
theorem e_X10_countKudos_48 {S : Nat × Nat → Bool} {ρ : Nat × Nat → Nat × Nat} (O : RhoOk S ρ) {rc4 : Nat × Nat → Option (Nat × Nat) → Int32 → Int32 → am_H → am_R} (hrc4 : ∀ {h g : am_H} (_ : eqR S ρ h g) (y0 : Nat × Nat) (s_y0 : S y0 = true) (y1 : Option (Nat × Nat)) (p_y1 : okp S y1) (y2 : Int32) (y3 : Int32), eqQ S ρ h g (rc4 y0 y1 y2 y3 h) (rc4 (ρ y0) (y1.map ρ) y2 y3 g)) {h g : am_H} (R : eqR S ρ h g) (a0 : Nat × Nat) (s_a0 : S a0 = true) (x1 : Option (Nat × Nat)) (p_x1 : okp S x1) (x2 : Int32) (x3 : Int32) : eqQ S ρ h g (f_X10_countKudos_48 rc4 a0 x1 x2 x3 h) (f_X10_countKudos_48 rc4 (ρ a0) (x1.map ρ) x2 x3 g) := by
  rw [f_X10_countKudos_48, f_X10_countKudos_48]
  exact hrc4 R _ s_a0 _ p_x1 _ _
theorem e_X10_countKudos_4 {S : Nat × Nat → Bool} {ρ : Nat × Nat → Nat × Nat} (O : RhoOk S ρ)  : ∀ (n : Nat) {h g : am_H} (_ : eqR S ρ h g) (a0 : Nat × Nat) (s_a0 : S a0 = true) (x1 : Option (Nat × Nat)) (p_x1 : okp S x1) (x2 : Int32) (x3 : Int32), eqQ S ρ h g (f_X10_countKudos_4 n a0 x1 x2 x3 h) (f_X10_countKudos_4 n (ρ a0) (x1.map ρ) x2 x3 g) := by
  intro n
  induction n with
  | zero => intros; exact q_none
  | succ n ih =>
    intro h g R a0 s_a0 x1 p_x1 x2 x3
    rw [f_X10_countKudos_4, f_X10_countKudos_4]
    refine q_ite (fun _ => ?_) (fun _ => ?_)
    · exact q_ri R
    · refine q_gI O R p_x1 (fun v1 => ?_)
      refine q_bI (e_X10_has O R _ _) (fun h2 gh2 v3 R => ?_)
      refine q_ite (fun _ => ?_) (fun _ => ?_)
      · exact e_X10_countKudos_48 O ih R _ s_a0 _ p_x1 _ _
      · refine q_gI O R p_x1 (fun v4 => ?_)
        refine q_gR O R (okp_s s_a0) (fun o5 p_o5 => ?_)
        refine q_aI O R p_o5 (fun v6 => ?_)
        refine q_ite (fun _ => ?_) (fun _ => ?_)
        · exact e_X10_countKudos_48 O ih R _ s_a0 _ p_x1 _ _
        · exact e_X10_countKudos_48 O ih R _ s_a0 _ p_x1 _ _
theorem e_X10_countKudos {S : Nat × Nat → Bool} {ρ : Nat × Nat → Nat × Nat} (O : RhoOk S ρ)  {h g : am_H} (R : eqR S ρ h g) (a0 : Nat × Nat) (s_a0 : S a0 = true) (x1 : Option (Nat × Nat)) (p_x1 : okp S x1) : eqQ S ρ h g (f_X10_countKudos a0 x1 h) (f_X10_countKudos (ρ a0) (x1.map ρ) g) := by
  rw [f_X10_countKudos, f_X10_countKudos]
  exact e_X10_countKudos_4 O _ R _ s_a0 _ p_x1 _ _
theorem e_X10_kudos_44 {S : Nat × Nat → Bool} {ρ : Nat × Nat → Nat × Nat} (O : RhoOk S ρ)  {h g : am_H} (R : eqR S ρ h g)  : eqQ S ρ h g (f_X10_kudos_44  h) (f_X10_kudos_44  g) := by
  unfold f_X10_kudos_44
  exact q_ex R
theorem e_X10_kudos {S : Nat × Nat → Bool} {ρ : Nat × Nat → Nat × Nat} (O : RhoOk S ρ)  {h g : am_H} (R : eqR S ρ h g) (a0 : Nat × Nat) (s_a0 : S a0 = true) (x1 : Int32) (x2 : Int32) : eqQ S ρ h g (f_X10_kudos a0 x1 x2 h) (f_X10_kudos (ρ a0) x1 x2 g) := by
  rw [f_X10_kudos, f_X10_kudos]
  refine q_ao O (okp_s s_a0) (fun a3 s_a3 => ?_)
  refine q_bR (e_X10_workAt O R _ s_a3 _) (fun h1 gh1 o2 R p_o2 => ?_)
  refine q_bV (e_X10_checkFace O R _) (fun h4 gh4 R => ?_)
  refine q_gI O R (okp_s s_a0) (fun v6 => ?_)
  refine q_ao O p_o2 (fun a9 s_a9 => ?_)
  refine q_bI (e_X9_isSeenBy O R _ s_a9 _ _) (fun h7 gh7 v8 R => ?_)
  refine q_ite (fun _ => ?_) (fun _ => ?_)
  · exact e_X10_kudos_44 O R
  · refine q_ao O p_o2 (fun a12 s_a12 => ?_)
    refine q_bI (e_X9_isOwnedBy O R _ s_a12 _) (fun h10 gh10 v11 R => ?_)
    refine q_ite (fun _ => ?_) (fun _ => ?_)
    · refine q_gI O R p_o2 (fun v13 => ?_)
      refine q_gR O R (okp_s s_a0) (fun o14 p_o14 => ?_)
      refine q_aI O R p_o14 (fun v15 => ?_)
      refine q_ite (fun _ => ?_) (fun _ => ?_)
      · refine q_gI O R p_o2 (fun v16 => ?_)
        refine q_bI (e_X10_with O R _ _ _) (fun h17 gh17 v18 R => ?_)
        refine q_pI O R p_o2 (fun h19 gh19 R => ?_)
        refine q_ao O (okp_s s_a0) (fun a22 s_a22 => ?_)
        refine q_bI (e_X10_countKudos O R _ s_a22 _ p_o2) (fun h20 gh20 v21 R => ?_)
        exact q_ri R
      · exact e_X10_kudos_44 O R
    · exact e_X10_kudos_44 O R
theorem e_X10_liked {S : Nat × Nat → Bool} {ρ : Nat × Nat → Nat × Nat} (O : RhoOk S ρ)  {h g : am_H} (R : eqR S ρ h g) (a0 : Nat × Nat) (s_a0 : S a0 = true) (x1 : Int32) : eqQ S ρ h g (f_X10_liked a0 x1 h) (f_X10_liked (ρ a0) x1 g) := by
  rw [f_X10_liked, f_X10_liked]
  refine q_ao O (okp_s s_a0) (fun a3 s_a3 => ?_)
  refine q_bR (e_X10_workAt O R _ s_a3 _) (fun h1 gh1 o2 R p_o2 => ?_)
  refine q_ao O (okp_s s_a0) (fun a6 s_a6 => ?_)
  refine q_bI (e_X10_countKudos O R _ s_a6 _ p_o2) (fun h4 gh4 v5 R => ?_)
  exact q_ri R
theorem e_X10_news_32 {S : Nat × Nat → Bool} {ρ : Nat × Nat → Nat × Nat} (O : RhoOk S ρ) {rc8 : Nat × Nat → Int32 → Int32 → Int32 → am_H → am_R} (hrc8 : ∀ {h g : am_H} (_ : eqR S ρ h g) (y0 : Nat × Nat) (s_y0 : S y0 = true) (y1 : Int32) (y2 : Int32) (y3 : Int32), eqQ S ρ h g (rc8 y0 y1 y2 y3 h) (rc8 (ρ y0) y1 y2 y3 g)) {h g : am_H} (R : eqR S ρ h g) (a0 : Nat × Nat) (s_a0 : S a0 = true) (x1 : Int32) (x3 : Int32) (s0 : Int32) (s1 : Int32) (s2 : Int32) : eqQ S ρ h g (f_X10_news_32 rc8 a0 x1 x3 s0 s1 s2 h) (f_X10_news_32 rc8 (ρ a0) x1 x3 s0 s1 s2 g) := by
  rw [f_X10_news_32, f_X10_news_32]
  refine q_bI (e_X10_with O R _ _ _) (fun h7 gh7 v8 R => ?_)
  exact hrc8 R _ s_a0 _ _ _
theorem e_X10_news_8 {S : Nat × Nat → Bool} {ρ : Nat × Nat → Nat × Nat} (O : RhoOk S ρ)  : ∀ (n : Nat) {h g : am_H} (_ : eqR S ρ h g) (a0 : Nat × Nat) (s_a0 : S a0 = true) (x1 : Int32) (x2 : Int32) (x3 : Int32), eqQ S ρ h g (f_X10_news_8 n a0 x1 x2 x3 h) (f_X10_news_8 n (ρ a0) x1 x2 x3 g) := by
  intro n
  induction n with
  | zero => intros; exact q_none
  | succ n ih =>
    intro h g R a0 s_a0 x1 x2 x3
    rw [f_X10_news_8, f_X10_news_8]
    refine q_gI O R (okp_s s_a0) (fun v3 => ?_)
    refine q_ite (fun _ => ?_) (fun _ => ?_)
    · exact q_ri R
    · refine q_ao O (okp_s s_a0) (fun a6 s_a6 => ?_)
      refine q_bI (e_X10_newChapters O R _ s_a6 _ _) (fun h4 gh4 v5 R => ?_)
      refine q_ite (fun _ => ?_) (fun _ => ?_)
      · exact e_X10_news_32 O ih R _ s_a0 _ _ _ _ _
      · exact e_X10_news_32 O ih R _ s_a0 _ _ _ _ _
theorem e_X10_news {S : Nat × Nat → Bool} {ρ : Nat × Nat → Nat × Nat} (O : RhoOk S ρ)  {h g : am_H} (R : eqR S ρ h g) (a0 : Nat × Nat) (s_a0 : S a0 = true) (x1 : Int32) : eqQ S ρ h g (f_X10_news a0 x1 h) (f_X10_news (ρ a0) x1 g) := by
  rw [f_X10_news, f_X10_news]
  refine q_bV (e_X10_checkPerson O R _) (fun h1 gh1 R => ?_)
  exact e_X10_news_8 O _ R _ s_a0 _ _ _
theorem e_X10_reads_57 {S : Nat × Nat → Bool} {ρ : Nat × Nat → Nat × Nat} (O : RhoOk S ρ) {rc16 : Nat × Nat → Int32 → Int32 → Option (Nat × Nat) → Int32 → Int32 → am_H → am_R} (hrc16 : ∀ {h g : am_H} (_ : eqR S ρ h g) (y0 : Nat × Nat) (s_y0 : S y0 = true) (y1 : Int32) (y2 : Int32) (y3 : Option (Nat × Nat)) (p_y3 : okp S y3) (y4 : Int32) (y5 : Int32), eqQ S ρ h g (rc16 y0 y1 y2 y3 y4 y5 h) (rc16 (ρ y0) y1 y2 (y3.map ρ) y4 y5 g)) {h g : am_H} (R : eqR S ρ h g) (a0 : Nat × Nat) (s_a0 : S a0 = true) (x1 : Int32) (x2 : Int32) (x3 : Option (Nat × Nat)) (p_x3 : okp S x3) (x4 : Int32) (x5 : Int32) : eqQ S ρ h g (f_X10_reads_57 rc16 a0 x1 x2 x3 x4 x5 h) (f_X10_reads_57 rc16 (ρ a0) x1 x2 (x3.map ρ) x4 x5 g) := by
  rw [f_X10_reads_57, f_X10_reads_57]
  exact hrc16 R _ s_a0 _ _ _ p_x3 _ _
theorem e_X10_reads_16 {S : Nat × Nat → Bool} {ρ : Nat × Nat → Nat × Nat} (O : RhoOk S ρ)  : ∀ (n : Nat) {h g : am_H} (_ : eqR S ρ h g) (a0 : Nat × Nat) (s_a0 : S a0 = true) (x1 : Int32) (x2 : Int32) (x3 : Option (Nat × Nat)) (p_x3 : okp S x3) (x4 : Int32) (x5 : Int32), eqQ S ρ h g (f_X10_reads_16 n a0 x1 x2 x3 x4 x5 h) (f_X10_reads_16 n (ρ a0) x1 x2 (x3.map ρ) x4 x5 g) := by
  intro n
  induction n with
  | zero => intros; exact q_none
  | succ n ih =>
    intro h g R a0 s_a0 x1 x2 x3 p_x3 x4 x5
    rw [f_X10_reads_16, f_X10_reads_16]
    refine q_gI O R (okp_s s_a0) (fun v6 => ?_)
    refine q_ite (fun _ => ?_) (fun _ => ?_)
    · exact q_ri R
    · refine q_gR O R (okp_s s_a0) (fun o7 p_o7 => ?_)
      refine q_aR O R p_o7 (fun o8 p_o8 => ?_)
      refine q_gI O R p_o8 (fun v9 => ?_)
      refine q_ite (fun _ => ?_) (fun _ => ?_)
      · refine q_ao O (okp_s s_a0) (fun a12 s_a12 => ?_)
        refine q_bI (e_X10_isReadBy O R _ s_a12 _ _ p_o8 _ p_x3) (fun h10 gh10 v11 R => ?_)
        refine q_ite (fun _ => ?_) (fun _ => ?_)
        · exact e_X10_reads_57 O ih R _ s_a0 _ _ _ p_x3 _ _
        · exact e_X10_reads_57 O ih R _ s_a0 _ _ _ p_x3 _ _
      · exact e_X10_reads_57 O ih R _ s_a0 _ _ _ p_x3 _ _
theorem e_X10_reads {S : Nat × Nat → Bool} {ρ : Nat × Nat → Nat × Nat} (O : RhoOk S ρ)  {h g : am_H} (R : eqR S ρ h g) (a0 : Nat × Nat) (s_a0 : S a0 = true) (x1 : Int32) (x2 : Int32) : eqQ S ρ h g (f_X10_reads a0 x1 x2 h) (f_X10_reads (ρ a0) x1 x2 g) := by
  rw [f_X10_reads, f_X10_reads]
  refine q_ao O (okp_s s_a0) (fun a3 s_a3 => ?_)
  refine q_bR (e_X10_workAt O R _ s_a3 _) (fun h1 gh1 o2 R p_o2 => ?_)
  refine q_bV (e_X10_checkFace O R _) (fun h4 gh4 R => ?_)
  exact e_X10_reads_16 O _ R _ s_a0 _ _ _ p_o2 _ _
theorem e_X10_screen {S : Nat × Nat → Bool} {ρ : Nat × Nat → Nat × Nat} (O : RhoOk S ρ)  {h g : am_H} (R : eqR S ρ h g) (a0 : Nat × Nat) (s_a0 : S a0 = true) (x1 : Int32) (x2 : Int32) : eqQ S ρ h g (f_X10_screen a0 x1 x2 h) (f_X10_screen (ρ a0) x1 x2 g) := by
  rw [f_X10_screen, f_X10_screen]
  refine q_ao O (okp_s s_a0) (fun a3 s_a3 => ?_)
  refine q_bR (e_X10_workAt O R _ s_a3 _) (fun h1 gh1 o2 R p_o2 => ?_)
  refine q_gI O R p_o2 (fun v4 => ?_)
  refine q_pZ O R p_o2 (fun h5 gh5 R => ?_)
  exact q_rz R
theorem e_X10_subscribe_87 {S : Nat × Nat → Bool} {ρ : Nat × Nat → Nat × Nat} (O : RhoOk S ρ)  {h g : am_H} (R : eqR S ρ h g) (s0 : Int32) : eqQ S ρ h g (f_X10_subscribe_87 s0 h) (f_X10_subscribe_87 s0 g) := by
  rw [f_X10_subscribe_87, f_X10_subscribe_87]
  exact q_rz R
theorem e_X10_subscribe_77 {S : Nat × Nat → Bool} {ρ : Nat × Nat → Nat × Nat} (O : RhoOk S ρ)  {h g : am_H} (R : eqR S ρ h g) (x6 : Int32) : eqQ S ρ h g (f_X10_subscribe_77 x6 h) (f_X10_subscribe_77 x6 g) := by
  rw [f_X10_subscribe_77, f_X10_subscribe_77]
  refine q_ite (fun _ => ?_) (fun _ => ?_)
  · exact e_X10_subscribe_87 O R _
  · exact e_X10_subscribe_87 O R _
theorem e_X10_subscribe_62 {S : Nat × Nat → Bool} {ρ : Nat × Nat → Nat × Nat} (O : RhoOk S ρ)  {h g : am_H} (R : eqR S ρ h g) (a0 : Nat × Nat) (s_a0 : S a0 = true) (x3 : Int32) (x5 : Option (Nat × Nat)) (p_x5 : okp S x5) (s0 : Int32) : eqQ S ρ h g (f_X10_subscribe_62 a0 x3 x5 s0 h) (f_X10_subscribe_62 (ρ a0) x3 (x5.map ρ) s0 g) := by
  rw [f_X10_subscribe_62, f_X10_subscribe_62]
  refine q_ite (fun _ => ?_) (fun _ => ?_)
  · refine q_gI O R (okp_s s_a0) (fun v13 => ?_)
    refine q_sI O R p_x5 (fun h14 gh14 R => ?_)
    exact e_X10_subscribe_77 O R _
  · exact e_X10_subscribe_77 O R _
theorem e_X10_subscribe_45 {S : Nat × Nat → Bool} {ρ : Nat × Nat → Nat × Nat} (O : RhoOk S ρ)  {h g : am_H} (R : eqR S ρ h g) (a0 : Nat × Nat) (s_a0 : S a0 = true) (x3 : Int32) (s0 : Option (Nat × Nat)) (p_s0 : okp S s0) : eqQ S ρ h g (f_X10_subscribe_45 a0 x3 s0 h) (f_X10_subscribe_45 (ρ a0) x3 (s0.map ρ) g) := by
  rw [f_X10_subscribe_45, f_X10_subscribe_45]
  refine q_aI O R p_s0 (fun v12 => ?_)
  refine q_ite (fun _ => ?_) (fun _ => ?_)
  · exact e_X10_subscribe_62 O R _ s_a0 _ _ p_s0 _
  · exact e_X10_subscribe_62 O R _ s_a0 _ _ p_s0 _
theorem e_X10_subscribe_20 {S : Nat × Nat → Bool} {ρ : Nat × Nat → Nat × Nat} (O : RhoOk S ρ)  {h g : am_H} (R : eqR S ρ h g) (a0 : Nat × Nat) (s_a0 : S a0 = true) (x1 : Int32) (x2 : Int32) (x3 : Int32) : eqQ S ρ h g (f_X10_subscribe_20 a0 x1 x2 x3 h) (f_X10_subscribe_20 (ρ a0) x1 x2 x3 g) := by
  rw [f_X10_subscribe_20, f_X10_subscribe_20]
  refine q_gR O R (okp_s s_a0) (fun o8 p_o8 => ?_)
  refine q_aR O R p_o8 (fun o9 p_o9 => ?_)
  refine q_ite (fun _ => ?_) (fun _ => ?_)
  · refine q_gR O R p_o9 (fun o10 p_o10 => ?_)
    exact e_X10_subscribe_45 O R _ s_a0 _ _ p_o10
  · refine q_gR O R p_o9 (fun o11 p_o11 => ?_)
    exact e_X10_subscribe_45 O R _ s_a0 _ _ p_o11
theorem e_X10_subscribe {S : Nat × Nat → Bool} {ρ : Nat × Nat → Nat × Nat} (O : RhoOk S ρ)  {h g : am_H} (R : eqR S ρ h g) (a0 : Nat × Nat) (s_a0 : S a0 = true) (x1 : Int32) (x2 : Int32) (x3 : Int32) : eqQ S ρ h g (f_X10_subscribe a0 x1 x2 x3 h) (f_X10_subscribe (ρ a0) x1 x2 x3 g) := by
  rw [f_X10_subscribe, f_X10_subscribe]
  refine q_bV (e_X10_checkPerson O R _) (fun h1 gh1 R => ?_)
  refine q_ite (fun _ => ?_) (fun _ => ?_)
  · refine q_ao O (okp_s s_a0) (fun a5 s_a5 => ?_)
    refine q_bV (e_X10_checkWork O R _ s_a5 _) (fun h3 gh3 R => ?_)
    exact e_X10_subscribe_20 O R _ s_a0 _ _ _
  · refine q_bV (e_X10_checkPerson O R _) (fun h6 gh6 R => ?_)
    exact e_X10_subscribe_20 O R _ s_a0 _ _ _
theorem e_X10_wipe {S : Nat × Nat → Bool} {ρ : Nat × Nat → Nat × Nat} (O : RhoOk S ρ)  {h g : am_H} (R : eqR S ρ h g) (a0 : Nat × Nat) (s_a0 : S a0 = true) : eqQ S ρ h g (f_X10_wipe a0 h) (f_X10_wipe (ρ a0) g) := by
  rw [f_X10_wipe, f_X10_wipe]
  refine q_gR O R (okp_s s_a0) (fun o1 p_o1 => ?_)
  refine q_gI O R p_o1 (fun v2 => ?_)
  refine q_gR O R (okp_s s_a0) (fun o3 p_o3 => ?_)
  refine q_pI O R p_o3 (fun h4 gh4 R => ?_)
  exact q_ri R
theorem e_X10_fault {S : Nat × Nat → Bool} {ρ : Nat × Nat → Nat × Nat} (O : RhoOk S ρ)  {h g : am_H} (R : eqR S ρ h g) (a0 : Nat × Nat) (s_a0 : S a0 = true) : eqQ S ρ h g (f_X10_fault a0 h) (f_X10_fault (ρ a0) g) := by
  rw [f_X10_fault, f_X10_fault]
  refine q_gR O R (okp_s s_a0) (fun o1 p_o1 => ?_)
  refine q_ao O p_o1 (fun a4 s_a4 => ?_)
  refine q_bI (e_X8_firstFault O R _ s_a4) (fun h2 gh2 v3 R => ?_)
  exact q_ri R
theorem e_X2_countMatches {S : Nat × Nat → Bool} {ρ : Nat × Nat → Nat × Nat} (O : RhoOk S ρ)  {h g : am_H} (R : eqR S ρ h g) (a0 : Nat × Nat) (s_a0 : S a0 = true) (x1 : Option (Nat × Nat)) (p_x1 : okp S x1) : eqQ S ρ h g (f_X2_countMatches a0 x1 h) (f_X2_countMatches (ρ a0) (x1.map ρ) g) := by
  rw [f_X2_countMatches, f_X2_countMatches]
  refine q_ao O (okp_s s_a0) (fun a3 s_a3 => ?_)
  refine q_bV (e_X2_findWays O R _ s_a3 _ p_x1) (fun h1 gh1 R => ?_)
  refine q_gR O R (okp_s s_a0) (fun o4 p_o4 => ?_)
  refine q_aI O R p_o4 (fun v5 => ?_)
  exact q_ri R
theorem e_X10_matches {S : Nat × Nat → Bool} {ρ : Nat × Nat → Nat × Nat} (O : RhoOk S ρ)  {h g : am_H} (R : eqR S ρ h g) (a0 : Nat × Nat) (s_a0 : S a0 = true) : eqQ S ρ h g (f_X10_matches a0 h) (f_X10_matches (ρ a0) g) := by
  rw [f_X10_matches, f_X10_matches]
  refine q_gR O R (okp_s s_a0) (fun o1 p_o1 => ?_)
  refine q_gR O R (okp_s s_a0) (fun o2 p_o2 => ?_)
  refine q_ao O p_o1 (fun a5 s_a5 => ?_)
  refine q_bI (e_X2_countMatches O R _ s_a5 _ p_o2) (fun h3 gh3 v4 R => ?_)
  exact q_ri R
theorem e_X10_waiting_4 {S : Nat × Nat → Bool} {ρ : Nat × Nat → Nat × Nat} (O : RhoOk S ρ)  : ∀ (n : Nat) {h g : am_H} (_ : eqR S ρ h g) (a0 : Nat × Nat) (s_a0 : S a0 = true) (x1 : Int32) (x2 : Int32), eqQ S ρ h g (f_X10_waiting_4 n a0 x1 x2 h) (f_X10_waiting_4 n (ρ a0) x1 x2 g) := by
  intro n
  induction n with
  | zero => intros; exact q_none
  | succ n ih =>
    intro h g R a0 s_a0 x1 x2
    rw [f_X10_waiting_4, f_X10_waiting_4]
    refine q_gI O R (okp_s s_a0) (fun v1 => ?_)
    refine q_ite (fun _ => ?_) (fun _ => ?_)
    · exact q_ri R
    · refine q_gR O R (okp_s s_a0) (fun o2 p_o2 => ?_)
      refine q_aR O R p_o2 (fun o3 p_o3 => ?_)
      refine q_gI O R p_o3 (fun v4 => ?_)
      refine q_bI (e_X10_with O R _ _ _) (fun h5 gh5 v6 R => ?_)
      exact ih R _ s_a0 _ _
theorem e_X10_waiting {S : Nat × Nat → Bool} {ρ : Nat × Nat → Nat × Nat} (O : RhoOk S ρ)  {h g : am_H} (R : eqR S ρ h g) (a0 : Nat × Nat) (s_a0 : S a0 = true) : eqQ S ρ h g (f_X10_waiting a0 h) (f_X10_waiting (ρ a0) g) := by
  rw [f_X10_waiting, f_X10_waiting]
  exact e_X10_waiting_4 O _ R _ s_a0 _ _
theorem e_J7_fill_53178_5 {S : Nat × Nat → Bool} {ρ : Nat × Nat → Nat × Nat} (O : RhoOk S ρ)  : ∀ (n : Nat) {h g : am_H} (_ : eqR S ρ h g) (x0 : Option (Nat × Nat)) (p_x0 : okp S x0) (x1 : Int32) (x2 : Int32) (x3 : Int32), eqQ S ρ h g (f_J7_fill_53178_5 n x0 x1 x2 x3 h) (f_J7_fill_53178_5 n (x0.map ρ) x1 x2 x3 g) := by
  intro n
  induction n with
  | zero => intros; exact q_none
  | succ n ih =>
    intro h g R x0 p_x0 x1 x2 x3
    rw [f_J7_fill_53178_5, f_J7_fill_53178_5]
    refine q_ite (fun _ => ?_) (fun _ => ?_)
    · exact q_rtn R
    · refine q_sI O R p_x0 (fun h2 gh2 R => ?_)
      exact ih R _ p_x0 _ _ _
theorem e_J7_fill_53178 {S : Nat × Nat → Bool} {ρ : Nat × Nat → Nat × Nat} (O : RhoOk S ρ)  {h g : am_H} (R : eqR S ρ h g) (x0 : Option (Nat × Nat)) (p_x0 : okp S x0) (x1 : Int32) : eqQ S ρ h g (f_J7_fill_53178 x0 x1 h) (f_J7_fill_53178 (x0.map ρ) x1 g) := by
  rw [f_J7_fill_53178, f_J7_fill_53178]
  refine q_len O p_x0 (fun v1 => ?_)
  exact e_J7_fill_53178_5 O _ R _ p_x0 _ _ _
theorem e_X4_init {S : Nat × Nat → Bool} {ρ : Nat × Nat → Nat × Nat} (O : RhoOk S ρ)  {h g : am_H} (R : eqR S ρ h g) (a0 : Nat × Nat) (s_a0 : S a0 = true) : eqQ S ρ h g (f_X4_init a0 h) (f_X4_init (ρ a0) g) := by
  rw [f_X4_init, f_X4_init]
  exact q_rtn R
