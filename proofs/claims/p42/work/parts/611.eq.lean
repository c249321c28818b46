theorem e_X2_findReceivers {S : Nat × Nat → Bool} {ρ : Nat × Nat → Nat × Nat} (O : RhoOk S ρ)  {h g : am_H} (R : eqR S ρ h g) (a0 : Nat × Nat) (s_a0 : S a0 = true) (x1 : Option (Nat × Nat)) (p_x1 : okp S x1) : eqQ S ρ h g (f_X2_findReceivers a0 x1 h) (f_X2_findReceivers (ρ a0) (x1.map ρ) g) := by
  rw [f_X2_findReceivers, f_X2_findReceivers]
  exact e_X2_findReceivers_2 O _ R _ s_a0 _ p_x1 _
theorem e_X2_findWays_87 {S : Nat × Nat → Bool} {ρ : Nat × Nat → Nat × Nat} (O : RhoOk S ρ) {rc25 : Nat × Nat → Int32 → am_H → am_R} (hrc25 : ∀ {h g : am_H} (_ : eqR S ρ h g) (y0 : Nat × Nat) (s_y0 : S y0 = true) (y1 : Int32), eqQ S ρ h g (rc25 y0 y1 h) (rc25 (ρ y0) y1 g)) {rc50 : Nat × Nat → Int32 → Int32 → Int32 → Int32 → am_H → am_R} (hrc50 : ∀ {h g : am_H} (_ : eqR S ρ h g) (y0 : Nat × Nat) (s_y0 : S y0 = true) (y1 : Int32) (y2 : Int32) (y3 : Int32) (y4 : Int32), eqQ S ρ h g (rc50 y0 y1 y2 y3 y4 h) (rc50 (ρ y0) y1 y2 y3 y4 g)) {h g : am_H} (R : eqR S ρ h g) (a0 : Nat × Nat) (s_a0 : S a0 = true) (x3 : Int32) (x4 : Int32) (x6 : Int32) (s0 : Int32) (s1 : Int32) : eqQ S ρ h g (f_X2_findWays_87 rc25 rc50 a0 x3 x4 x6 s0 s1 h) (f_X2_findWays_87 rc25 rc50 (ρ a0) x3 x4 x6 s0 s1 g) := by
  rw [f_X2_findWays_87, f_X2_findWays_87]
  exact hrc50 R _ s_a0 _ _ _ _
theorem e_X2_findWays_50 {S : Nat × Nat → Bool} {ρ : Nat × Nat → Nat × Nat} (O : RhoOk S ρ) {rc25 : Nat × Nat → Int32 → am_H → am_R} (hrc25 : ∀ {h g : am_H} (_ : eqR S ρ h g) (y0 : Nat × Nat) (s_y0 : S y0 = true) (y1 : Int32), eqQ S ρ h g (rc25 y0 y1 h) (rc25 (ρ y0) y1 g)) : ∀ (n : Nat) {h g : am_H} (_ : eqR S ρ h g) (a0 : Nat × Nat) (s_a0 : S a0 = true) (x3 : Int32) (x4 : Int32) (x5 : Int32) (x6 : Int32), eqQ S ρ h g (f_X2_findWays_50 rc25 n a0 x3 x4 x5 x6 h) (f_X2_findWays_50 rc25 n (ρ a0) x3 x4 x5 x6 g) := by
  intro n
  induction n with
  | zero => intros; exact q_none
  | succ n ih =>
    intro h g R a0 s_a0 x3 x4 x5 x6
    rw [f_X2_findWays_50, f_X2_findWays_50]
    refine q_gI O R (okp_s s_a0) (fun v11 => ?_)
    refine q_ite (fun _ => ?_) (fun _ => ?_)
    · refine q_gR O R (okp_s s_a0) (fun o12 p_o12 => ?_)
      refine q_sI O R p_o12 (fun h13 gh13 R => ?_)
      exact hrc25 R _ s_a0 _
    · refine q_bJ (e_X10_has O R _ _) (fun h14 gh14 v15 R => ?_)
      refine q_ite (fun _ => ?_) (fun _ => ?_)
      · exact e_X2_findWays_87 O hrc25 ih R _ s_a0 _ _ _ _ _
      · refine q_gR O R (okp_s s_a0) (fun o16 p_o16 => ?_)
        refine q_bJ (e_X10_with O R _ _ _) (fun h17 gh17 v18 R => ?_)
        refine q_aI O R p_o16 (fun v19 => ?_)
        exact e_X2_findWays_87 O hrc25 ih R _ s_a0 _ _ _ _ _
theorem e_X2_findWays_25 {S : Nat × Nat → Bool} {ρ : Nat × Nat → Nat × Nat} (O : RhoOk S ρ)  : ∀ (n : Nat) {h g : am_H} (_ : eqR S ρ h g) (a0 : Nat × Nat) (s_a0 : S a0 = true) (x3 : Int32), eqQ S ρ h g (f_X2_findWays_25 n a0 x3 h) (f_X2_findWays_25 n (ρ a0) x3 g) := by
  intro n
  induction n with
  | zero => intros; exact q_none
  | succ n ih =>
    intro h g R a0 s_a0 x3
    rw [f_X2_findWays_25, f_X2_findWays_25]
    refine q_ite (fun _ => ?_) (fun _ => ?_)
    · exact q_rtn R
    · refine q_gR O R (okp_s s_a0) (fun o7 p_o7 => ?_)
      refine q_bI (e_J6_bitCount_0f7a4 O R _) (fun h8 gh8 v9 R => ?_)
      refine q_aI O R p_o7 (fun v10 => ?_)
      exact e_X2_findWays_50 O ih _ R _ s_a0 _ _ _ _
theorem e_X2_findWays {S : Nat × Nat → Bool} {ρ : Nat × Nat → Nat × Nat} (O : RhoOk S ρ)  {h g : am_H} (R : eqR S ρ h g) (a0 : Nat × Nat) (s_a0 : S a0 = true) (x1 : Option (Nat × Nat)) (p_x1 : okp S x1) : eqQ S ρ h g (f_X2_findWays a0 x1 h) (f_X2_findWays (ρ a0) (x1.map ρ) g) := by
  rw [f_X2_findWays, f_X2_findWays]
  refine q_ao O (okp_s s_a0) (fun a3 s_a3 => ?_)
  refine q_bV (e_X2_findReceivers O R _ s_a3 _ p_x1) (fun h1 gh1 R => ?_)
  refine q_gI O R (okp_s s_a0) (fun v4 => ?_)
  refine q_gR O R (okp_s s_a0) (fun o5 p_o5 => ?_)
  refine q_sI O R p_o5 (fun h6 gh6 R => ?_)
  exact e_X2_findWays_25 O _ R _ s_a0 _
theorem e_X2_lowestReceiver_50 {S : Nat × Nat → Bool} {ρ : Nat × Nat → Nat × Nat} (O : RhoOk S ρ) {rc14 : Nat × Nat → Int32 → Int32 → Int32 → am_H → am_R} (hrc14 : ∀ {h g : am_H} (_ : eqR S ρ h g) (y0 : Nat × Nat) (s_y0 : S y0 = true) (y1 : Int32) (y2 : Int32) (y3 : Int32), eqQ S ρ h g (rc14 y0 y1 y2 y3 h) (rc14 (ρ y0) y1 y2 y3 g)) {h g : am_H} (R : eqR S ρ h g) (a0 : Nat × Nat) (s_a0 : S a0 = true) (x2 : Int32) (x3 : Int32) (x4 : Int32) : eqQ S ρ h g (f_X2_lowestReceiver_50 rc14 a0 x2 x3 x4 h) (f_X2_lowestReceiver_50 rc14 (ρ a0) x2 x3 x4 g) := by
  rw [f_X2_lowestReceiver_50, f_X2_lowestReceiver_50]
  exact hrc14 R _ s_a0 _ _ _
theorem e_X2_lowestReceiver_14 {S : Nat × Nat → Bool} {ρ : Nat × Nat → Nat × Nat} (O : RhoOk S ρ)  : ∀ (n : Nat) {h g : am_H} (_ : eqR S ρ h g) (a0 : Nat × Nat) (s_a0 : S a0 = true) (x2 : Int32) (x3 : Int32) (x4 : Int32), eqQ S ρ h g (f_X2_lowestReceiver_14 n a0 x2 x3 x4 h) (f_X2_lowestReceiver_14 n (ρ a0) x2 x3 x4 g) := by
  intro n
  induction n with
  | zero => intros; exact q_none
  | succ n ih =>
    intro h g R a0 s_a0 x2 x3 x4
    rw [f_X2_lowestReceiver_14, f_X2_lowestReceiver_14]
    refine q_gI O R (okp_s s_a0) (fun v3 => ?_)
    refine q_ite (fun _ => ?_) (fun _ => ?_)
    · exact q_ri R
    · refine q_bJ (e_X10_has O R _ _) (fun h4 gh4 v5 R => ?_)
      refine q_ite (fun _ => ?_) (fun _ => ?_)
      · exact e_X2_lowestReceiver_50 O ih R _ s_a0 _ _ _
      · refine q_gR O R (okp_s s_a0) (fun o6 p_o6 => ?_)
        refine q_bJ (e_X10_with O R _ _ _) (fun h7 gh7 v8 R => ?_)
        refine q_aI O R p_o6 (fun v9 => ?_)
        refine q_ite (fun _ => ?_) (fun _ => ?_)
        · exact e_X2_lowestReceiver_50 O ih R _ s_a0 _ _ _
        · exact q_ri R
theorem e_X2_lowestReceiver {S : Nat × Nat → Bool} {ρ : Nat × Nat → Nat × Nat} (O : RhoOk S ρ)  {h g : am_H} (R : eqR S ρ h g) (a0 : Nat × Nat) (s_a0 : S a0 = true) (x1 : Int32) (x2 : Int32) : eqQ S ρ h g (f_X2_lowestReceiver a0 x1 x2 h) (f_X2_lowestReceiver (ρ a0) x1 x2 g) := by
  rw [f_X2_lowestReceiver, f_X2_lowestReceiver]
  refine q_gR O R (okp_s s_a0) (fun o1 p_o1 => ?_)
  refine q_aI O R p_o1 (fun v2 => ?_)
  exact e_X2_lowestReceiver_14 O _ R _ s_a0 _ _ _
theorem e_X2_receiverOf_63 {S : Nat × Nat → Bool} {ρ : Nat × Nat → Nat × Nat} (O : RhoOk S ρ)  {h g : am_H} (R : eqR S ρ h g) (x3 : Int32) : eqQ S ρ h g (f_X2_receiverOf_63 x3 h) (f_X2_receiverOf_63 x3 g) := by
  rw [f_X2_receiverOf_63, f_X2_receiverOf_63]
  exact q_ri R
theorem e_X2_receiverOf_55 {S : Nat × Nat → Bool} {ρ : Nat × Nat → Nat × Nat} (O : RhoOk S ρ) {rc13 : Nat × Nat → Int32 → Int32 → Int32 → Int32 → am_H → am_R} (hrc13 : ∀ {h g : am_H} (_ : eqR S ρ h g) (y0 : Nat × Nat) (s_y0 : S y0 = true) (y1 : Int32) (y2 : Int32) (y3 : Int32) (y4 : Int32), eqQ S ρ h g (rc13 y0 y1 y2 y3 y4 h) (rc13 (ρ y0) y1 y2 y3 y4 g)) {h g : am_H} (R : eqR S ρ h g) (a0 : Nat × Nat) (s_a0 : S a0 = true) (x1 : Int32) (x3 : Int32) (x5 : Int32) (s0 : Int32) : eqQ S ρ h g (f_X2_receiverOf_55 rc13 a0 x1 x3 x5 s0 h) (f_X2_receiverOf_55 rc13 (ρ a0) x1 x3 x5 s0 g) := by
  rw [f_X2_receiverOf_55, f_X2_receiverOf_55]
  exact hrc13 R _ s_a0 _ _ _ _
theorem e_X2_receiverOf_13 {S : Nat × Nat → Bool} {ρ : Nat × Nat → Nat × Nat} (O : RhoOk S ρ)  : ∀ (n : Nat) {h g : am_H} (_ : eqR S ρ h g) (a0 : Nat × Nat) (s_a0 : S a0 = true) (x1 : Int32) (x3 : Int32) (x4 : Int32) (x5 : Int32), eqQ S ρ h g (f_X2_receiverOf_13 n a0 x1 x3 x4 x5 h) (f_X2_receiverOf_13 n (ρ a0) x1 x3 x4 x5 g) := by
  intro n
  induction n with
  | zero => intros; exact q_none
  | succ n ih =>
    intro h g R a0 s_a0 x1 x3 x4 x5
    rw [f_X2_receiverOf_13, f_X2_receiverOf_13]
    refine q_ite (fun _ => ?_) (fun _ => ?_)
    · exact e_X2_receiverOf_63 O R _
    · refine q_gR O R (okp_s s_a0) (fun o4 p_o4 => ?_)
      refine q_aI O R p_o4 (fun v5 => ?_)
      refine q_ite (fun _ => ?_) (fun _ => ?_)
      · exact e_X2_receiverOf_63 O R _
      · refine q_ao O (okp_s s_a0) (fun a8 s_a8 => ?_)
        refine q_bI (e_X2_lowestReceiver O R _ s_a8 _ _) (fun h6 gh6 v7 R => ?_)
        refine q_ite (fun _ => ?_) (fun _ => ?_)
        · exact e_X2_receiverOf_55 O ih R _ s_a0 _ _ _ _
        · refine q_bJ (e_X10_with O R _ _ _) (fun h9 gh9 v10 R => ?_)
          exact e_X2_receiverOf_55 O ih R _ s_a0 _ _ _ _
theorem e_X2_receiverOf {S : Nat × Nat → Bool} {ρ : Nat × Nat → Nat × Nat} (O : RhoOk S ρ)  {h g : am_H} (R : eqR S ρ h g) (a0 : Nat × Nat) (s_a0 : S a0 = true) (x1 : Int32) (x2 : Option (Nat × Nat)) (p_x2 : okp S x2) : eqQ S ρ h g (f_X2_receiverOf a0 x1 x2 h) (f_X2_receiverOf (ρ a0) x1 (x2.map ρ) g) := by
  rw [f_X2_receiverOf, f_X2_receiverOf]
  refine q_ao O (okp_s s_a0) (fun a3 s_a3 => ?_)
  refine q_bV (e_X2_findWays O R _ s_a3 _ p_x2) (fun h1 gh1 R => ?_)
  exact e_X2_receiverOf_13 O _ R _ s_a0 _ _ _ _
theorem e_X10_match_15 {S : Nat × Nat → Bool} {ρ : Nat × Nat → Nat × Nat} (O : RhoOk S ρ)  {h g : am_H} (R : eqR S ρ h g)  : eqQ S ρ h g (f_X10_match_15  h) (f_X10_match_15  g) := by
  unfold f_X10_match_15
  exact q_ex R
theorem e_X10_match {S : Nat × Nat → Bool} {ρ : Nat × Nat → Nat × Nat} (O : RhoOk S ρ)  {h g : am_H} (R : eqR S ρ h g) (a0 : Nat × Nat) (s_a0 : S a0 = true) (x1 : Int32) : eqQ S ρ h g (f_X10_match a0 x1 h) (f_X10_match (ρ a0) x1 g) := by
  rw [f_X10_match, f_X10_match]
  refine q_ite (fun _ => ?_) (fun _ => ?_)
  · exact e_X10_match_15 O R
  · refine q_gR O R (okp_s s_a0) (fun o1 p_o1 => ?_)
    refine q_gI O R p_o1 (fun v2 => ?_)
    refine q_ite (fun _ => ?_) (fun _ => ?_)
    · refine q_gR O R (okp_s s_a0) (fun o3 p_o3 => ?_)
      refine q_gR O R (okp_s s_a0) (fun o4 p_o4 => ?_)
      refine q_ao O p_o3 (fun a7 s_a7 => ?_)
      refine q_bI (e_X2_receiverOf O R _ s_a7 _ _ p_o4) (fun h5 gh5 v6 R => ?_)
      exact q_ri R
    · exact e_X10_match_15 O R
theorem e_X10_countFiledUnder_34 {S : Nat × Nat → Bool} {ρ : Nat × Nat → Nat × Nat} (O : RhoOk S ρ) {rc4 : Nat × Nat → Int32 → Int32 → Int32 → am_H → am_R} (hrc4 : ∀ {h g : am_H} (_ : eqR S ρ h g) (y0 : Nat × Nat) (s_y0 : S y0 = true) (y1 : Int32) (y2 : Int32) (y3 : Int32), eqQ S ρ h g (rc4 y0 y1 y2 y3 h) (rc4 (ρ y0) y1 y2 y3 g)) {h g : am_H} (R : eqR S ρ h g) (a0 : Nat × Nat) (s_a0 : S a0 = true) (x1 : Int32) (x3 : Int32) (s0 : Int32) (s1 : Int32) : eqQ S ρ h g (f_X10_countFiledUnder_34 rc4 a0 x1 x3 s0 s1 h) (f_X10_countFiledUnder_34 rc4 (ρ a0) x1 x3 s0 s1 g) := by
  rw [f_X10_countFiledUnder_34, f_X10_countFiledUnder_34]
  exact hrc4 R _ s_a0 _ _ _
theorem e_X10_countFiledUnder_4 {S : Nat × Nat → Bool} {ρ : Nat × Nat → Nat × Nat} (O : RhoOk S ρ)  : ∀ (n : Nat) {h g : am_H} (_ : eqR S ρ h g) (a0 : Nat × Nat) (s_a0 : S a0 = true) (x1 : Int32) (x2 : Int32) (x3 : Int32), eqQ S ρ h g (f_X10_countFiledUnder_4 n a0 x1 x2 x3 h) (f_X10_countFiledUnder_4 n (ρ a0) x1 x2 x3 g) := by
  intro n
  induction n with
  | zero => intros; exact q_none
  | succ n ih =>
    intro h g R a0 s_a0 x1 x2 x3
    rw [f_X10_countFiledUnder_4, f_X10_countFiledUnder_4]
    refine q_gI O R (okp_s s_a0) (fun v1 => ?_)
    refine q_ite (fun _ => ?_) (fun _ => ?_)
    · exact q_ri R
    · refine q_gR O R (okp_s s_a0) (fun o2 p_o2 => ?_)
      refine q_aR O R p_o2 (fun o3 p_o3 => ?_)
      refine q_gI O R p_o3 (fun v4 => ?_)
      refine q_bI (e_X10_has O R _ _) (fun h5 gh5 v6 R => ?_)
      refine q_ite (fun _ => ?_) (fun _ => ?_)
      · exact e_X10_countFiledUnder_34 O ih R _ s_a0 _ _ _ _
      · exact e_X10_countFiledUnder_34 O ih R _ s_a0 _ _ _ _
theorem e_X10_countFiledUnder {S : Nat × Nat → Bool} {ρ : Nat × Nat → Nat × Nat} (O : RhoOk S ρ)  {h g : am_H} (R : eqR S ρ h g) (a0 : Nat × Nat) (s_a0 : S a0 = true) (x1 : Int32) : eqQ S ρ h g (f_X10_countFiledUnder a0 x1 h) (f_X10_countFiledUnder (ρ a0) x1 g) := by
  rw [f_X10_countFiledUnder, f_X10_countFiledUnder]
  exact e_X10_countFiledUnder_4 O _ R _ s_a0 _ _ _
theorem e_X10_countWith_34 {S : Nat × Nat → Bool} {ρ : Nat × Nat → Nat × Nat} (O : RhoOk S ρ) {rc4 : Nat × Nat → Int32 → Int32 → Int32 → am_H → am_R} (hrc4 : ∀ {h g : am_H} (_ : eqR S ρ h g) (y0 : Nat × Nat) (s_y0 : S y0 = true) (y1 : Int32) (y2 : Int32) (y3 : Int32), eqQ S ρ h g (rc4 y0 y1 y2 y3 h) (rc4 (ρ y0) y1 y2 y3 g)) {h g : am_H} (R : eqR S ρ h g) (a0 : Nat × Nat) (s_a0 : S a0 = true) (x1 : Int32) (x3 : Int32) (s0 : Int32) (s1 : Int32) : eqQ S ρ h g (f_X10_countWith_34 rc4 a0 x1 x3 s0 s1 h) (f_X10_countWith_34 rc4 (ρ a0) x1 x3 s0 s1 g) := by
  rw [f_X10_countWith_34, f_X10_countWith_34]
  exact hrc4 R _ s_a0 _ _ _
theorem e_X10_countWith_4 {S : Nat × Nat → Bool} {ρ : Nat × Nat → Nat × Nat} (O : RhoOk S ρ)  : ∀ (n : Nat) {h g : am_H} (_ : eqR S ρ h g) (a0 : Nat × Nat) (s_a0 : S a0 = true) (x1 : Int32) (x2 : Int32) (x3 : Int32), eqQ S ρ h g (f_X10_countWith_4 n a0 x1 x2 x3 h) (f_X10_countWith_4 n (ρ a0) x1 x2 x3 g) := by
  intro n
  induction n with
  | zero => intros; exact q_none
  | succ n ih =>
    intro h g R a0 s_a0 x1 x2 x3
    rw [f_X10_countWith_4, f_X10_countWith_4]
    refine q_gI O R (okp_s s_a0) (fun v1 => ?_)
    refine q_ite (fun _ => ?_) (fun _ => ?_)
    · exact q_ri R
    · refine q_gR O R (okp_s s_a0) (fun o2 p_o2 => ?_)
      refine q_aR O R p_o2 (fun o3 p_o3 => ?_)
      refine q_gI O R p_o3 (fun v4 => ?_)
      refine q_bI (e_X10_has O R _ _) (fun h5 gh5 v6 R => ?_)
      refine q_ite (fun _ => ?_) (fun _ => ?_)
      · exact e_X10_countWith_34 O ih R _ s_a0 _ _ _ _
      · exact e_X10_countWith_34 O ih R _ s_a0 _ _ _ _
theorem e_X10_countWith {S : Nat × Nat → Bool} {ρ : Nat × Nat → Nat × Nat} (O : RhoOk S ρ)  {h g : am_H} (R : eqR S ρ h g) (a0 : Nat × Nat) (s_a0 : S a0 = true) (x1 : Int32) : eqQ S ρ h g (f_X10_countWith a0 x1 h) (f_X10_countWith (ρ a0) x1 g) := by
  rw [f_X10_countWith, f_X10_countWith]
  exact e_X10_countWith_4 O _ R _ s_a0 _ _ _
theorem e_X7_aboveOf {S : Nat × Nat → Bool} {ρ : Nat × Nat → Nat × Nat} (O : RhoOk S ρ)  {h g : am_H} (R : eqR S ρ h g) (a0 : Nat × Nat) (s_a0 : S a0 = true) (x1 : Int32) : eqQ S ρ h g (f_X7_aboveOf a0 x1 h) (f_X7_aboveOf (ρ a0) x1 g) := by
  rw [f_X7_aboveOf, f_X7_aboveOf]
  refine q_gR O R (okp_s s_a0) (fun o1 p_o1 => ?_)
  refine q_aI O R p_o1 (fun v2 => ?_)
  exact q_ri R
theorem e_X7_meaningOf {S : Nat × Nat → Bool} {ρ : Nat × Nat → Nat × Nat} (O : RhoOk S ρ)  {h g : am_H} (R : eqR S ρ h g) (a0 : Nat × Nat) (s_a0 : S a0 = true) (x1 : Int32) : eqQ S ρ h g (f_X7_meaningOf a0 x1 h) (f_X7_meaningOf (ρ a0) x1 g) := by
  rw [f_X7_meaningOf, f_X7_meaningOf]
  refine q_gR O R (okp_s s_a0) (fun o1 p_o1 => ?_)
  refine q_aI O R p_o1 (fun v2 => ?_)
  exact q_ri R
theorem e_X10_ofTag {S : Nat × Nat → Bool} {ρ : Nat × Nat → Nat × Nat} (O : RhoOk S ρ)  {h g : am_H} (R : eqR S ρ h g) (a0 : Nat × Nat) (s_a0 : S a0 = true) (x1 : Int32) (x2 : Int32) : eqQ S ρ h g (f_X10_ofTag a0 x1 x2 h) (f_X10_ofTag (ρ a0) x1 x2 g) := by
  rw [f_X10_ofTag, f_X10_ofTag]
  refine q_ao O (okp_s s_a0) (fun a3 s_a3 => ?_)
  refine q_bV (e_X10_checkTag O R _ s_a3 _) (fun h1 gh1 R => ?_)
  refine q_ite (fun _ => ?_) (fun _ => ?_)
  · refine q_gR O R (okp_s s_a0) (fun o4 p_o4 => ?_)
    refine q_ao O p_o4 (fun a7 s_a7 => ?_)
    refine q_bI (e_X7_kindOf O R _ s_a7 _) (fun h5 gh5 v6 R => ?_)
    exact q_ri R
  · refine q_ite (fun _ => ?_) (fun _ => ?_)
    · refine q_gR O R (okp_s s_a0) (fun o8 p_o8 => ?_)
      refine q_ao O p_o8 (fun a11 s_a11 => ?_)
      refine q_bI (e_X7_meaningOf O R _ s_a11 _) (fun h9 gh9 v10 R => ?_)
      exact q_ri R
    · refine q_ite (fun _ => ?_) (fun _ => ?_)
      · refine q_gR O R (okp_s s_a0) (fun o12 p_o12 => ?_)
        refine q_ao O p_o12 (fun a15 s_a15 => ?_)
        refine q_bI (e_X7_aboveOf O R _ s_a15 _) (fun h13 gh13 v14 R => ?_)
        exact q_ri R
      · refine q_ite (fun _ => ?_) (fun _ => ?_)
        · refine q_ao O (okp_s s_a0) (fun a18 s_a18 => ?_)
          refine q_bI (e_X10_countWith O R _ s_a18 _) (fun h16 gh16 v17 R => ?_)
          exact q_ri R
        · refine q_ite (fun _ => ?_) (fun _ => ?_)
          · refine q_ao O (okp_s s_a0) (fun a21 s_a21 => ?_)
            refine q_bI (e_X10_countFiledUnder O R _ s_a21 _) (fun h19 gh19 v20 R => ?_)
            exact q_ri R
          · exact q_ex R
theorem e_X9_fileUnder {S : Nat × Nat → Bool} {ρ : Nat × Nat → Nat × Nat} (O : RhoOk S ρ)  {h g : am_H} (R : eqR S ρ h g) (a0 : Nat × Nat) (s_a0 : S a0 = true) (x1 : Int32) : eqQ S ρ h g (f_X9_fileUnder a0 x1 h) (f_X9_fileUnder (ρ a0) x1 g) := by
  rw [f_X9_fileUnder, f_X9_fileUnder]
  refine q_pI O R (okp_s s_a0) (fun h1 gh1 R => ?_)
  refine q_pZ O R (okp_s s_a0) (fun h2 gh2 R => ?_)
  exact q_rtn R
theorem e_X10_put {S : Nat × Nat → Bool} {ρ : Nat × Nat → Nat × Nat} (O : RhoOk S ρ)  {h g : am_H} (R : eqR S ρ h g) (a0 : Nat × Nat) (s_a0 : S a0 = true) (x1 : Int32) (x2 : Int32) (x3 : Int32) : eqQ S ρ h g (f_X10_put a0 x1 x2 x3 h) (f_X10_put (ρ a0) x1 x2 x3 g) := by
  rw [f_X10_put, f_X10_put]
  refine q_ao O (okp_s s_a0) (fun a3 s_a3 => ?_)
  refine q_bR (e_X10_workAt O R _ s_a3 _) (fun h1 gh1 o2 R p_o2 => ?_)
  refine q_ao O (okp_s s_a0) (fun a6 s_a6 => ?_)
  refine q_bV (e_X10_checkTag O R _ s_a6 _) (fun h4 gh4 R => ?_)
  refine q_gI O R p_o2 (fun v7 => ?_)
  refine q_bI (e_X10_has O R _ _) (fun h8 gh8 v9 R => ?_)
  refine q_gI O R p_o2 (fun v10 => ?_)
  refine q_bI (e_X10_with O R _ _ _) (fun h11 gh11 v12 R => ?_)
  refine q_pI O R p_o2 (fun h13 gh13 R => ?_)
  refine q_gR O R (okp_s s_a0) (fun o14 p_o14 => ?_)
  refine q_gI O R p_o2 (fun v15 => ?_)
  refine q_ao O p_o14 (fun a18 s_a18 => ?_)
  refine q_bI (e_X7_belongUnder O R _ s_a18 _) (fun h16 gh16 v17 R => ?_)
  refine q_ao O p_o2 (fun a21 s_a21 => ?_)
  refine q_bV (e_X9_fileUnder O R _ s_a21 _) (fun h19 gh19 R => ?_)
  exact q_rz R
theorem e_X4_isAtEnd_26 {S : Nat × Nat → Bool} {ρ : Nat × Nat → Nat × Nat} (O : RhoOk S ρ)  {h g : am_H} (R : eqR S ρ h g) (s0 : Int32) : eqQ S ρ h g (f_X4_isAtEnd_26 s0 h) (f_X4_isAtEnd_26 s0 g) := by
  rw [f_X4_isAtEnd_26, f_X4_isAtEnd_26]
  exact q_rz R
theorem e_X4_isAtEnd_25 {S : Nat × Nat → Bool} {ρ : Nat × Nat → Nat × Nat} (O : RhoOk S ρ)  {h g : am_H} (R : eqR S ρ h g)  : eqQ S ρ h g (f_X4_isAtEnd_25  h) (f_X4_isAtEnd_25  g) := by
  unfold f_X4_isAtEnd_25
  exact e_X4_isAtEnd_26 O R _
theorem e_X4_isAtEnd {S : Nat × Nat → Bool} {ρ : Nat × Nat → Nat × Nat} (O : RhoOk S ρ)  {h g : am_H} (R : eqR S ρ h g) (a0 : Nat × Nat) (s_a0 : S a0 = true) : eqQ S ρ h g (f_X4_isAtEnd a0 h) (f_X4_isAtEnd (ρ a0) g) := by
  rw [f_X4_isAtEnd, f_X4_isAtEnd]
  refine q_gI O R (okp_s s_a0) (fun v1 => ?_)
  refine q_ite (fun _ => ?_) (fun _ => ?_)
  · refine q_gI O R (okp_s s_a0) (fun v2 => ?_)
    refine q_ite (fun _ => ?_) (fun _ => ?_)
    · refine q_gI O R (okp_s s_a0) (fun v3 => ?_)
      refine q_ite (fun _ => ?_) (fun _ => ?_)
      · exact e_X4_isAtEnd_26 O R _
      · exact e_X4_isAtEnd_25 O R
    · exact e_X4_isAtEnd_25 O R
  · exact e_X4_isAtEnd_25 O R
theorem e_X4_start {S : Nat × Nat → Bool} {ρ : Nat × Nat → Nat × Nat} (O : RhoOk S ρ)  {h g : am_H} (R : eqR S ρ h g) (a0 : Nat × Nat) (s_a0 : S a0 = true) : eqQ S ρ h g (f_X4_start a0 h) (f_X4_start (ρ a0) g) := by
  rw [f_X4_start, f_X4_start]
  refine q_pI O R (okp_s s_a0) (fun h1 gh1 R => ?_)
  refine q_pZ O R (okp_s s_a0) (fun h2 gh2 R => ?_)
  refine q_pI O R (okp_s s_a0) (fun h3 gh3 R => ?_)
  exact q_rtn R
theorem e_X4_greatestOf_21 {S : Nat × Nat → Bool} {ρ : Nat × Nat → Nat × Nat} (O : RhoOk S ρ)  {h g : am_H} (R : eqR S ρ h g) (s0 : Int32) : eqQ S ρ h g (f_X4_greatestOf_21 s0 h) (f_X4_greatestOf_21 s0 g) := by
  rw [f_X4_greatestOf_21, f_X4_greatestOf_21]
  exact q_ri R
theorem e_X4_greatestOf {S : Nat × Nat → Bool} {ρ : Nat × Nat → Nat × Nat} (O : RhoOk S ρ)  {h g : am_H} (R : eqR S ρ h g) (x0 : Int32) : eqQ S ρ h g (f_X4_greatestOf x0 h) (f_X4_greatestOf x0 g) := by
  rw [f_X4_greatestOf, f_X4_greatestOf]
  refine q_ite (fun _ => ?_) (fun _ => ?_)
  · exact q_ri R
  · refine q_ite (fun _ => ?_) (fun _ => ?_)
    · exact e_X4_greatestOf_21 O R _
    · exact e_X4_greatestOf_21 O R _
theorem e_X4_isFigure_17 {S : Nat × Nat → Bool} {ρ : Nat × Nat → Nat × Nat} (O : RhoOk S ρ)  {h g : am_H} (R : eqR S ρ h g) (s0 : Int32) : eqQ S ρ h g (f_X4_isFigure_17 s0 h) (f_X4_isFigure_17 s0 g) := by
  rw [f_X4_isFigure_17, f_X4_isFigure_17]
  exact q_rz R
theorem e_X4_isFigure_16 {S : Nat × Nat → Bool} {ρ : Nat × Nat → Nat × Nat} (O : RhoOk S ρ)  {h g : am_H} (R : eqR S ρ h g)  : eqQ S ρ h g (f_X4_isFigure_16  h) (f_X4_isFigure_16  g) := by
  unfold f_X4_isFigure_16
  exact e_X4_isFigure_17 O R _
theorem e_X4_isFigure {S : Nat × Nat → Bool} {ρ : Nat × Nat → Nat × Nat} (O : RhoOk S ρ)  {h g : am_H} (R : eqR S ρ h g) (x0 : Int32) : eqQ S ρ h g (f_X4_isFigure x0 h) (f_X4_isFigure x0 g) := by
  rw [f_X4_isFigure, f_X4_isFigure]
  refine q_ite (fun _ => ?_) (fun _ => ?_)
  · exact e_X4_isFigure_16 O R
  · refine q_ite (fun _ => ?_) (fun _ => ?_)
    · exact e_X4_isFigure_16 O R
    · exact e_X4_isFigure_17 O R _
theorem e_X4_takesFigure_73 {S : Nat × Nat → Bool} {ρ : Nat × Nat → Nat × Nat} (O : RhoOk S ρ)  {h g : am_H} (R : eqR S ρ h g) (s0 : Int32) : eqQ S ρ h g (f_X4_takesFigure_73 s0 h) (f_X4_takesFigure_73 s0 g) := by
  rw [f_X4_takesFigure_73, f_X4_takesFigure_73]
  exact q_rz R
theorem e_X4_takesFigure_56 {S : Nat × Nat → Bool} {ρ : Nat × Nat → Nat × Nat} (O : RhoOk S ρ)  {h g : am_H} (R : eqR S ρ h g) (a0 : Nat × Nat) (s_a0 : S a0 = true) (s0 : Int32) : eqQ S ρ h g (f_X4_takesFigure_56 a0 s0 h) (f_X4_takesFigure_56 (ρ a0) s0 g) := by
  rw [f_X4_takesFigure_56, f_X4_takesFigure_56]
  refine q_gI O R (okp_s s_a0) (fun v10 => ?_)
  refine q_bI (e_X4_greatestOf O R _) (fun h11 gh11 v12 R => ?_)
  refine q_ite (fun _ => ?_) (fun _ => ?_)
  · exact e_X4_takesFigure_73 O R _
  · exact e_X4_takesFigure_73 O R _
theorem e_X4_takesFigure {S : Nat × Nat → Bool} {ρ : Nat × Nat → Nat × Nat} (O : RhoOk S ρ)  {h g : am_H} (R : eqR S ρ h g) (a0 : Nat × Nat) (s_a0 : S a0 = true) (x1 : Int32) : eqQ S ρ h g (f_X4_takesFigure a0 x1 h) (f_X4_takesFigure (ρ a0) x1 g) := by
  rw [f_X4_takesFigure, f_X4_takesFigure]
  refine q_bI (e_X4_isFigure O R _) (fun h1 gh1 v2 R => ?_)
  refine q_ite (fun _ => ?_) (fun _ => ?_)
  · exact q_rz R
  · refine q_gI O R (okp_s s_a0) (fun v3 => ?_)
    refine q_pI O R (okp_s s_a0) (fun h4 gh4 R => ?_)
    refine q_gI O R (okp_s s_a0) (fun v5 => ?_)
    refine q_pI O R (okp_s s_a0) (fun h6 gh6 R => ?_)
    refine q_gI O R (okp_s s_a0) (fun v7 => ?_)
    refine q_ite (fun _ => ?_) (fun _ => ?_)
    · refine q_gI O R (okp_s s_a0) (fun v8 => ?_)
      exact e_X4_takesFigure_56 O R _ s_a0 _
    · refine q_gI O R (okp_s s_a0) (fun v9 => ?_)
      exact e_X4_takesFigure_56 O R _ s_a0 _
theorem e_X4_figuresOf_25 {S : Nat × Nat → Bool} {ρ : Nat × Nat → Nat × Nat} (O : RhoOk S ρ)  {h g : am_H} (R : eqR S ρ h g) (s0 : Int32) : eqQ S ρ h g (f_X4_figuresOf_25 s0 h) (f_X4_figuresOf_25 s0 g) := by
  rw [f_X4_figuresOf_25, f_X4_figuresOf_25]
  exact q_ri R
theorem e_X4_figuresOf_12 {S : Nat × Nat → Bool} {ρ : Nat × Nat → Nat × Nat} (O : RhoOk S ρ)  {h g : am_H} (R : eqR S ρ h g)  : eqQ S ρ h g (f_X4_figuresOf_12  h) (f_X4_figuresOf_12  g) := by
  unfold f_X4_figuresOf_12
  exact q_ri R
theorem e_X4_figuresOf {S : Nat × Nat → Bool} {ρ : Nat × Nat → Nat × Nat} (O : RhoOk S ρ)  {h g : am_H} (R : eqR S ρ h g) (x0 : Int32) : eqQ S ρ h g (f_X4_figuresOf x0 h) (f_X4_figuresOf x0 g) := by
  rw [f_X4_figuresOf, f_X4_figuresOf]
  refine q_ite (fun _ => ?_) (fun _ => ?_)
  · exact e_X4_figuresOf_12 O R
  · refine q_ite (fun _ => ?_) (fun _ => ?_)
    · exact e_X4_figuresOf_12 O R
    · refine q_ite (fun _ => ?_) (fun _ => ?_)
      · exact e_X4_figuresOf_25 O R _
      · exact e_X4_figuresOf_25 O R _
theorem e_X4_takesItem_61 {S : Nat × Nat → Bool} {ρ : Nat × Nat → Nat × Nat} (O : RhoOk S ρ)  {h g : am_H} (R : eqR S ρ h g) (s0 : Int32) : eqQ S ρ h g (f_X4_takesItem_61 s0 h) (f_X4_takesItem_61 s0 g) := by
  rw [f_X4_takesItem_61, f_X4_takesItem_61]
  exact q_rz R
theorem e_X4_takesItem {S : Nat × Nat → Bool} {ρ : Nat × Nat → Nat × Nat} (O : RhoOk S ρ)  {h g : am_H} (R : eqR S ρ h g) (a0 : Nat × Nat) (s_a0 : S a0 = true) (x1 : Int32) : eqQ S ρ h g (f_X4_takesItem a0 x1 h) (f_X4_takesItem (ρ a0) x1 g) := by
  rw [f_X4_takesItem, f_X4_takesItem]
  refine q_ite (fun _ => ?_) (fun _ => ?_)
  · exact q_rz R
  · refine q_ite (fun _ => ?_) (fun _ => ?_)
    · refine q_gI O R (okp_s s_a0) (fun v8 => ?_)
      refine q_pI O R (okp_s s_a0) (fun h9 gh9 R => ?_)
      exact q_rz R
    · refine q_pC O R (okp_s s_a0) (fun h1 gh1 R => ?_)
      refine q_pI O R (okp_s s_a0) (fun h2 gh2 R => ?_)
      refine q_bI (e_X4_figuresOf O R _) (fun h3 gh3 v4 R => ?_)
      refine q_pI O R (okp_s s_a0) (fun h5 gh5 R => ?_)
      refine q_pZ O R (okp_s s_a0) (fun h6 gh6 R => ?_)
      refine q_gI O R (okp_s s_a0) (fun v7 => ?_)
      refine q_ite (fun _ => ?_) (fun _ => ?_)
      · exact e_X4_takesItem_61 O R _
      · exact e_X4_takesItem_61 O R _
theorem e_X4_takesLink_51 {S : Nat × Nat → Bool} {ρ : Nat × Nat → Nat × Nat} (O : RhoOk S ρ)  {h g : am_H} (R : eqR S ρ h g) (s0 : Int32) : eqQ S ρ h g (f_X4_takesLink_51 s0 h) (f_X4_takesLink_51 s0 g) := by
  rw [f_X4_takesLink_51, f_X4_takesLink_51]
  exact q_rz R
theorem e_X4_takesLink_46 {S : Nat × Nat → Bool} {ρ : Nat × Nat → Nat × Nat} (O : RhoOk S ρ)  {h g : am_H} (R : eqR S ρ h g)  : eqQ S ρ h g (f_X4_takesLink_46  h) (f_X4_takesLink_46  g) := by
  unfold f_X4_takesLink_46
  exact e_X4_takesLink_51 O R _
theorem e_X4_takesLink_28 {S : Nat × Nat → Bool} {ρ : Nat × Nat → Nat × Nat} (O : RhoOk S ρ)  {h g : am_H} (R : eqR S ρ h g) (s0 : Int32) : eqQ S ρ h g (f_X4_takesLink_28 s0 h) (f_X4_takesLink_28 s0 g) := by
  rw [f_X4_takesLink_28, f_X4_takesLink_28]
  exact q_rz R
theorem e_X4_takesLink {S : Nat × Nat → Bool} {ρ : Nat × Nat → Nat × Nat} (O : RhoOk S ρ)  {h g : am_H} (R : eqR S ρ h g) (a0 : Nat × Nat) (s_a0 : S a0 = true) (x1 : Int32) : eqQ S ρ h g (f_X4_takesLink a0 x1 h) (f_X4_takesLink (ρ a0) x1 g) := by
  rw [f_X4_takesLink, f_X4_takesLink]
  refine q_ite (fun _ => ?_) (fun _ => ?_)
  · refine q_gI O R (okp_s s_a0) (fun v2 => ?_)
    refine q_pI O R (okp_s s_a0) (fun h3 gh3 R => ?_)
    refine q_gI O R (okp_s s_a0) (fun v4 => ?_)
    refine q_ite (fun _ => ?_) (fun _ => ?_)
    · exact e_X4_takesLink_28 O R _
    · exact e_X4_takesLink_28 O R _
  · refine q_pZ O R (okp_s s_a0) (fun h1 gh1 R => ?_)
    refine q_ite (fun _ => ?_) (fun _ => ?_)
    · exact e_X4_takesLink_46 O R
    · refine q_ite (fun _ => ?_) (fun _ => ?_)
      · exact e_X4_takesLink_46 O R
      · exact e_X4_takesLink_51 O R _
theorem e_X4_takes_33 {S : Nat × Nat → Bool} {ρ : Nat × Nat → Nat × Nat} (O : RhoOk S ρ)  {h g : am_H} (R : eqR S ρ h g) (s0 : Int32) : eqQ S ρ h g (f_X4_takes_33 s0 h) (f_X4_takes_33 s0 g) := by
  rw [f_X4_takes_33, f_X4_takes_33]
  exact q_rz R
theorem e_X4_takes {S : Nat × Nat → Bool} {ρ : Nat × Nat → Nat × Nat} (O : RhoOk S ρ)  {h g : am_H} (R : eqR S ρ h g) (a0 : Nat × Nat) (s_a0 : S a0 = true) (x1 : Int32) : eqQ S ρ h g (f_X4_takes a0 x1 h) (f_X4_takes (ρ a0) x1 g) := by
  rw [f_X4_takes, f_X4_takes]
  refine q_gI O R (okp_s s_a0) (fun v1 => ?_)
  refine q_ite (fun _ => ?_) (fun _ => ?_)
  · refine q_gI O R (okp_s s_a0) (fun v2 => ?_)
    refine q_ite (fun _ => ?_) (fun _ => ?_)
    · refine q_ao O (okp_s s_a0) (fun a5 s_a5 => ?_)
      refine q_bI (e_X4_takesLink O R _ s_a5 _) (fun h3 gh3 v4 R => ?_)
      exact e_X4_takes_33 O R _
    · refine q_ao O (okp_s s_a0) (fun a8 s_a8 => ?_)
      refine q_bI (e_X4_takesItem O R _ s_a8 _) (fun h6 gh6 v7 R => ?_)
      exact e_X4_takes_33 O R _
  · refine q_ao O (okp_s s_a0) (fun a11 s_a11 => ?_)
    refine q_bI (e_X4_takesFigure O R _ s_a11 _) (fun h9 gh9 v10 R => ?_)
    exact q_rz R
theorem e_X8_firstFault_59 {S : Nat × Nat → Bool} {ρ : Nat × Nat → Nat × Nat} (O : RhoOk S ρ)  {h g : am_H} (R : eqR S ρ h g) (s0 : Int32) : eqQ S ρ h g (f_X8_firstFault_59 s0 h) (f_X8_firstFault_59 s0 g) := by
  rw [f_X8_firstFault_59, f_X8_firstFault_59]
  exact q_ri R
theorem e_X8_firstFault_9 {S : Nat × Nat → Bool} {ρ : Nat × Nat → Nat × Nat} (O : RhoOk S ρ)  : ∀ (n : Nat) {h g : am_H} (_ : eqR S ρ h g) (a0 : Nat × Nat) (s_a0 : S a0 = true) (x1 : Int32), eqQ S ρ h g (f_X8_firstFault_9 n a0 x1 h) (f_X8_firstFault_9 n (ρ a0) x1 g) := by
  intro n
  induction n with
  | zero => intros; exact q_none
  | succ n ih =>
    intro h g R a0 s_a0 x1
    rw [f_X8_firstFault_9, f_X8_firstFault_9]
    refine q_gI O R (okp_s s_a0) (fun v5 => ?_)
    refine q_ite (fun _ => ?_) (fun _ => ?_)
    · refine q_gR O R (okp_s s_a0) (fun o6 p_o6 => ?_)
      refine q_ao O p_o6 (fun a9 s_a9 => ?_)
      refine q_bI (e_X4_isAtEnd O R _ s_a9) (fun h7 gh7 v8 R => ?_)
      refine q_ite (fun _ => ?_) (fun _ => ?_)
      · refine q_gI O R (okp_s s_a0) (fun v10 => ?_)
        exact e_X8_firstFault_59 O R _
      · exact e_X8_firstFault_59 O R _
    · refine q_gR O R (okp_s s_a0) (fun o11 p_o11 => ?_)
      refine q_gR O R (okp_s s_a0) (fun o12 p_o12 => ?_)
      refine q_aI O R p_o12 (fun v13 => ?_)
      refine q_ao O p_o11 (fun a16 s_a16 => ?_)
      refine q_bI (e_X4_takes O R _ s_a16 _) (fun h14 gh14 v15 R => ?_)
      refine q_ite (fun _ => ?_) (fun _ => ?_)
      · exact q_ri R
      · exact ih R _ s_a0 _
theorem e_X8_firstFault {S : Nat × Nat → Bool} {ρ : Nat × Nat → Nat × Nat} (O : RhoOk S ρ)  {h g : am_H} (R : eqR S ρ h g) (a0 : Nat × Nat) (s_a0 : S a0 = true) : eqQ S ρ h g (f_X8_firstFault a0 h) (f_X8_firstFault (ρ a0) g) := by
  rw [f_X8_firstFault, f_X8_firstFault]
  refine q_gR O R (okp_s s_a0) (fun o1 p_o1 => ?_)
  refine q_ao O p_o1 (fun a4 s_a4 => ?_)
  refine q_bV (e_X4_start O R _ s_a4) (fun h2 gh2 R => ?_)
  exact e_X8_firstFault_9 O _ R _ s_a0 _
theorem e_X10_checkQuery {S : Nat × Nat → Bool} {ρ : Nat × Nat → Nat × Nat} (O : RhoOk S ρ)  {h g : am_H} (R : eqR S ρ h g) (a0 : Nat × Nat) (s_a0 : S a0 = true) : eqQ S ρ h g (f_X10_checkQuery a0 h) (f_X10_checkQuery (ρ a0) g) := by
  rw [f_X10_checkQuery, f_X10_checkQuery]
  refine q_gR O R (okp_s s_a0) (fun o1 p_o1 => ?_)
  refine q_ao O p_o1 (fun a4 s_a4 => ?_)
  refine q_bI (e_X8_firstFault O R _ s_a4) (fun h2 gh2 v3 R => ?_)
  refine q_ite (fun _ => ?_) (fun _ => ?_)
  · exact q_rtn R
  · exact q_ex R
theorem e_X9_outDay {S : Nat × Nat → Bool} {ρ : Nat × Nat → Nat × Nat} (O : RhoOk S ρ)  {h g : am_H} (R : eqR S ρ h g) (a0 : Nat × Nat) (s_a0 : S a0 = true) (x1 : Int32) : eqQ S ρ h g (f_X9_outDay a0 x1 h) (f_X9_outDay (ρ a0) x1 g) := by
  rw [f_X9_outDay, f_X9_outDay]
  refine q_gR O R (okp_s s_a0) (fun o1 p_o1 => ?_)
  refine q_aI O R p_o1 (fun v2 => ?_)
  refine q_gI O R (okp_s s_a0) (fun v3 => ?_)
  exact q_ri R
theorem e_X9_latest_28 {S : Nat × Nat → Bool} {ρ : Nat × Nat → Nat × Nat} (O : RhoOk S ρ)  {h g : am_H} (R : eqR S ρ h g) (s0 : Int32) : eqQ S ρ h g (f_X9_latest_28 s0 h) (f_X9_latest_28 s0 g) := by
  rw [f_X9_latest_28, f_X9_latest_28]
  exact q_ri R
theorem e_X9_latest_27 {S : Nat × Nat → Bool} {ρ : Nat × Nat → Nat × Nat} (O : RhoOk S ρ)  {h g : am_H} (R : eqR S ρ h g)  : eqQ S ρ h g (f_X9_latest_27  h) (f_X9_latest_27  g) := by
  unfold f_X9_latest_27
  exact e_X9_latest_28 O R _
theorem e_X9_latest {S : Nat × Nat → Bool} {ρ : Nat × Nat → Nat × Nat} (O : RhoOk S ρ)  {h g : am_H} (R : eqR S ρ h g) (a0 : Nat × Nat) (s_a0 : S a0 = true) : eqQ S ρ h g (f_X9_latest a0 h) (f_X9_latest (ρ a0) g) := by
  rw [f_X9_latest, f_X9_latest]
  refine q_ao O (okp_s s_a0) (fun a3 s_a3 => ?_)
  refine q_bI (e_X9_isPosted O R _ s_a3) (fun h1 gh1 v2 R => ?_)
  refine q_ite (fun _ => ?_) (fun _ => ?_)
  · exact e_X9_latest_27 O R
  · refine q_gI O R (okp_s s_a0) (fun v4 => ?_)
    refine q_ite (fun _ => ?_) (fun _ => ?_)
    · exact e_X9_latest_27 O R
    · refine q_gI O R (okp_s s_a0) (fun v5 => ?_)
      refine q_ao O (okp_s s_a0) (fun a8 s_a8 => ?_)
      refine q_bI (e_X9_outDay O R _ s_a8 _) (fun h6 gh6 v7 R => ?_)
      exact e_X9_latest_28 O R _
theorem e_X10_countAheadOf_79 {S : Nat × Nat → Bool} {ρ : Nat × Nat → Nat × Nat} (O : RhoOk S ρ) {rc16 : Nat × Nat → Int32 → Int32 → Int32 → Int32 → Int32 → am_H → am_R} (hrc16 : ∀ {h g : am_H} (_ : eqR S ρ h g) (y0 : Nat × Nat) (s_y0 : S y0 = true) (y1 : Int32) (y2 : Int32) (y3 : Int32) (y4 : Int32) (y5 : Int32), eqQ S ρ h g (rc16 y0 y1 y2 y3 y4 y5 h) (rc16 (ρ y0) y1 y2 y3 y4 y5 g)) {h g : am_H} (R : eqR S ρ h g) (a0 : Nat × Nat) (s_a0 : S a0 = true) (x1 : Int32) (x2 : Int32) (x3 : Int32) (x4 : Int32) (x5 : Int32) : eqQ S ρ h g (f_X10_countAheadOf_79 rc16 a0 x1 x2 x3 x4 x5 h) (f_X10_countAheadOf_79 rc16 (ρ a0) x1 x2 x3 x4 x5 g) := by
  rw [f_X10_countAheadOf_79, f_X10_countAheadOf_79]
  exact hrc16 R _ s_a0 _ _ _ _ _
theorem e_X10_countAheadOf_60 {S : Nat × Nat → Bool} {ρ : Nat × Nat → Nat × Nat} (O : RhoOk S ρ) {rc16 : Nat × Nat → Int32 → Int32 → Int32 → Int32 → Int32 → am_H → am_R} (hrc16 : ∀ {h g : am_H} (_ : eqR S ρ h g) (y0 : Nat × Nat) (s_y0 : S y0 = true) (y1 : Int32) (y2 : Int32) (y3 : Int32) (y4 : Int32) (y5 : Int32), eqQ S ρ h g (rc16 y0 y1 y2 y3 y4 y5 h) (rc16 (ρ y0) y1 y2 y3 y4 y5 g)) {h g : am_H} (R : eqR S ρ h g) (a0 : Nat × Nat) (s_a0 : S a0 = true) (x1 : Int32) (x2 : Int32) (x3 : Int32) (x4 : Int32) (x5 : Int32) (s0 : Int32) : eqQ S ρ h g (f_X10_countAheadOf_60 rc16 a0 x1 x2 x3 x4 x5 s0 h) (f_X10_countAheadOf_60 rc16 (ρ a0) x1 x2 x3 x4 x5 s0 g) := by
  rw [f_X10_countAheadOf_60, f_X10_countAheadOf_60]
  refine q_ite (fun _ => ?_) (fun _ => ?_)
  · exact e_X10_countAheadOf_79 O hrc16 R _ s_a0 _ _ _ _ _
  · refine q_bI (e_X10_has O R _ _) (fun h12 gh12 v13 R => ?_)
    refine q_ite (fun _ => ?_) (fun _ => ?_)
    · exact e_X10_countAheadOf_79 O hrc16 R _ s_a0 _ _ _ _ _
    · exact e_X10_countAheadOf_79 O hrc16 R _ s_a0 _ _ _ _ _
theorem e_X10_countAheadOf_59 {S : Nat × Nat → Bool} {ρ : Nat × Nat → Nat × Nat} (O : RhoOk S ρ) {rc16 : Nat × Nat → Int32 → Int32 → Int32 → Int32 → Int32 → am_H → am_R} (hrc16 : ∀ {h g : am_H} (_ : eqR S ρ h g) (y0 : Nat × Nat) (s_y0 : S y0 = true) (y1 : Int32) (y2 : Int32) (y3 : Int32) (y4 : Int32) (y5 : Int32), eqQ S ρ h g (rc16 y0 y1 y2 y3 y4 y5 h) (rc16 (ρ y0) y1 y2 y3 y4 y5 g)) {h g : am_H} (R : eqR S ρ h g) (a0 : Nat × Nat) (s_a0 : S a0 = true) (x1 : Int32) (x2 : Int32) (x3 : Int32) (x4 : Int32) (x5 : Int32) : eqQ S ρ h g (f_X10_countAheadOf_59 rc16 a0 x1 x2 x3 x4 x5 h) (f_X10_countAheadOf_59 rc16 (ρ a0) x1 x2 x3 x4 x5 g) := by
  rw [f_X10_countAheadOf_59, f_X10_countAheadOf_59]
  exact e_X10_countAheadOf_60 O hrc16 R _ s_a0 _ _ _ _ _ _
theorem e_X10_countAheadOf_55 {S : Nat × Nat → Bool} {ρ : Nat × Nat → Nat × Nat} (O : RhoOk S ρ) {rc16 : Nat × Nat → Int32 → Int32 → Int32 → Int32 → Int32 → am_H → am_R} (hrc16 : ∀ {h g : am_H} (_ : eqR S ρ h g) (y0 : Nat × Nat) (s_y0 : S y0 = true) (y1 : Int32) (y2 : Int32) (y3 : Int32) (y4 : Int32) (y5 : Int32), eqQ S ρ h g (rc16 y0 y1 y2 y3 y4 y5 h) (rc16 (ρ y0) y1 y2 y3 y4 y5 g)) {h g : am_H} (R : eqR S ρ h g) (a0 : Nat × Nat) (s_a0 : S a0 = true) (x1 : Int32) (x2 : Int32) (x3 : Int32) (x4 : Int32) (x5 : Int32) : eqQ S ρ h g (f_X10_countAheadOf_55 rc16 a0 x1 x2 x3 x4 x5 h) (f_X10_countAheadOf_55 rc16 (ρ a0) x1 x2 x3 x4 x5 g) := by
  rw [f_X10_countAheadOf_55, f_X10_countAheadOf_55]
  exact e_X10_countAheadOf_60 O hrc16 R _ s_a0 _ _ _ _ _ _
theorem e_X10_countAheadOf_16 {S : Nat × Nat → Bool} {ρ : Nat × Nat → Nat × Nat} (O : RhoOk S ρ)  : ∀ (n : Nat) {h g : am_H} (_ : eqR S ρ h g) (a0 : Nat × Nat) (s_a0 : S a0 = true) (x1 : Int32) (x2 : Int32) (x3 : Int32) (x4 : Int32) (x5 : Int32), eqQ S ρ h g (f_X10_countAheadOf_16 n a0 x1 x2 x3 x4 x5 h) (f_X10_countAheadOf_16 n (ρ a0) x1 x2 x3 x4 x5 g) := by
  intro n
  induction n with
  | zero => intros; exact q_none
  | succ n ih =>
    intro h g R a0 s_a0 x1 x2 x3 x4 x5
    rw [f_X10_countAheadOf_16, f_X10_countAheadOf_16]
    refine q_gI O R (okp_s s_a0) (fun v6 => ?_)
    refine q_ite (fun _ => ?_) (fun _ => ?_)
    · exact q_ri R
    · refine q_gR O R (okp_s s_a0) (fun o7 p_o7 => ?_)
      refine q_aR O R p_o7 (fun o8 p_o8 => ?_)
      refine q_ao O p_o8 (fun a11 s_a11 => ?_)
      refine q_bI (e_X9_latest O R _ s_a11) (fun h9 gh9 v10 R => ?_)
      refine q_ite (fun _ => ?_) (fun _ => ?_)
      · exact e_X10_countAheadOf_55 O ih R _ s_a0 _ _ _ _ _
      · refine q_ite (fun _ => ?_) (fun _ => ?_)
        · refine q_ite (fun _ => ?_) (fun _ => ?_)
          · exact e_X10_countAheadOf_59 O ih R _ s_a0 _ _ _ _ _
          · exact e_X10_countAheadOf_55 O ih R _ s_a0 _ _ _ _ _
        · exact e_X10_countAheadOf_59 O ih R _ s_a0 _ _ _ _ _
theorem e_X10_countAheadOf {S : Nat × Nat → Bool} {ρ : Nat × Nat → Nat × Nat} (O : RhoOk S ρ)  {h g : am_H} (R : eqR S ρ h g) (a0 : Nat × Nat) (s_a0 : S a0 = true) (x1 : Int32) (x2 : Int32) : eqQ S ρ h g (f_X10_countAheadOf a0 x1 x2 h) (f_X10_countAheadOf (ρ a0) x1 x2 g) := by
  rw [f_X10_countAheadOf, f_X10_countAheadOf]
  refine q_gR O R (okp_s s_a0) (fun o1 p_o1 => ?_)
  refine q_aR O R p_o1 (fun o2 p_o2 => ?_)
  refine q_ao O p_o2 (fun a5 s_a5 => ?_)
  refine q_bI (e_X9_latest O R _ s_a5) (fun h3 gh3 v4 R => ?_)
  exact e_X10_countAheadOf_16 O _ R _ s_a0 _ _ _ _ _
theorem e_X10_placesOf_22 {S : Nat × Nat → Bool} {ρ : Nat × Nat → Nat × Nat} (O : RhoOk S ρ)  {h g : am_H} (R : eqR S ρ h g) (s0 : Int32) : eqQ S ρ h g (f_X10_placesOf_22 s0 h) (f_X10_placesOf_22 s0 g) := by
  rw [f_X10_placesOf_22, f_X10_placesOf_22]
  exact q_ri R
theorem e_X10_placesOf {S : Nat × Nat → Bool} {ρ : Nat × Nat → Nat × Nat} (O : RhoOk S ρ)  {h g : am_H} (R : eqR S ρ h g) (a0 : Nat × Nat) (s_a0 : S a0 = true) (x1 : Option (Nat × Nat)) (p_x1 : okp S x1) (x2 : Int32) : eqQ S ρ h g (f_X10_placesOf a0 x1 x2 h) (f_X10_placesOf (ρ a0) (x1.map ρ) x2 g) := by
  rw [f_X10_placesOf, f_X10_placesOf]
  refine q_ite (fun _ => ?_) (fun _ => ?_)
  · refine q_gI O R p_x1 (fun v1 => ?_)
    exact e_X10_placesOf_22 O R _
  · refine q_gR O R (okp_s s_a0) (fun o2 p_o2 => ?_)
    refine q_gI O R p_x1 (fun v3 => ?_)
    refine q_ao O p_o2 (fun a6 s_a6 => ?_)
    refine q_bI (e_X7_belongUnder O R _ s_a6 _) (fun h4 gh4 v5 R => ?_)
    exact e_X10_placesOf_22 O R _
theorem e_X10_isTagSo_51 {S : Nat × Nat → Bool} {ρ : Nat × Nat → Nat × Nat} (O : RhoOk S ρ)  {h g : am_H} (R : eqR S ρ h g) (s0 : Int32) : eqQ S ρ h g (f_X10_isTagSo_51 s0 h) (f_X10_isTagSo_51 s0 g) := by
  rw [f_X10_isTagSo_51, f_X10_isTagSo_51]
  exact q_rz R
theorem e_X10_isTagSo {S : Nat × Nat → Bool} {ρ : Nat × Nat → Nat × Nat} (O : RhoOk S ρ)  {h g : am_H} (R : eqR S ρ h g) (a0 : Nat × Nat) (s_a0 : S a0 = true) (x1 : Option (Nat × Nat)) (p_x1 : okp S x1) (x2 : Int32) (x3 : Int32) : eqQ S ρ h g (f_X10_isTagSo a0 x1 x2 x3 h) (f_X10_isTagSo (ρ a0) (x1.map ρ) x2 x3 g) := by
  rw [f_X10_isTagSo, f_X10_isTagSo]
  refine q_gR O R (okp_s s_a0) (fun o1 p_o1 => ?_)
  refine q_gI O R p_o1 (fun v2 => ?_)
  refine q_ite (fun _ => ?_) (fun _ => ?_)
  · refine q_gR O R (okp_s s_a0) (fun o3 p_o3 => ?_)
    refine q_ao O p_o3 (fun a6 s_a6 => ?_)
    refine q_bI (e_X7_meaningOf O R _ s_a6 _) (fun h4 gh4 v5 R => ?_)
    refine q_ite (fun _ => ?_) (fun _ => ?_)
    · refine q_gI O R p_x1 (fun v12 => ?_)
      refine q_bI (e_X10_has O R _ _) (fun h13 gh13 v14 R => ?_)
      exact e_X10_isTagSo_51 O R _
    · refine q_ao O (okp_s s_a0) (fun a9 s_a9 => ?_)
      refine q_bI (e_X10_placesOf O R _ s_a9 _ p_x1 _) (fun h7 gh7 v8 R => ?_)
      refine q_bI (e_X10_has O R _ _) (fun h10 gh10 v11 R => ?_)
      exact e_X10_isTagSo_51 O R _
  · exact q_rz R
theorem e_X10_worksOfItem_79 {S : Nat × Nat → Bool} {ρ : Nat × Nat → Nat × Nat} (O : RhoOk S ρ) {rc6 : Nat × Nat → Int32 → Int32 → Int32 → Int32 → Int32 → Int32 → am_H → am_R} (hrc6 : ∀ {h g : am_H} (_ : eqR S ρ h g) (y0 : Nat × Nat) (s_y0 : S y0 = true) (y1 : Int32) (y2 : Int32) (y3 : Int32) (y4 : Int32) (y5 : Int32) (y6 : Int32), eqQ S ρ h g (rc6 y0 y1 y2 y3 y4 y5 y6 h) (rc6 (ρ y0) y1 y2 y3 y4 y5 y6 g)) {h g : am_H} (R : eqR S ρ h g) (a0 : Nat × Nat) (s_a0 : S a0 = true) (x1 : Int32) (x2 : Int32) (x3 : Int32) (x4 : Int32) (x5 : Int32) (x6 : Int32) (s0 : Int32) : eqQ S ρ h g (f_X10_worksOfItem_79 rc6 a0 x1 x2 x3 x4 x5 x6 s0 h) (f_X10_worksOfItem_79 rc6 (ρ a0) x1 x2 x3 x4 x5 x6 s0 g) := by
  rw [f_X10_worksOfItem_79, f_X10_worksOfItem_79]
  refine q_bI (e_X10_with O R _ _ _) (fun h14 gh14 v15 R => ?_)
  exact hrc6 R _ s_a0 _ _ _ _ _ _
theorem e_X10_worksOfItem_6 {S : Nat × Nat → Bool} {ρ : Nat × Nat → Nat × Nat} (O : RhoOk S ρ)  : ∀ (n : Nat) {h g : am_H} (_ : eqR S ρ h g) (a0 : Nat × Nat) (s_a0 : S a0 = true) (x1 : Int32) (x2 : Int32) (x3 : Int32) (x4 : Int32) (x5 : Int32) (x6 : Int32), eqQ S ρ h g (f_X10_worksOfItem_6 n a0 x1 x2 x3 x4 x5 x6 h) (f_X10_worksOfItem_6 n (ρ a0) x1 x2 x3 x4 x5 x6 g) := by
  intro n
  induction n with
  | zero => intros; exact q_none
  | succ n ih =>
    intro h g R a0 s_a0 x1 x2 x3 x4 x5 x6
    rw [f_X10_worksOfItem_6, f_X10_worksOfItem_6]
    refine q_gI O R (okp_s s_a0) (fun v1 => ?_)
    refine q_ite (fun _ => ?_) (fun _ => ?_)
    · exact q_ri R
    · refine q_gR O R (okp_s s_a0) (fun o2 p_o2 => ?_)
      refine q_aR O R p_o2 (fun o3 p_o3 => ?_)
      refine q_ite (fun _ => ?_) (fun _ => ?_)
      · refine q_ao O (okp_s s_a0) (fun a13 s_a13 => ?_)
        refine q_bI (e_X10_isTagSo O R _ s_a13 _ p_o3 _ _) (fun h11 gh11 v12 R => ?_)
        exact e_X10_worksOfItem_79 O ih R _ s_a0 _ _ _ _ _ _ _
      · refine q_ite (fun _ => ?_) (fun _ => ?_)
        · refine q_gI O R (okp_s s_a0) (fun v5 => ?_)
          refine q_ao O p_o3 (fun a8 s_a8 => ?_)
          refine q_bI (e_X9_ownersToldTo O R _ s_a8 _ _) (fun h6 gh6 v7 R => ?_)
          refine q_bI (e_X10_has O R _ _) (fun h9 gh9 v10 R => ?_)
          exact e_X10_worksOfItem_79 O ih R _ s_a0 _ _ _ _ _ _ _
        · refine q_gI O R p_o3 (fun v4 => ?_)
          refine q_ite (fun _ => ?_) (fun _ => ?_)
          · exact e_X10_worksOfItem_79 O ih R _ s_a0 _ _ _ _ _ _ _
          · exact e_X10_worksOfItem_79 O ih R _ s_a0 _ _ _ _ _ _ _
theorem e_X10_worksOfItem {S : Nat × Nat → Bool} {ρ : Nat × Nat → Nat × Nat} (O : RhoOk S ρ)  {h g : am_H} (R : eqR S ρ h g) (a0 : Nat × Nat) (s_a0 : S a0 = true) (x1 : Int32) (x2 : Int32) (x3 : Int32) (x4 : Int32) : eqQ S ρ h g (f_X10_worksOfItem a0 x1 x2 x3 x4 h) (f_X10_worksOfItem (ρ a0) x1 x2 x3 x4 g) := by
  rw [f_X10_worksOfItem, f_X10_worksOfItem]
  exact e_X10_worksOfItem_6 O _ R _ s_a0 _ _ _ _ _ _
theorem e_X10_worksSeenBy_4 {S : Nat × Nat → Bool} {ρ : Nat × Nat → Nat × Nat} (O : RhoOk S ρ)  : ∀ (n : Nat) {h g : am_H} (_ : eqR S ρ h g) (a0 : Nat × Nat) (s_a0 : S a0 = true) (x1 : Int32) (x2 : Int32) (x3 : Int32), eqQ S ρ h g (f_X10_worksSeenBy_4 n a0 x1 x2 x3 h) (f_X10_worksSeenBy_4 n (ρ a0) x1 x2 x3 g) := by
  intro n
  induction n with
  | zero => intros; exact q_none
  | succ n ih =>
    intro h g R a0 s_a0 x1 x2 x3
    rw [f_X10_worksSeenBy_4, f_X10_worksSeenBy_4]
    refine q_gI O R (okp_s s_a0) (fun v1 => ?_)
    refine q_ite (fun _ => ?_) (fun _ => ?_)
    · exact q_ri R
    · refine q_gR O R (okp_s s_a0) (fun o2 p_o2 => ?_)
      refine q_aR O R p_o2 (fun o3 p_o3 => ?_)
      refine q_gI O R (okp_s s_a0) (fun v4 => ?_)
      refine q_ao O p_o3 (fun a7 s_a7 => ?_)
      refine q_bI (e_X9_isSeenBy O R _ s_a7 _ _) (fun h5 gh5 v6 R => ?_)
      refine q_bI (e_X10_with O R _ _ _) (fun h8 gh8 v9 R => ?_)
      exact ih R _ s_a0 _ _ _
theorem e_X10_worksSeenBy {S : Nat × Nat → Bool} {ρ : Nat × Nat → Nat × Nat} (O : RhoOk S ρ)  {h g : am_H} (R : eqR S ρ h g) (a0 : Nat × Nat) (s_a0 : S a0 = true) (x1 : Int32) : eqQ S ρ h g (f_X10_worksSeenBy a0 x1 h) (f_X10_worksSeenBy (ρ a0) x1 g) := by
  rw [f_X10_worksSeenBy, f_X10_worksSeenBy]
  exact e_X10_worksSeenBy_4 O _ R _ s_a0 _ _ _
theorem e_X4_hasItem_19 {S : Nat × Nat → Bool} {ρ : Nat × Nat → Nat × Nat} (O : RhoOk S ρ)  {h g : am_H} (R : eqR S ρ h g) (s0 : Int32) : eqQ S ρ h g (f_X4_hasItem_19 s0 h) (f_X4_hasItem_19 s0 g) := by
  rw [f_X4_hasItem_19, f_X4_hasItem_19]
  exact q_rz R
theorem e_X4_hasItem_18 {S : Nat × Nat → Bool} {ρ : Nat × Nat → Nat × Nat} (O : RhoOk S ρ)  {h g : am_H} (R : eqR S ρ h g)  : eqQ S ρ h g (f_X4_hasItem_18  h) (f_X4_hasItem_18  g) := by
  unfold f_X4_hasItem_18
  exact e_X4_hasItem_19 O R _
theorem e_X4_hasItem {S : Nat × Nat → Bool} {ρ : Nat × Nat → Nat × Nat} (O : RhoOk S ρ)  {h g : am_H} (R : eqR S ρ h g) (a0 : Nat × Nat) (s_a0 : S a0 = true) (x1 : Int32) : eqQ S ρ h g (f_X4_hasItem a0 x1 h) (f_X4_hasItem (ρ a0) x1 g) := by
  rw [f_X4_hasItem, f_X4_hasItem]
  refine q_gI O R (okp_s s_a0) (fun v1 => ?_)
  refine q_ite (fun _ => ?_) (fun _ => ?_)
  · refine q_bI (e_X4_isFigure O R _) (fun h2 gh2 v3 R => ?_)
    refine q_ite (fun _ => ?_) (fun _ => ?_)
    · exact e_X4_hasItem_18 O R
    · exact e_X4_hasItem_19 O R _
  · exact e_X4_hasItem_18 O R
theorem e_X5_end {S : Nat × Nat → Bool} {ρ : Nat × Nat → Nat × Nat} (O : RhoOk S ρ)  {h g : am_H} (R : eqR S ρ h g) (a0 : Nat × Nat) (s_a0 : S a0 = true) : eqQ S ρ h g (f_X5_end a0 h) (f_X5_end (ρ a0) g) := by
  rw [f_X5_end, f_X5_end]
  refine q_gR O R (okp_s s_a0) (fun o1 p_o1 => ?_)
  refine q_gI O R (okp_s s_a0) (fun v2 => ?_)
  refine q_aI O R p_o1 (fun v3 => ?_)
  refine q_gR O R (okp_s s_a0) (fun o4 p_o4 => ?_)
  refine q_gI O R (okp_s s_a0) (fun v5 => ?_)
  refine q_aI O R p_o4 (fun v6 => ?_)
  exact q_ri R
theorem e_X5_item_29 {S : Nat × Nat → Bool} {ρ : Nat × Nat → Nat × Nat} (O : RhoOk S ρ)  {h g : am_H} (R : eqR S ρ h g) (a0 : Nat × Nat) (s_a0 : S a0 = true) (s0 : Int32) (s1 : Int32) (s2 : Int32) (s3 : Option (Nat × Nat)) (p_s3 : okp S s3) : eqQ S ρ h g (f_X5_item_29 a0 s0 s1 s2 s3 h) (f_X5_item_29 (ρ a0) s0 s1 s2 (s3.map ρ) g) := by
  rw [f_X5_item_29, f_X5_item_29]
  refine q_sI O R p_s3 (fun h7 gh7 R => ?_)
  refine q_gR O R (okp_s s_a0) (fun o8 p_o8 => ?_)
  refine q_gI O R (okp_s s_a0) (fun v9 => ?_)
  refine q_sZ O R p_o8 (fun h10 gh10 R => ?_)
  exact q_rtn R
theorem e_X5_item {S : Nat × Nat → Bool} {ρ : Nat × Nat → Nat × Nat} (O : RhoOk S ρ)  {h g : am_H} (R : eqR S ρ h g) (a0 : Nat × Nat) (s_a0 : S a0 = true) (x1 : Int32) : eqQ S ρ h g (f_X5_item a0 x1 h) (f_X5_item (ρ a0) x1 g) := by
  rw [f_X5_item, f_X5_item]
  refine q_gR O R (okp_s s_a0) (fun o1 p_o1 => ?_)
  refine q_gI O R (okp_s s_a0) (fun v2 => ?_)
  refine q_aI O R p_o1 (fun v3 => ?_)
  refine q_gR O R (okp_s s_a0) (fun o4 p_o4 => ?_)
  refine q_gI O R (okp_s s_a0) (fun v5 => ?_)
  refine q_aI O R p_o4 (fun v6 => ?_)
  refine q_ite (fun _ => ?_) (fun _ => ?_)
  · exact e_X5_item_29 O R _ s_a0 _ _ _ _ p_o1
  · exact e_X5_item_29 O R _ s_a0 _ _ _ _ p_o1
theorem e_X5_clear {S : Nat × Nat → Bool} {ρ : Nat × Nat → Nat × Nat} (O : RhoOk S ρ)  {h g : am_H} (R : eqR S ρ h g) (a0 : Nat × Nat) (s_a0 : S a0 = true) : eqQ S ρ h g (f_X5_clear a0 h) (f_X5_clear (ρ a0) g) := by
  rw [f_X5_clear, f_X5_clear]
  refine q_gR O R (okp_s s_a0) (fun o1 p_o1 => ?_)
  refine q_gI O R (okp_s s_a0) (fun v2 => ?_)
  refine q_sI O R p_o1 (fun h3 gh3 R => ?_)
  refine q_gR O R (okp_s s_a0) (fun o4 p_o4 => ?_)
  refine q_gI O R (okp_s s_a0) (fun v5 => ?_)
  refine q_sI O R p_o4 (fun h6 gh6 R => ?_)
  refine q_gR O R (okp_s s_a0) (fun o7 p_o7 => ?_)
  refine q_gI O R (okp_s s_a0) (fun v8 => ?_)
  refine q_sZ O R p_o7 (fun h9 gh9 R => ?_)
  exact q_rtn R
theorem e_X5_mark_140 {S : Nat × Nat → Bool} {ρ : Nat × Nat → Nat × Nat} (O : RhoOk S ρ)  {h g : am_H} (R : eqR S ρ h g)  : eqQ S ρ h g (f_X5_mark_140  h) (f_X5_mark_140  g) := by
  unfold f_X5_mark_140
  exact q_rtn R
theorem e_X5_mark_103 {S : Nat × Nat → Bool} {ρ : Nat × Nat → Nat × Nat} (O : RhoOk S ρ)  {h g : am_H} (R : eqR S ρ h g) (a0 : Nat × Nat) (s_a0 : S a0 = true) (x1 : Int32) : eqQ S ρ h g (f_X5_mark_103 a0 x1 h) (f_X5_mark_103 (ρ a0) x1 g) := by
  rw [f_X5_mark_103, f_X5_mark_103]
  refine q_ite (fun _ => ?_) (fun _ => ?_)
  · refine q_gR O R (okp_s s_a0) (fun o22 p_o22 => ?_)
    refine q_gI O R (okp_s s_a0) (fun v23 => ?_)
    refine q_aI O R p_o22 (fun v24 => ?_)
    refine q_gR O R (okp_s s_a0) (fun o25 p_o25 => ?_)
    refine q_gI O R (okp_s s_a0) (fun v26 => ?_)
    refine q_aI O R p_o25 (fun v27 => ?_)
    refine q_sI O R p_o22 (fun h28 gh28 R => ?_)
    refine q_gR O R (okp_s s_a0) (fun o29 p_o29 => ?_)
    refine q_gI O R (okp_s s_a0) (fun v30 => ?_)
    refine q_sI O R p_o29 (fun h31 gh31 R => ?_)
    exact e_X5_mark_140 O R
  · exact e_X5_mark_140 O R
theorem e_X5_mark_67 {S : Nat × Nat → Bool} {ρ : Nat × Nat → Nat × Nat} (O : RhoOk S ρ)  {h g : am_H} (R : eqR S ρ h g) (a0 : Nat × Nat) (s_a0 : S a0 = true) (x1 : Int32) : eqQ S ρ h g (f_X5_mark_67 a0 x1 h) (f_X5_mark_67 (ρ a0) x1 g) := by
  rw [f_X5_mark_67, f_X5_mark_67]
  refine q_ite (fun _ => ?_) (fun _ => ?_)
  · refine q_gI O R (okp_s s_a0) (fun v13 => ?_)
    refine q_ite (fun _ => ?_) (fun _ => ?_)
    · exact e_X5_mark_103 O R _ s_a0 _
    · refine q_ao O (okp_s s_a0) (fun a16 s_a16 => ?_)
      refine q_bI (e_X5_end O R _ s_a16) (fun h14 gh14 v15 R => ?_)
      refine q_gI O R (okp_s s_a0) (fun v17 => ?_)
      refine q_pI O R (okp_s s_a0) (fun h18 gh18 R => ?_)
      refine q_ao O (okp_s s_a0) (fun a21 s_a21 => ?_)
      refine q_bV (e_X5_item O R _ s_a21 _) (fun h19 gh19 R => ?_)
      exact e_X5_mark_140 O R
  · exact e_X5_mark_103 O R _ s_a0 _
theorem e_X5_mark_31 {S : Nat × Nat → Bool} {ρ : Nat × Nat → Nat × Nat} (O : RhoOk S ρ)  {h g : am_H} (R : eqR S ρ h g) (s0 : Int32) (s1 : Int32) (s2 : Option (Nat × Nat)) (p_s2 : okp S s2) : eqQ S ρ h g (f_X5_mark_31 s0 s1 s2 h) (f_X5_mark_31 s0 s1 (s2.map ρ) g) := by
  rw [f_X5_mark_31, f_X5_mark_31]
  refine q_sZ O R p_s2 (fun h12 gh12 R => ?_)
  exact e_X5_mark_140 O R
theorem e_X5_mark {S : Nat × Nat → Bool} {ρ : Nat × Nat → Nat × Nat} (O : RhoOk S ρ)  {h g : am_H} (R : eqR S ρ h g) (a0 : Nat × Nat) (s_a0 : S a0 = true) (x1 : Int32) : eqQ S ρ h g (f_X5_mark a0 x1 h) (f_X5_mark (ρ a0) x1 g) := by
  rw [f_X5_mark, f_X5_mark]
  refine q_ite (fun _ => ?_) (fun _ => ?_)
  · refine q_gR O R (okp_s s_a0) (fun o7 p_o7 => ?_)
    refine q_gI O R (okp_s s_a0) (fun v8 => ?_)
    refine q_gR O R (okp_s s_a0) (fun o9 p_o9 => ?_)
    refine q_gI O R (okp_s s_a0) (fun v10 => ?_)
    refine q_aI O R p_o9 (fun v11 => ?_)
    refine q_ite (fun _ => ?_) (fun _ => ?_)
    · exact e_X5_mark_31 O R _ _ _ p_o7
    · exact e_X5_mark_31 O R _ _ _ p_o7
  · refine q_ite (fun _ => ?_) (fun _ => ?_)
    · refine q_gI O R (okp_s s_a0) (fun v1 => ?_)
      refine q_ite (fun _ => ?_) (fun _ => ?_)
      · exact e_X5_mark_67 O R _ s_a0 _
      · refine q_gI O R (okp_s s_a0) (fun v2 => ?_)
        refine q_pI O R (okp_s s_a0) (fun h3 gh3 R => ?_)
        refine q_ao O (okp_s s_a0) (fun a6 s_a6 => ?_)
        refine q_bV (e_X5_clear O R _ s_a6) (fun h4 gh4 R => ?_)
        exact e_X5_mark_140 O R
    · exact e_X5_mark_67 O R _ s_a0 _
theorem e_X5_start {S : Nat × Nat → Bool} {ρ : Nat × Nat → Nat × Nat} (O : RhoOk S ρ)  {h g : am_H} (R : eqR S ρ h g) (a0 : Nat × Nat) (s_a0 : S a0 = true) : eqQ S ρ h g (f_X5_start a0 h) (f_X5_start (ρ a0) g) := by
  rw [f_X5_start, f_X5_start]
  refine q_pI O R (okp_s s_a0) (fun h1 gh1 R => ?_)
  refine q_ao O (okp_s s_a0) (fun a4 s_a4 => ?_)
  refine q_bV (e_X5_clear O R _ s_a4) (fun h2 gh2 R => ?_)
  exact q_rtn R
theorem e_X10_found_92 {S : Nat × Nat → Bool} {ρ : Nat × Nat → Nat × Nat} (O : RhoOk S ρ) {rc22 : Nat × Nat → Int32 → Int32 → Option (Nat × Nat) → Int32 → am_H → am_R} (hrc22 : ∀ {h g : am_H} (_ : eqR S ρ h g) (y0 : Nat × Nat) (s_y0 : S y0 = true) (y1 : Int32) (y2 : Int32) (y3 : Option (Nat × Nat)) (p_y3 : okp S y3) (y4 : Int32), eqQ S ρ h g (rc22 y0 y1 y2 y3 y4 h) (rc22 (ρ y0) y1 y2 (y3.map ρ) y4 g)) {h g : am_H} (R : eqR S ρ h g) (a0 : Nat × Nat) (s_a0 : S a0 = true) (x1 : Int32) (x2 : Int32) (x3 : Option (Nat × Nat)) (p_x3 : okp S x3) (x4 : Int32) : eqQ S ρ h g (f_X10_found_92 rc22 a0 x1 x2 x3 x4 h) (f_X10_found_92 rc22 (ρ a0) x1 x2 (x3.map ρ) x4 g) := by
  rw [f_X10_found_92, f_X10_found_92]
  exact hrc22 R _ s_a0 _ _ _ p_x3 _
theorem e_X10_found_22 {S : Nat × Nat → Bool} {ρ : Nat × Nat → Nat × Nat} (O : RhoOk S ρ)  : ∀ (n : Nat) {h g : am_H} (_ : eqR S ρ h g) (a0 : Nat × Nat) (s_a0 : S a0 = true) (x1 : Int32) (x2 : Int32) (x3 : Option (Nat × Nat)) (p_x3 : okp S x3) (x4 : Int32), eqQ S ρ h g (f_X10_found_22 n a0 x1 x2 x3 x4 h) (f_X10_found_22 n (ρ a0) x1 x2 (x3.map ρ) x4 g) := by
  intro n
  induction n with
  | zero => intros; exact q_none
  | succ n ih =>
    intro h g R a0 s_a0 x1 x2 x3 p_x3 x4
    rw [f_X10_found_22, f_X10_found_22]
    refine q_gR O R (okp_s s_a0) (fun o10 p_o10 => ?_)
    refine q_gI O R p_o10 (fun v11 => ?_)
    refine q_ite (fun _ => ?_) (fun _ => ?_)
    · refine q_gR O R (okp_s s_a0) (fun o12 p_o12 => ?_)
      refine q_ao O p_o12 (fun a15 s_a15 => ?_)
      refine q_bI (e_X5_end O R _ s_a15) (fun h13 gh13 v14 R => ?_)
      refine q_ao O (okp_s s_a0) (fun a18 s_a18 => ?_)
      refine q_bI (e_X10_worksSeenBy O R _ s_a18 _) (fun h16 gh16 v17 R => ?_)
      exact q_ri R
    · refine q_gR O R (okp_s s_a0) (fun o19 p_o19 => ?_)
      refine q_gR O R p_o19 (fun o20 p_o20 => ?_)
      refine q_aI O R p_o20 (fun v21 => ?_)
      refine q_ao O p_x3 (fun a24 s_a24 => ?_)
      refine q_bI (e_X4_takes O R _ s_a24 _) (fun h22 gh22 v23 R => ?_)
      refine q_gR O R (okp_s s_a0) (fun o25 p_o25 => ?_)
      refine q_ao O p_o25 (fun a28 s_a28 => ?_)
      refine q_bV (e_X5_mark O R _ s_a28 _) (fun h26 gh26 R => ?_)
      refine q_ao O p_x3 (fun a31 s_a31 => ?_)
      refine q_bI (e_X4_hasItem O R _ s_a31 _) (fun h29 gh29 v30 R => ?_)
      refine q_ite (fun _ => ?_) (fun _ => ?_)
      · exact e_X10_found_92 O ih R _ s_a0 _ _ _ p_x3 _
      · refine q_gR O R (okp_s s_a0) (fun o32 p_o32 => ?_)
        refine q_gI O R p_x3 (fun v33 => ?_)
        refine q_gI O R p_x3 (fun v34 => ?_)
        refine q_ao O (okp_s s_a0) (fun a37 s_a37 => ?_)
        refine q_bI (e_X10_worksOfItem O R _ s_a37 _ _ _ _) (fun h35 gh35 v36 R => ?_)
        refine q_ao O p_o32 (fun a40 s_a40 => ?_)
        refine q_bV (e_X5_item O R _ s_a40 _) (fun h38 gh38 R => ?_)
        exact e_X10_found_92 O ih R _ s_a0 _ _ _ p_x3 _
theorem e_X10_found {S : Nat × Nat → Bool} {ρ : Nat × Nat → Nat × Nat} (O : RhoOk S ρ)  {h g : am_H} (R : eqR S ρ h g) (a0 : Nat × Nat) (s_a0 : S a0 = true) (x1 : Int32) (x2 : Int32) : eqQ S ρ h g (f_X10_found a0 x1 x2 h) (f_X10_found (ρ a0) x1 x2 g) := by
  rw [f_X10_found, f_X10_found]
  refine q_gR O R (okp_s s_a0) (fun o1 p_o1 => ?_)
  refine q_gR O R p_o1 (fun o2 p_o2 => ?_)
  refine q_ao O p_o2 (fun a5 s_a5 => ?_)
  refine q_bV (e_X4_start O R _ s_a5) (fun h3 gh3 R => ?_)
  refine q_gR O R (okp_s s_a0) (fun o6 p_o6 => ?_)
  refine q_ao O p_o6 (fun a9 s_a9 => ?_)
  refine q_bV (e_X5_start O R _ s_a9) (fun h7 gh7 R => ?_)
  exact e_X10_found_22 O _ R _ s_a0 _ _ _ p_o2 _
theorem e_X10_result_65 {S : Nat × Nat → Bool} {ρ : Nat × Nat → Nat × Nat} (O : RhoOk S ρ) {rc33 : Nat × Nat → Int32 → Int32 → Int32 → am_H → am_R} (hrc33 : ∀ {h g : am_H} (_ : eqR S ρ h g) (y0 : Nat × Nat) (s_y0 : S y0 = true) (y1 : Int32) (y2 : Int32) (y3 : Int32), eqQ S ρ h g (rc33 y0 y1 y2 y3 h) (rc33 (ρ y0) y1 y2 y3 g)) {h g : am_H} (R : eqR S ρ h g) (a0 : Nat × Nat) (s_a0 : S a0 = true) (x2 : Int32) (x3 : Int32) (x4 : Int32) : eqQ S ρ h g (f_X10_result_65 rc33 a0 x2 x3 x4 h) (f_X10_result_65 rc33 (ρ a0) x2 x3 x4 g) := by
  rw [f_X10_result_65, f_X10_result_65]
  exact hrc33 R _ s_a0 _ _ _
theorem e_X10_result_33 {S : Nat × Nat → Bool} {ρ : Nat × Nat → Nat × Nat} (O : RhoOk S ρ)  : ∀ (n : Nat) {h g : am_H} (_ : eqR S ρ h g) (a0 : Nat × Nat) (s_a0 : S a0 = true) (x2 : Int32) (x3 : Int32) (x4 : Int32), eqQ S ρ h g (f_X10_result_33 n a0 x2 x3 x4 h) (f_X10_result_33 n (ρ a0) x2 x3 x4 g) := by
  intro n
  induction n with
  | zero => intros; exact q_none
  | succ n ih =>
    intro h g R a0 s_a0 x2 x3 x4
    rw [f_X10_result_33, f_X10_result_33]
    refine q_gI O R (okp_s s_a0) (fun v9 => ?_)
    refine q_ite (fun _ => ?_) (fun _ => ?_)
    · exact q_ri R
    · refine q_bI (e_X10_has O R _ _) (fun h10 gh10 v11 R => ?_)
      refine q_ite (fun _ => ?_) (fun _ => ?_)
      · exact e_X10_result_65 O ih R _ s_a0 _ _ _
      · refine q_ao O (okp_s s_a0) (fun a14 s_a14 => ?_)
        refine q_bI (e_X10_countAheadOf O R _ s_a14 _ _) (fun h12 gh12 v13 R => ?_)
        refine q_ite (fun _ => ?_) (fun _ => ?_)
        · exact q_ri R
        · exact e_X10_result_65 O ih R _ s_a0 _ _ _
theorem e_X10_result {S : Nat × Nat → Bool} {ρ : Nat × Nat → Nat × Nat} (O : RhoOk S ρ)  {h g : am_H} (R : eqR S ρ h g) (a0 : Nat × Nat) (s_a0 : S a0 = true) (x1 : Int32) (x2 : Int32) : eqQ S ρ h g (f_X10_result a0 x1 x2 h) (f_X10_result (ρ a0) x1 x2 g) := by
  rw [f_X10_result, f_X10_result]
  refine q_bV (e_X10_checkFace O R _) (fun h1 gh1 R => ?_)
  refine q_ite (fun _ => ?_) (fun _ => ?_)
  · refine q_ao O (okp_s s_a0) (fun a5 s_a5 => ?_)
    refine q_bV (e_X10_checkQuery O R _ s_a5) (fun h3 gh3 R => ?_)
    refine q_ao O (okp_s s_a0) (fun a8 s_a8 => ?_)
    refine q_bI (e_X10_found O R _ s_a8 _ _) (fun h6 gh6 v7 R => ?_)
    exact e_X10_result_33 O _ R _ s_a0 _ _ _
  · exact q_ex R
