theorem e_X10_checkWork_12 {S : Nat × Nat → Bool} {ρ : Nat × Nat → Nat × Nat} (O : RhoOk S ρ)  {h g : am_H} (R : eqR S ρ h g)  : eqQ S ρ h g (f_X10_checkWork_12  h) (f_X10_checkWork_12  g) := by
  unfold f_X10_checkWork_12
  exact q_ex R
theorem e_X10_checkWork {S : Nat × Nat → Bool} {ρ : Nat × Nat → Nat × Nat} (O : RhoOk S ρ)  {h g : am_H} (R : eqR S ρ h g) (a0 : Nat × Nat) (s_a0 : S a0 = true) (x1 : Int32) : eqQ S ρ h g (f_X10_checkWork a0 x1 h) (f_X10_checkWork (ρ a0) x1 g) := by
  rw [f_X10_checkWork, f_X10_checkWork]
  refine q_ite (fun _ => ?_) (fun _ => ?_)
  · exact e_X10_checkWork_12 O R
  · refine q_gI O R (okp_s s_a0) (fun v1 => ?_)
    refine q_ite (fun _ => ?_) (fun _ => ?_)
    · exact q_rtn R
    · exact e_X10_checkWork_12 O R
theorem e_X10_workAt {S : Nat × Nat → Bool} {ρ : Nat × Nat → Nat × Nat} (O : RhoOk S ρ)  {h g : am_H} (R : eqR S ρ h g) (a0 : Nat × Nat) (s_a0 : S a0 = true) (x1 : Int32) : eqQ S ρ h g (f_X10_workAt a0 x1 h) (f_X10_workAt (ρ a0) x1 g) := by
  rw [f_X10_workAt, f_X10_workAt]
  refine q_ao O (okp_s s_a0) (fun a3 s_a3 => ?_)
  refine q_bV (e_X10_checkWork O R _ s_a3 _) (fun h1 gh1 R => ?_)
  refine q_gR O R (okp_s s_a0) (fun o4 p_o4 => ?_)
  refine q_aR O R p_o4 (fun o5 p_o5 => ?_)
  exact q_ra R p_o5
theorem e_X10_collect_18 {S : Nat × Nat → Bool} {ρ : Nat × Nat → Nat × Nat} (O : RhoOk S ρ)  {h g : am_H} (R : eqR S ρ h g)  : eqQ S ρ h g (f_X10_collect_18  h) (f_X10_collect_18  g) := by
  unfold f_X10_collect_18
  exact q_ex R
theorem e_X10_collect {S : Nat × Nat → Bool} {ρ : Nat × Nat → Nat × Nat} (O : RhoOk S ρ)  {h g : am_H} (R : eqR S ρ h g) (a0 : Nat × Nat) (s_a0 : S a0 = true) (x1 : Int32) (x2 : Int32) : eqQ S ρ h g (f_X10_collect a0 x1 x2 h) (f_X10_collect (ρ a0) x1 x2 g) := by
  rw [f_X10_collect, f_X10_collect]
  refine q_ao O (okp_s s_a0) (fun a3 s_a3 => ?_)
  refine q_bR (e_X10_workAt O R _ s_a3 _) (fun h1 gh1 o2 R p_o2 => ?_)
  refine q_ite (fun _ => ?_) (fun _ => ?_)
  · exact e_X10_collect_18 O R
  · refine q_gI O R (okp_s s_a0) (fun v4 => ?_)
    refine q_ite (fun _ => ?_) (fun _ => ?_)
    · refine q_gR O R p_o2 (fun o5 p_o5 => ?_)
      refine q_itN ?_ ?_
      · refine q_gR O R (okp_s s_a0) (fun o6 p_o6 => ?_)
        refine q_aR O R p_o6 (fun o7 p_o7 => ?_)
        refine q_pR O R p_o2 p_o7 (fun h8 gh8 R => ?_)
        exact q_rtn R
      · exact q_ex R
    · exact e_X10_collect_18 O R
theorem e_X10_checkPerson_10 {S : Nat × Nat → Bool} {ρ : Nat × Nat → Nat × Nat} (O : RhoOk S ρ)  {h g : am_H} (R : eqR S ρ h g)  : eqQ S ρ h g (f_X10_checkPerson_10  h) (f_X10_checkPerson_10  g) := by
  unfold f_X10_checkPerson_10
  exact q_ex R
theorem e_X10_checkPerson {S : Nat × Nat → Bool} {ρ : Nat × Nat → Nat × Nat} (O : RhoOk S ρ)  {h g : am_H} (R : eqR S ρ h g) (x0 : Int32) : eqQ S ρ h g (f_X10_checkPerson x0 h) (f_X10_checkPerson x0 g) := by
  rw [f_X10_checkPerson, f_X10_checkPerson]
  refine q_ite (fun _ => ?_) (fun _ => ?_)
  · exact e_X10_checkPerson_10 O R
  · refine q_ite (fun _ => ?_) (fun _ => ?_)
    · exact q_rtn R
    · exact e_X10_checkPerson_10 O R
theorem e_X10_has_13 {S : Nat × Nat → Bool} {ρ : Nat × Nat → Nat × Nat} (O : RhoOk S ρ)  {h g : am_H} (R : eqR S ρ h g) (s0 : Int32) : eqQ S ρ h g (f_X10_has_13 s0 h) (f_X10_has_13 s0 g) := by
  rw [f_X10_has_13, f_X10_has_13]
  exact q_rz R
theorem e_X10_has {S : Nat × Nat → Bool} {ρ : Nat × Nat → Nat × Nat} (O : RhoOk S ρ)  {h g : am_H} (R : eqR S ρ h g) (x0 : Int32) (x1 : Int32) : eqQ S ρ h g (f_X10_has x0 x1 h) (f_X10_has x0 x1 g) := by
  rw [f_X10_has, f_X10_has]
  refine q_ite (fun _ => ?_) (fun _ => ?_)
  · exact e_X10_has_13 O R _
  · exact e_X10_has_13 O R _
theorem e_X10_with_19 {S : Nat × Nat → Bool} {ρ : Nat × Nat → Nat × Nat} (O : RhoOk S ρ)  {h g : am_H} (R : eqR S ρ h g) (s0 : Int32) : eqQ S ρ h g (f_X10_with_19 s0 h) (f_X10_with_19 s0 g) := by
  rw [f_X10_with_19, f_X10_with_19]
  exact q_ri R
theorem e_X10_with {S : Nat × Nat → Bool} {ρ : Nat × Nat → Nat × Nat} (O : RhoOk S ρ)  {h g : am_H} (R : eqR S ρ h g) (x0 : Int32) (x1 : Int32) (x2 : Int32) : eqQ S ρ h g (f_X10_with x0 x1 x2 h) (f_X10_with x0 x1 x2 g) := by
  rw [f_X10_with, f_X10_with]
  refine q_ite (fun _ => ?_) (fun _ => ?_)
  · exact e_X10_with_19 O R _
  · exact e_X10_with_19 O R _
theorem e_X10_block {S : Nat × Nat → Bool} {ρ : Nat × Nat → Nat × Nat} (O : RhoOk S ρ)  {h g : am_H} (R : eqR S ρ h g) (a0 : Nat × Nat) (s_a0 : S a0 = true) (x1 : Int32) (x2 : Int32) (x3 : Int32) : eqQ S ρ h g (f_X10_block a0 x1 x2 x3 h) (f_X10_block (ρ a0) x1 x2 x3 g) := by
  rw [f_X10_block, f_X10_block]
  refine q_bV (e_X10_checkPerson O R _) (fun h1 gh1 R => ?_)
  refine q_bV (e_X10_checkPerson O R _) (fun h3 gh3 R => ?_)
  refine q_ite (fun _ => ?_) (fun _ => ?_)
  · exact q_ex R
  · refine q_gR O R (okp_s s_a0) (fun o5 p_o5 => ?_)
    refine q_aR O R p_o5 (fun o6 p_o6 => ?_)
    refine q_gI O R p_o6 (fun v7 => ?_)
    refine q_bI (e_X10_has O R _ _) (fun h8 gh8 v9 R => ?_)
    refine q_gI O R p_o6 (fun v10 => ?_)
    refine q_bI (e_X10_with O R _ _ _) (fun h11 gh11 v12 R => ?_)
    refine q_pI O R p_o6 (fun h13 gh13 R => ?_)
    exact q_rz R
theorem e_X10_chapter {S : Nat × Nat → Bool} {ρ : Nat × Nat → Nat × Nat} (O : RhoOk S ρ)  {h g : am_H} (R : eqR S ρ h g) (a0 : Nat × Nat) (s_a0 : S a0 = true) (x1 : Int32) : eqQ S ρ h g (f_X10_chapter a0 x1 h) (f_X10_chapter (ρ a0) x1 g) := by
  rw [f_X10_chapter, f_X10_chapter]
  refine q_ao O (okp_s s_a0) (fun a3 s_a3 => ?_)
  refine q_bR (e_X10_workAt O R _ s_a3 _) (fun h1 gh1 o2 R p_o2 => ?_)
  refine q_gI O R p_o2 (fun v4 => ?_)
  refine q_ite (fun _ => ?_) (fun _ => ?_)
  · refine q_gR O R p_o2 (fun o5 p_o5 => ?_)
    refine q_gI O R p_o2 (fun v6 => ?_)
    refine q_gI O R (okp_s s_a0) (fun v7 => ?_)
    refine q_sI O R p_o5 (fun h8 gh8 R => ?_)
    refine q_gI O R p_o2 (fun v9 => ?_)
    refine q_pI O R p_o2 (fun h10 gh10 R => ?_)
    refine q_gI O R p_o2 (fun v11 => ?_)
    exact q_ri R
  · exact q_ex R
theorem e_X0_init {S : Nat × Nat → Bool} {ρ : Nat × Nat → Nat × Nat} (O : RhoOk S ρ)  {h g : am_H} (R : eqR S ρ h g) (a0 : Nat × Nat) (s_a0 : S a0 = true) (x1 : Int32) (x2 : Int32) : eqQ S ρ h g (f_X0_init a0 x1 x2 h) (f_X0_init (ρ a0) x1 x2 g) := by
  rw [f_X0_init, f_X0_init]
  refine q_pI O R (okp_s s_a0) (fun h1 gh1 R => ?_)
  refine q_pI O R (okp_s s_a0) (fun h2 gh2 R => ?_)
  exact q_rtn R
theorem e_X10_collection_23 {S : Nat × Nat → Bool} {ρ : Nat × Nat → Nat × Nat} (O : RhoOk S ρ)  {h g : am_H} (R : eqR S ρ h g)  : eqQ S ρ h g (f_X10_collection_23  h) (f_X10_collection_23  g) := by
  unfold f_X10_collection_23
  exact q_ex R
theorem e_J6_bitCount_0f7a4 {S : Nat × Nat → Bool} {ρ : Nat × Nat → Nat × Nat} (O : RhoOk S ρ)  {h g : am_H} (R : eqR S ρ h g) (x0 : Int32) : eqQ S ρ h g (f_J6_bitCount_0f7a4 x0 h) (f_J6_bitCount_0f7a4 x0 g) := by
  rw [f_J6_bitCount_0f7a4, f_J6_bitCount_0f7a4]
  exact q_ri R
theorem e_X9_isOwnedBy {S : Nat × Nat → Bool} {ρ : Nat × Nat → Nat × Nat} (O : RhoOk S ρ)  {h g : am_H} (R : eqR S ρ h g) (a0 : Nat × Nat) (s_a0 : S a0 = true) (x1 : Int32) : eqQ S ρ h g (f_X9_isOwnedBy a0 x1 h) (f_X9_isOwnedBy (ρ a0) x1 g) := by
  rw [f_X9_isOwnedBy, f_X9_isOwnedBy]
  refine q_gI O R (okp_s s_a0) (fun v1 => ?_)
  refine q_bJ (e_X10_has O R _ _) (fun h2 gh2 v3 R => ?_)
  exact q_rz R
theorem e_X10_join_38 {S : Nat × Nat → Bool} {ρ : Nat × Nat → Nat × Nat} (O : RhoOk S ρ)  {h g : am_H} (R : eqR S ρ h g)  : eqQ S ρ h g (f_X10_join_38  h) (f_X10_join_38  g) := by
  unfold f_X10_join_38
  exact q_ex R
theorem e_X10_join {S : Nat × Nat → Bool} {ρ : Nat × Nat → Nat × Nat} (O : RhoOk S ρ)  {h g : am_H} (R : eqR S ρ h g) (a0 : Nat × Nat) (s_a0 : S a0 = true) (x1 : Int32) (x2 : Int32) : eqQ S ρ h g (f_X10_join a0 x1 x2 h) (f_X10_join (ρ a0) x1 x2 g) := by
  rw [f_X10_join, f_X10_join]
  refine q_ao O (okp_s s_a0) (fun a3 s_a3 => ?_)
  refine q_bR (e_X10_workAt O R _ s_a3 _) (fun h1 gh1 o2 R p_o2 => ?_)
  refine q_bV (e_X10_checkPerson O R _) (fun h4 gh4 R => ?_)
  refine q_gI O R p_o2 (fun v6 => ?_)
  refine q_bI (e_J6_bitCount_0f7a4 O R _) (fun h7 gh7 v8 R => ?_)
  refine q_ao O p_o2 (fun a11 s_a11 => ?_)
  refine q_bI (e_X9_isOwnedBy O R _ s_a11 _) (fun h9 gh9 v10 R => ?_)
  refine q_ite (fun _ => ?_) (fun _ => ?_)
  · refine q_ite (fun _ => ?_) (fun _ => ?_)
    · exact e_X10_join_38 O R
    · refine q_ite (fun _ => ?_) (fun _ => ?_)
      · exact e_X10_join_38 O R
      · refine q_gI O R p_o2 (fun v12 => ?_)
        refine q_bI (e_X10_with O R _ _ _) (fun h13 gh13 v14 R => ?_)
        refine q_pI O R p_o2 (fun h15 gh15 R => ?_)
        exact q_ri R
  · exact e_X10_join_38 O R
theorem e_X10_leave {S : Nat × Nat → Bool} {ρ : Nat × Nat → Nat × Nat} (O : RhoOk S ρ)  {h g : am_H} (R : eqR S ρ h g) (a0 : Nat × Nat) (s_a0 : S a0 = true) (x1 : Int32) (x2 : Int32) : eqQ S ρ h g (f_X10_leave a0 x1 x2 h) (f_X10_leave (ρ a0) x1 x2 g) := by
  rw [f_X10_leave, f_X10_leave]
  refine q_ao O (okp_s s_a0) (fun a3 s_a3 => ?_)
  refine q_bR (e_X10_workAt O R _ s_a3 _) (fun h1 gh1 o2 R p_o2 => ?_)
  refine q_bV (e_X10_checkPerson O R _) (fun h4 gh4 R => ?_)
  refine q_ao O p_o2 (fun a8 s_a8 => ?_)
  refine q_bI (e_X9_isOwnedBy O R _ s_a8 _) (fun h6 gh6 v7 R => ?_)
  refine q_ite (fun _ => ?_) (fun _ => ?_)
  · exact q_ex R
  · refine q_gI O R p_o2 (fun v9 => ?_)
    refine q_bI (e_X10_with O R _ _ _) (fun h10 gh10 v11 R => ?_)
    refine q_pI O R p_o2 (fun h12 gh12 R => ?_)
    refine q_gI O R p_o2 (fun v13 => ?_)
    refine q_bI (e_J6_bitCount_0f7a4 O R _) (fun h14 gh14 v15 R => ?_)
    exact q_ri R
theorem e_X10_lock {S : Nat × Nat → Bool} {ρ : Nat × Nat → Nat × Nat} (O : RhoOk S ρ)  {h g : am_H} (R : eqR S ρ h g) (a0 : Nat × Nat) (s_a0 : S a0 = true) (x1 : Int32) (x2 : Int32) : eqQ S ρ h g (f_X10_lock a0 x1 x2 h) (f_X10_lock (ρ a0) x1 x2 g) := by
  rw [f_X10_lock, f_X10_lock]
  refine q_ao O (okp_s s_a0) (fun a3 s_a3 => ?_)
  refine q_bR (e_X10_workAt O R _ s_a3 _) (fun h1 gh1 o2 R p_o2 => ?_)
  refine q_gI O R p_o2 (fun v4 => ?_)
  refine q_pZ O R p_o2 (fun h5 gh5 R => ?_)
  exact q_rz R
theorem e_X10_checkTag_15 {S : Nat × Nat → Bool} {ρ : Nat × Nat → Nat × Nat} (O : RhoOk S ρ)  {h g : am_H} (R : eqR S ρ h g)  : eqQ S ρ h g (f_X10_checkTag_15  h) (f_X10_checkTag_15  g) := by
  unfold f_X10_checkTag_15
  exact q_ex R
theorem e_X10_checkTag {S : Nat × Nat → Bool} {ρ : Nat × Nat → Nat × Nat} (O : RhoOk S ρ)  {h g : am_H} (R : eqR S ρ h g) (a0 : Nat × Nat) (s_a0 : S a0 = true) (x1 : Int32) : eqQ S ρ h g (f_X10_checkTag a0 x1 h) (f_X10_checkTag (ρ a0) x1 g) := by
  rw [f_X10_checkTag, f_X10_checkTag]
  refine q_ite (fun _ => ?_) (fun _ => ?_)
  · exact e_X10_checkTag_15 O R
  · refine q_gR O R (okp_s s_a0) (fun o1 p_o1 => ?_)
    refine q_gI O R p_o1 (fun v2 => ?_)
    refine q_ite (fun _ => ?_) (fun _ => ?_)
    · exact q_rtn R
    · exact e_X10_checkTag_15 O R
theorem e_X10_letTaggedWorksWait_37 {S : Nat × Nat → Bool} {ρ : Nat × Nat → Nat × Nat} (O : RhoOk S ρ) {rc2 : Nat × Nat → Int32 → am_H → am_R} (hrc2 : ∀ {h g : am_H} (_ : eqR S ρ h g) (y0 : Nat × Nat) (s_y0 : S y0 = true) (y1 : Int32), eqQ S ρ h g (rc2 y0 y1 h) (rc2 (ρ y0) y1 g)) {h g : am_H} (R : eqR S ρ h g) (a0 : Nat × Nat) (s_a0 : S a0 = true) (x1 : Int32) (s0 : Int32) (s1 : Option (Nat × Nat)) (p_s1 : okp S s1) : eqQ S ρ h g (f_X10_letTaggedWorksWait_37 rc2 a0 x1 s0 s1 h) (f_X10_letTaggedWorksWait_37 rc2 (ρ a0) x1 s0 (s1.map ρ) g) := by
  rw [f_X10_letTaggedWorksWait_37, f_X10_letTaggedWorksWait_37]
  refine q_pZ O R p_s1 (fun h6 gh6 R => ?_)
  exact hrc2 R _ s_a0 _
theorem e_X10_letTaggedWorksWait_32 {S : Nat × Nat → Bool} {ρ : Nat × Nat → Nat × Nat} (O : RhoOk S ρ) {rc2 : Nat × Nat → Int32 → am_H → am_R} (hrc2 : ∀ {h g : am_H} (_ : eqR S ρ h g) (y0 : Nat × Nat) (s_y0 : S y0 = true) (y1 : Int32), eqQ S ρ h g (rc2 y0 y1 h) (rc2 (ρ y0) y1 g)) {h g : am_H} (R : eqR S ρ h g) (a0 : Nat × Nat) (s_a0 : S a0 = true) (x1 : Int32) (s0 : Option (Nat × Nat)) (p_s0 : okp S s0) : eqQ S ρ h g (f_X10_letTaggedWorksWait_32 rc2 a0 x1 s0 h) (f_X10_letTaggedWorksWait_32 rc2 (ρ a0) x1 (s0.map ρ) g) := by
  rw [f_X10_letTaggedWorksWait_32, f_X10_letTaggedWorksWait_32]
  exact e_X10_letTaggedWorksWait_37 O hrc2 R _ s_a0 _ _ _ p_s0
theorem e_X10_letTaggedWorksWait_2 {S : Nat × Nat → Bool} {ρ : Nat × Nat → Nat × Nat} (O : RhoOk S ρ)  : ∀ (n : Nat) {h g : am_H} (_ : eqR S ρ h g) (a0 : Nat × Nat) (s_a0 : S a0 = true) (x1 : Int32), eqQ S ρ h g (f_X10_letTaggedWorksWait_2 n a0 x1 h) (f_X10_letTaggedWorksWait_2 n (ρ a0) x1 g) := by
  intro n
  induction n with
  | zero => intros; exact q_none
  | succ n ih =>
    intro h g R a0 s_a0 x1
    rw [f_X10_letTaggedWorksWait_2, f_X10_letTaggedWorksWait_2]
    refine q_gI O R (okp_s s_a0) (fun v1 => ?_)
    refine q_ite (fun _ => ?_) (fun _ => ?_)
    · exact q_rtn R
    · refine q_gR O R (okp_s s_a0) (fun o2 p_o2 => ?_)
      refine q_aR O R p_o2 (fun o3 p_o3 => ?_)
      refine q_gI O R p_o3 (fun v4 => ?_)
      refine q_ite (fun _ => ?_) (fun _ => ?_)
      · refine q_gI O R p_o3 (fun v5 => ?_)
        refine q_ite (fun _ => ?_) (fun _ => ?_)
        · exact e_X10_letTaggedWorksWait_37 O ih R _ s_a0 _ _ _ p_o3
        · exact e_X10_letTaggedWorksWait_32 O ih R _ s_a0 _ _ p_o3
      · exact e_X10_letTaggedWorksWait_32 O ih R _ s_a0 _ _ p_o3
theorem e_X10_letTaggedWorksWait {S : Nat × Nat → Bool} {ρ : Nat × Nat → Nat × Nat} (O : RhoOk S ρ)  {h g : am_H} (R : eqR S ρ h g) (a0 : Nat × Nat) (s_a0 : S a0 = true) : eqQ S ρ h g (f_X10_letTaggedWorksWait a0 h) (f_X10_letTaggedWorksWait (ρ a0) g) := by
  rw [f_X10_letTaggedWorksWait, f_X10_letTaggedWorksWait]
  exact e_X10_letTaggedWorksWait_2 O _ R _ s_a0 _
theorem e_X7_kindOf_27 {S : Nat × Nat → Bool} {ρ : Nat × Nat → Nat × Nat} (O : RhoOk S ρ)  {h g : am_H} (R : eqR S ρ h g) (s0 : Int32) : eqQ S ρ h g (f_X7_kindOf_27 s0 h) (f_X7_kindOf_27 s0 g) := by
  rw [f_X7_kindOf_27, f_X7_kindOf_27]
  exact q_ri R
theorem e_X7_kindOf {S : Nat × Nat → Bool} {ρ : Nat × Nat → Nat × Nat} (O : RhoOk S ρ)  {h g : am_H} (R : eqR S ρ h g) (a0 : Nat × Nat) (s_a0 : S a0 = true) (x1 : Int32) : eqQ S ρ h g (f_X7_kindOf a0 x1 h) (f_X7_kindOf (ρ a0) x1 g) := by
  rw [f_X7_kindOf, f_X7_kindOf]
  refine q_gR O R (okp_s s_a0) (fun o1 p_o1 => ?_)
  refine q_aI O R p_o1 (fun v2 => ?_)
  refine q_ite (fun _ => ?_) (fun _ => ?_)
  · exact q_ri R
  · refine q_gR O R (okp_s s_a0) (fun o3 p_o3 => ?_)
    refine q_aI O R p_o3 (fun v4 => ?_)
    refine q_ite (fun _ => ?_) (fun _ => ?_)
    · exact e_X7_kindOf_27 O R _
    · exact e_X7_kindOf_27 O R _
theorem e_X7_makeMain {S : Nat × Nat → Bool} {ρ : Nat × Nat → Nat × Nat} (O : RhoOk S ρ)  {h g : am_H} (R : eqR S ρ h g) (a0 : Nat × Nat) (s_a0 : S a0 = true) (x1 : Int32) : eqQ S ρ h g (f_X7_makeMain a0 x1 h) (f_X7_makeMain (ρ a0) x1 g) := by
  rw [f_X7_makeMain, f_X7_makeMain]
  refine q_gR O R (okp_s s_a0) (fun o1 p_o1 => ?_)
  refine q_sI O R p_o1 (fun h2 gh2 R => ?_)
  exact q_rtn R
theorem e_X10_make {S : Nat × Nat → Bool} {ρ : Nat × Nat → Nat × Nat} (O : RhoOk S ρ)  {h g : am_H} (R : eqR S ρ h g) (a0 : Nat × Nat) (s_a0 : S a0 = true) (x1 : Int32) : eqQ S ρ h g (f_X10_make a0 x1 h) (f_X10_make (ρ a0) x1 g) := by
  rw [f_X10_make, f_X10_make]
  refine q_ao O (okp_s s_a0) (fun a3 s_a3 => ?_)
  refine q_bV (e_X10_checkTag O R _ s_a3 _) (fun h1 gh1 R => ?_)
  refine q_gR O R (okp_s s_a0) (fun o4 p_o4 => ?_)
  refine q_ao O p_o4 (fun a7 s_a7 => ?_)
  refine q_bI (e_X7_kindOf O R _ s_a7 _) (fun h5 gh5 v6 R => ?_)
  refine q_ite (fun _ => ?_) (fun _ => ?_)
  · exact q_ex R
  · refine q_gR O R (okp_s s_a0) (fun o8 p_o8 => ?_)
    refine q_ao O p_o8 (fun a11 s_a11 => ?_)
    refine q_bV (e_X7_makeMain O R _ s_a11 _) (fun h9 gh9 R => ?_)
    refine q_ao O (okp_s s_a0) (fun a14 s_a14 => ?_)
    refine q_bV (e_X10_letTaggedWorksWait O R _ s_a14) (fun h12 gh12 R => ?_)
    exact q_ri R
theorem e_X7_isAbove {S : Nat × Nat → Bool} {ρ : Nat × Nat → Nat × Nat} (O : RhoOk S ρ)  {h g : am_H} (R : eqR S ρ h g) (a0 : Nat × Nat) (s_a0 : S a0 = true) (x1 : Int32) (x2 : Int32) : eqQ S ρ h g (f_X7_isAbove a0 x1 x2 h) (f_X7_isAbove (ρ a0) x1 x2 g) := by
  rw [f_X7_isAbove, f_X7_isAbove]
  refine q_gR O R (okp_s s_a0) (fun o1 p_o1 => ?_)
  refine q_aI O R p_o1 (fun v2 => ?_)
  refine q_bJ (e_X10_has O R _ _) (fun h3 gh3 v4 R => ?_)
  exact q_rz R
theorem e_X7_findAbove_63 {S : Nat × Nat → Bool} {ρ : Nat × Nat → Nat × Nat} (O : RhoOk S ρ) {rc17 : Nat × Nat → Int32 → am_H → am_R} (hrc17 : ∀ {h g : am_H} (_ : eqR S ρ h g) (y0 : Nat × Nat) (s_y0 : S y0 = true) (y1 : Int32), eqQ S ρ h g (rc17 y0 y1 h) (rc17 (ρ y0) y1 g)) {rc27 : Nat × Nat → Int32 → Int32 → am_H → am_R} (hrc27 : ∀ {h g : am_H} (_ : eqR S ρ h g) (y0 : Nat × Nat) (s_y0 : S y0 = true) (y1 : Int32) (y2 : Int32), eqQ S ρ h g (rc27 y0 y1 y2 h) (rc27 (ρ y0) y1 y2 g)) {h g : am_H} (R : eqR S ρ h g) (a0 : Nat × Nat) (s_a0 : S a0 = true) (x1 : Int32) (x2 : Int32) : eqQ S ρ h g (f_X7_findAbove_63 rc17 rc27 a0 x1 x2 h) (f_X7_findAbove_63 rc17 rc27 (ρ a0) x1 x2 g) := by
  rw [f_X7_findAbove_63, f_X7_findAbove_63]
  exact hrc27 R _ s_a0 _ _
theorem e_X7_findAbove_27 {S : Nat × Nat → Bool} {ρ : Nat × Nat → Nat × Nat} (O : RhoOk S ρ) {rc17 : Nat × Nat → Int32 → am_H → am_R} (hrc17 : ∀ {h g : am_H} (_ : eqR S ρ h g) (y0 : Nat × Nat) (s_y0 : S y0 = true) (y1 : Int32), eqQ S ρ h g (rc17 y0 y1 h) (rc17 (ρ y0) y1 g)) : ∀ (n : Nat) {h g : am_H} (_ : eqR S ρ h g) (a0 : Nat × Nat) (s_a0 : S a0 = true) (x1 : Int32) (x2 : Int32), eqQ S ρ h g (f_X7_findAbove_27 rc17 n a0 x1 x2 h) (f_X7_findAbove_27 rc17 n (ρ a0) x1 x2 g) := by
  intro n
  induction n with
  | zero => intros; exact q_none
  | succ n ih =>
    intro h g R a0 s_a0 x1 x2
    rw [f_X7_findAbove_27, f_X7_findAbove_27]
    refine q_gI O R (okp_s s_a0) (fun v5 => ?_)
    refine q_ite (fun _ => ?_) (fun _ => ?_)
    · exact hrc17 R _ s_a0 _
    · refine q_gR O R (okp_s s_a0) (fun o6 p_o6 => ?_)
      refine q_aI O R p_o6 (fun v7 => ?_)
      refine q_bJ (e_X10_has O R _ _) (fun h8 gh8 v9 R => ?_)
      refine q_ite (fun _ => ?_) (fun _ => ?_)
      · exact e_X7_findAbove_63 O hrc17 ih R _ s_a0 _ _
      · refine q_gR O R (okp_s s_a0) (fun o10 p_o10 => ?_)
        refine q_aI O R p_o10 (fun v11 => ?_)
        refine q_gR O R (okp_s s_a0) (fun o12 p_o12 => ?_)
        refine q_aI O R p_o12 (fun v13 => ?_)
        refine q_sI O R p_o10 (fun h14 gh14 R => ?_)
        exact e_X7_findAbove_63 O hrc17 ih R _ s_a0 _ _
theorem e_X7_findAbove_17 {S : Nat × Nat → Bool} {ρ : Nat × Nat → Nat × Nat} (O : RhoOk S ρ)  : ∀ (n : Nat) {h g : am_H} (_ : eqR S ρ h g) (a0 : Nat × Nat) (s_a0 : S a0 = true) (x1 : Int32), eqQ S ρ h g (f_X7_findAbove_17 n a0 x1 h) (f_X7_findAbove_17 n (ρ a0) x1 g) := by
  intro n
  induction n with
  | zero => intros; exact q_none
  | succ n ih =>
    intro h g R a0 s_a0 x1
    rw [f_X7_findAbove_17, f_X7_findAbove_17]
    refine q_gI O R (okp_s s_a0) (fun v4 => ?_)
    refine q_ite (fun _ => ?_) (fun _ => ?_)
    · exact q_rtn R
    · exact e_X7_findAbove_27 O ih _ R _ s_a0 _ _
theorem e_X7_findAbove {S : Nat × Nat → Bool} {ρ : Nat × Nat → Nat × Nat} (O : RhoOk S ρ)  {h g : am_H} (R : eqR S ρ h g) (a0 : Nat × Nat) (s_a0 : S a0 = true) : eqQ S ρ h g (f_X7_findAbove a0 h) (f_X7_findAbove (ρ a0) g) := by
  rw [f_X7_findAbove, f_X7_findAbove]
  refine q_gR O R (okp_s s_a0) (fun o1 p_o1 => ?_)
  refine q_gR O R (okp_s s_a0) (fun o2 p_o2 => ?_)
  refine q_cpy O R p_o1 p_o2 (fun h3 gh3 R => ?_)
  exact e_X7_findAbove_17 O _ R _ s_a0 _
theorem e_X7_makeAlias_62 {S : Nat × Nat → Bool} {ρ : Nat × Nat → Nat × Nat} (O : RhoOk S ρ) {rc2 : Nat × Nat → Int32 → Int32 → Int32 → am_H → am_R} (hrc2 : ∀ {h g : am_H} (_ : eqR S ρ h g) (y0 : Nat × Nat) (s_y0 : S y0 = true) (y1 : Int32) (y2 : Int32) (y3 : Int32), eqQ S ρ h g (rc2 y0 y1 y2 y3 h) (rc2 (ρ y0) y1 y2 y3 g)) {h g : am_H} (R : eqR S ρ h g) (a0 : Nat × Nat) (s_a0 : S a0 = true) (x1 : Int32) (x2 : Int32) (x3 : Int32) : eqQ S ρ h g (f_X7_makeAlias_62 rc2 a0 x1 x2 x3 h) (f_X7_makeAlias_62 rc2 (ρ a0) x1 x2 x3 g) := by
  rw [f_X7_makeAlias_62, f_X7_makeAlias_62]
  exact hrc2 R _ s_a0 _ _ _
theorem e_X7_makeAlias_27 {S : Nat × Nat → Bool} {ρ : Nat × Nat → Nat × Nat} (O : RhoOk S ρ) {rc2 : Nat × Nat → Int32 → Int32 → Int32 → am_H → am_R} (hrc2 : ∀ {h g : am_H} (_ : eqR S ρ h g) (y0 : Nat × Nat) (s_y0 : S y0 = true) (y1 : Int32) (y2 : Int32) (y3 : Int32), eqQ S ρ h g (rc2 y0 y1 y2 y3 h) (rc2 (ρ y0) y1 y2 y3 g)) {h g : am_H} (R : eqR S ρ h g) (a0 : Nat × Nat) (s_a0 : S a0 = true) (x1 : Int32) (x2 : Int32) (x3 : Int32) : eqQ S ρ h g (f_X7_makeAlias_27 rc2 a0 x1 x2 x3 h) (f_X7_makeAlias_27 rc2 (ρ a0) x1 x2 x3 g) := by
  rw [f_X7_makeAlias_27, f_X7_makeAlias_27]
  refine q_gR O R (okp_s s_a0) (fun o13 p_o13 => ?_)
  refine q_aI O R p_o13 (fun v14 => ?_)
  refine q_bJ (e_X10_has O R _ _) (fun h15 gh15 v16 R => ?_)
  refine q_ite (fun _ => ?_) (fun _ => ?_)
  · exact e_X7_makeAlias_62 O hrc2 R _ s_a0 _ _ _
  · refine q_gR O R (okp_s s_a0) (fun o17 p_o17 => ?_)
    refine q_gR O R (okp_s s_a0) (fun o18 p_o18 => ?_)
    refine q_aI O R p_o18 (fun v19 => ?_)
    refine q_bJ (e_X10_with O R _ _ _) (fun h20 gh20 v21 R => ?_)
    refine q_bJ (e_X10_with O R _ _ _) (fun h22 gh22 v23 R => ?_)
    refine q_sI O R p_o17 (fun h24 gh24 R => ?_)
    exact e_X7_makeAlias_62 O hrc2 R _ s_a0 _ _ _
theorem e_X7_makeAlias_2 {S : Nat × Nat → Bool} {ρ : Nat × Nat → Nat × Nat} (O : RhoOk S ρ)  : ∀ (n : Nat) {h g : am_H} (_ : eqR S ρ h g) (a0 : Nat × Nat) (s_a0 : S a0 = true) (x1 : Int32) (x2 : Int32) (x3 : Int32), eqQ S ρ h g (f_X7_makeAlias_2 n a0 x1 x2 x3 h) (f_X7_makeAlias_2 n (ρ a0) x1 x2 x3 g) := by
  intro n
  induction n with
  | zero => intros; exact q_none
  | succ n ih =>
    intro h g R a0 s_a0 x1 x2 x3
    rw [f_X7_makeAlias_2, f_X7_makeAlias_2]
    refine q_gI O R (okp_s s_a0) (fun v1 => ?_)
    refine q_ite (fun _ => ?_) (fun _ => ?_)
    · refine q_gR O R (okp_s s_a0) (fun o2 p_o2 => ?_)
      refine q_sI O R p_o2 (fun h3 gh3 R => ?_)
      refine q_gR O R (okp_s s_a0) (fun o4 p_o4 => ?_)
      refine q_sI O R p_o4 (fun h5 gh5 R => ?_)
      refine q_ao O (okp_s s_a0) (fun a8 s_a8 => ?_)
      refine q_bV (e_X7_findAbove O R _ s_a8) (fun h6 gh6 R => ?_)
      exact q_rtn R
    · refine q_gR O R (okp_s s_a0) (fun o9 p_o9 => ?_)
      refine q_aI O R p_o9 (fun v10 => ?_)
      refine q_ite (fun _ => ?_) (fun _ => ?_)
      · refine q_gR O R (okp_s s_a0) (fun o11 p_o11 => ?_)
        refine q_sI O R p_o11 (fun h12 gh12 R => ?_)
        exact e_X7_makeAlias_27 O ih R _ s_a0 _ _ _
      · exact e_X7_makeAlias_27 O ih R _ s_a0 _ _ _
theorem e_X7_makeAlias {S : Nat × Nat → Bool} {ρ : Nat × Nat → Nat × Nat} (O : RhoOk S ρ)  {h g : am_H} (R : eqR S ρ h g) (a0 : Nat × Nat) (s_a0 : S a0 = true) (x1 : Int32) (x2 : Int32) : eqQ S ρ h g (f_X7_makeAlias a0 x1 x2 h) (f_X7_makeAlias (ρ a0) x1 x2 g) := by
  rw [f_X7_makeAlias, f_X7_makeAlias]
  exact e_X7_makeAlias_2 O _ R _ s_a0 _ _ _
theorem e_X10_merge_70 {S : Nat × Nat → Bool} {ρ : Nat × Nat → Nat × Nat} (O : RhoOk S ρ)  {h g : am_H} (R : eqR S ρ h g)  : eqQ S ρ h g (f_X10_merge_70  h) (f_X10_merge_70  g) := by
  unfold f_X10_merge_70
  exact q_ex R
theorem e_X10_merge {S : Nat × Nat → Bool} {ρ : Nat × Nat → Nat × Nat} (O : RhoOk S ρ)  {h g : am_H} (R : eqR S ρ h g) (a0 : Nat × Nat) (s_a0 : S a0 = true) (x1 : Int32) (x2 : Int32) : eqQ S ρ h g (f_X10_merge a0 x1 x2 h) (f_X10_merge (ρ a0) x1 x2 g) := by
  rw [f_X10_merge, f_X10_merge]
  refine q_ao O (okp_s s_a0) (fun a3 s_a3 => ?_)
  refine q_bV (e_X10_checkTag O R _ s_a3 _) (fun h1 gh1 R => ?_)
  refine q_ao O (okp_s s_a0) (fun a6 s_a6 => ?_)
  refine q_bV (e_X10_checkTag O R _ s_a6 _) (fun h4 gh4 R => ?_)
  refine q_ite (fun _ => ?_) (fun _ => ?_)
  · exact q_ex R
  · refine q_gR O R (okp_s s_a0) (fun o7 p_o7 => ?_)
    refine q_ao O p_o7 (fun a10 s_a10 => ?_)
    refine q_bI (e_X7_kindOf O R _ s_a10 _) (fun h8 gh8 v9 R => ?_)
    refine q_gR O R (okp_s s_a0) (fun o11 p_o11 => ?_)
    refine q_ao O p_o11 (fun a14 s_a14 => ?_)
    refine q_bI (e_X7_kindOf O R _ s_a14 _) (fun h12 gh12 v13 R => ?_)
    refine q_ite (fun _ => ?_) (fun _ => ?_)
    · refine q_gR O R (okp_s s_a0) (fun o15 p_o15 => ?_)
      refine q_ao O p_o15 (fun a18 s_a18 => ?_)
      refine q_bI (e_X7_isAbove O R _ s_a18 _ _) (fun h16 gh16 v17 R => ?_)
      refine q_ite (fun _ => ?_) (fun _ => ?_)
      · refine q_gR O R (okp_s s_a0) (fun o19 p_o19 => ?_)
        refine q_ao O p_o19 (fun a22 s_a22 => ?_)
        refine q_bI (e_X7_isAbove O R _ s_a22 _ _) (fun h20 gh20 v21 R => ?_)
        refine q_ite (fun _ => ?_) (fun _ => ?_)
        · refine q_gR O R (okp_s s_a0) (fun o23 p_o23 => ?_)
          refine q_ao O p_o23 (fun a26 s_a26 => ?_)
          refine q_bV (e_X7_makeAlias O R _ s_a26 _ _) (fun h24 gh24 R => ?_)
          refine q_ao O (okp_s s_a0) (fun a29 s_a29 => ?_)
          refine q_bV (e_X10_letTaggedWorksWait O R _ s_a29) (fun h27 gh27 R => ?_)
          exact q_ri R
        · exact e_X10_merge_70 O R
      · exact e_X10_merge_70 O R
    · exact e_X10_merge_70 O R
theorem e_X10_checkFace_10 {S : Nat × Nat → Bool} {ρ : Nat × Nat → Nat × Nat} (O : RhoOk S ρ)  {h g : am_H} (R : eqR S ρ h g)  : eqQ S ρ h g (f_X10_checkFace_10  h) (f_X10_checkFace_10  g) := by
  unfold f_X10_checkFace_10
  exact q_ex R
theorem e_X10_checkFace {S : Nat × Nat → Bool} {ρ : Nat × Nat → Nat × Nat} (O : RhoOk S ρ)  {h g : am_H} (R : eqR S ρ h g) (x0 : Int32) : eqQ S ρ h g (f_X10_checkFace x0 h) (f_X10_checkFace x0 g) := by
  rw [f_X10_checkFace, f_X10_checkFace]
  refine q_ite (fun _ => ?_) (fun _ => ?_)
  · exact e_X10_checkFace_10 O R
  · refine q_ite (fun _ => ?_) (fun _ => ?_)
    · exact q_rtn R
    · exact e_X10_checkFace_10 O R
theorem e_X9_isPosted_13 {S : Nat × Nat → Bool} {ρ : Nat × Nat → Nat × Nat} (O : RhoOk S ρ)  {h g : am_H} (R : eqR S ρ h g) (s0 : Int32) : eqQ S ρ h g (f_X9_isPosted_13 s0 h) (f_X9_isPosted_13 s0 g) := by
  rw [f_X9_isPosted_13, f_X9_isPosted_13]
  exact q_rz R
theorem e_X9_isPosted {S : Nat × Nat → Bool} {ρ : Nat × Nat → Nat × Nat} (O : RhoOk S ρ)  {h g : am_H} (R : eqR S ρ h g) (a0 : Nat × Nat) (s_a0 : S a0 = true) : eqQ S ρ h g (f_X9_isPosted a0 h) (f_X9_isPosted (ρ a0) g) := by
  rw [f_X9_isPosted, f_X9_isPosted]
  refine q_gI O R (okp_s s_a0) (fun v1 => ?_)
  refine q_ite (fun _ => ?_) (fun _ => ?_)
  · exact e_X9_isPosted_13 O R _
  · exact e_X9_isPosted_13 O R _
theorem e_X9_isSeenBy_63 {S : Nat × Nat → Bool} {ρ : Nat × Nat → Nat × Nat} (O : RhoOk S ρ)  {h g : am_H} (R : eqR S ρ h g) (s0 : Int32) : eqQ S ρ h g (f_X9_isSeenBy_63 s0 h) (f_X9_isSeenBy_63 s0 g) := by
  rw [f_X9_isSeenBy_63, f_X9_isSeenBy_63]
  exact q_rz R
theorem e_X9_isSeenBy_62 {S : Nat × Nat → Bool} {ρ : Nat × Nat → Nat × Nat} (O : RhoOk S ρ)  {h g : am_H} (R : eqR S ρ h g)  : eqQ S ρ h g (f_X9_isSeenBy_62  h) (f_X9_isSeenBy_62  g) := by
  unfold f_X9_isSeenBy_62
  exact e_X9_isSeenBy_63 O R _
theorem e_X9_isSeenBy_58 {S : Nat × Nat → Bool} {ρ : Nat × Nat → Nat × Nat} (O : RhoOk S ρ)  {h g : am_H} (R : eqR S ρ h g)  : eqQ S ρ h g (f_X9_isSeenBy_58  h) (f_X9_isSeenBy_58  g) := by
  unfold f_X9_isSeenBy_58
  exact e_X9_isSeenBy_63 O R _
theorem e_X9_isSeenBy_33 {S : Nat × Nat → Bool} {ρ : Nat × Nat → Nat × Nat} (O : RhoOk S ρ)  {h g : am_H} (R : eqR S ρ h g) (a0 : Nat × Nat) (s_a0 : S a0 = true) (x1 : Int32) (s0 : Int32) : eqQ S ρ h g (f_X9_isSeenBy_33 a0 x1 s0 h) (f_X9_isSeenBy_33 (ρ a0) x1 s0 g) := by
  rw [f_X9_isSeenBy_33, f_X9_isSeenBy_33]
  refine q_ao O (okp_s s_a0) (fun a9 s_a9 => ?_)
  refine q_bI (e_X9_isPosted O R _ s_a9) (fun h7 gh7 v8 R => ?_)
  refine q_ite (fun _ => ?_) (fun _ => ?_)
  · exact e_X9_isSeenBy_62 O R
  · refine q_ite (fun _ => ?_) (fun _ => ?_)
    · exact e_X9_isSeenBy_62 O R
    · refine q_gI O R (okp_s s_a0) (fun v10 => ?_)
      refine q_ite (fun _ => ?_) (fun _ => ?_)
      · exact e_X9_isSeenBy_58 O R
      · refine q_ite (fun _ => ?_) (fun _ => ?_)
        · exact e_X9_isSeenBy_62 O R
        · exact e_X9_isSeenBy_58 O R
theorem e_X9_isSeenBy_28 {S : Nat × Nat → Bool} {ρ : Nat × Nat → Nat × Nat} (O : RhoOk S ρ)  {h g : am_H} (R : eqR S ρ h g) (a0 : Nat × Nat) (s_a0 : S a0 = true) (x1 : Int32) : eqQ S ρ h g (f_X9_isSeenBy_28 a0 x1 h) (f_X9_isSeenBy_28 (ρ a0) x1 g) := by
  rw [f_X9_isSeenBy_28, f_X9_isSeenBy_28]
  exact e_X9_isSeenBy_33 O R _ s_a0 _ _
theorem e_X9_isSeenBy {S : Nat × Nat → Bool} {ρ : Nat × Nat → Nat × Nat} (O : RhoOk S ρ)  {h g : am_H} (R : eqR S ρ h g) (a0 : Nat × Nat) (s_a0 : S a0 = true) (x1 : Int32) (x2 : Int32) : eqQ S ρ h g (f_X9_isSeenBy a0 x1 x2 h) (f_X9_isSeenBy (ρ a0) x1 x2 g) := by
  rw [f_X9_isSeenBy, f_X9_isSeenBy]
  refine q_ao O (okp_s s_a0) (fun a3 s_a3 => ?_)
  refine q_bI (e_X9_isOwnedBy O R _ s_a3 _) (fun h1 gh1 v2 R => ?_)
  refine q_ite (fun _ => ?_) (fun _ => ?_)
  · refine q_gR O R (okp_s s_a0) (fun o4 p_o4 => ?_)
    refine q_itN ?_ ?_
    · exact e_X9_isSeenBy_28 O R _ s_a0 _
    · refine q_gR O R (okp_s s_a0) (fun o5 p_o5 => ?_)
      refine q_gI O R p_o5 (fun v6 => ?_)
      refine q_ite (fun _ => ?_) (fun _ => ?_)
      · exact e_X9_isSeenBy_33 O R _ s_a0 _ _
      · exact e_X9_isSeenBy_28 O R _ s_a0 _
  · exact q_rz R
theorem e_X9_ownersToldTo_53 {S : Nat × Nat → Bool} {ρ : Nat × Nat → Nat × Nat} (O : RhoOk S ρ)  {h g : am_H} (R : eqR S ρ h g) (s0 : Int32) : eqQ S ρ h g (f_X9_ownersToldTo_53 s0 h) (f_X9_ownersToldTo_53 s0 g) := by
  rw [f_X9_ownersToldTo_53, f_X9_ownersToldTo_53]
  exact q_ri R
theorem e_X9_ownersToldTo_52 {S : Nat × Nat → Bool} {ρ : Nat × Nat → Nat × Nat} (O : RhoOk S ρ)  {h g : am_H} (R : eqR S ρ h g)  : eqQ S ρ h g (f_X9_ownersToldTo_52  h) (f_X9_ownersToldTo_52  g) := by
  unfold f_X9_ownersToldTo_52
  exact e_X9_ownersToldTo_53 O R _
theorem e_X9_ownersToldTo_45 {S : Nat × Nat → Bool} {ρ : Nat × Nat → Nat × Nat} (O : RhoOk S ρ)  {h g : am_H} (R : eqR S ρ h g) (a0 : Nat × Nat) (s_a0 : S a0 = true) : eqQ S ρ h g (f_X9_ownersToldTo_45 a0 h) (f_X9_ownersToldTo_45 (ρ a0) g) := by
  rw [f_X9_ownersToldTo_45, f_X9_ownersToldTo_45]
  refine q_gI O R (okp_s s_a0) (fun v10 => ?_)
  exact e_X9_ownersToldTo_53 O R _
theorem e_X9_ownersToldTo_23 {S : Nat × Nat → Bool} {ρ : Nat × Nat → Nat × Nat} (O : RhoOk S ρ)  {h g : am_H} (R : eqR S ρ h g) (a0 : Nat × Nat) (s_a0 : S a0 = true) (x1 : Int32) (x2 : Int32) (s0 : Int32) : eqQ S ρ h g (f_X9_ownersToldTo_23 a0 x1 x2 s0 h) (f_X9_ownersToldTo_23 (ρ a0) x1 x2 s0 g) := by
  rw [f_X9_ownersToldTo_23, f_X9_ownersToldTo_23]
  refine q_ao O (okp_s s_a0) (fun a6 s_a6 => ?_)
  refine q_bI (e_X9_isSeenBy O R _ s_a6 _ _) (fun h4 gh4 v5 R => ?_)
  refine q_ite (fun _ => ?_) (fun _ => ?_)
  · exact e_X9_ownersToldTo_52 O R
  · refine q_ao O (okp_s s_a0) (fun a9 s_a9 => ?_)
    refine q_bI (e_X9_isOwnedBy O R _ s_a9 _) (fun h7 gh7 v8 R => ?_)
    refine q_ite (fun _ => ?_) (fun _ => ?_)
    · refine q_ite (fun _ => ?_) (fun _ => ?_)
      · exact e_X9_ownersToldTo_52 O R
      · exact e_X9_ownersToldTo_45 O R _ s_a0
    · exact e_X9_ownersToldTo_45 O R _ s_a0
theorem e_X9_ownersToldTo_18 {S : Nat × Nat → Bool} {ρ : Nat × Nat → Nat × Nat} (O : RhoOk S ρ)  {h g : am_H} (R : eqR S ρ h g) (a0 : Nat × Nat) (s_a0 : S a0 = true) (x1 : Int32) (x2 : Int32) : eqQ S ρ h g (f_X9_ownersToldTo_18 a0 x1 x2 h) (f_X9_ownersToldTo_18 (ρ a0) x1 x2 g) := by
  rw [f_X9_ownersToldTo_18, f_X9_ownersToldTo_18]
  exact e_X9_ownersToldTo_23 O R _ s_a0 _ _ _
theorem e_X9_ownersToldTo {S : Nat × Nat → Bool} {ρ : Nat × Nat → Nat × Nat} (O : RhoOk S ρ)  {h g : am_H} (R : eqR S ρ h g) (a0 : Nat × Nat) (s_a0 : S a0 = true) (x1 : Int32) (x2 : Int32) : eqQ S ρ h g (f_X9_ownersToldTo a0 x1 x2 h) (f_X9_ownersToldTo (ρ a0) x1 x2 g) := by
  rw [f_X9_ownersToldTo, f_X9_ownersToldTo]
  refine q_gR O R (okp_s s_a0) (fun o1 p_o1 => ?_)
  refine q_itN ?_ ?_
  · exact e_X9_ownersToldTo_18 O R _ s_a0 _ _
  · refine q_gR O R (okp_s s_a0) (fun o2 p_o2 => ?_)
    refine q_gI O R p_o2 (fun v3 => ?_)
    refine q_ite (fun _ => ?_) (fun _ => ?_)
    · exact e_X9_ownersToldTo_23 O R _ s_a0 _ _ _
    · exact e_X9_ownersToldTo_18 O R _ s_a0 _ _
theorem e_X10_owners {S : Nat × Nat → Bool} {ρ : Nat × Nat → Nat × Nat} (O : RhoOk S ρ)  {h g : am_H} (R : eqR S ρ h g) (a0 : Nat × Nat) (s_a0 : S a0 = true) (x1 : Int32) (x2 : Int32) : eqQ S ρ h g (f_X10_owners a0 x1 x2 h) (f_X10_owners (ρ a0) x1 x2 g) := by
  rw [f_X10_owners, f_X10_owners]
  refine q_bV (e_X10_checkFace O R _) (fun h1 gh1 R => ?_)
  refine q_ao O (okp_s s_a0) (fun a5 s_a5 => ?_)
  refine q_bR (e_X10_workAt O R _ s_a5 _) (fun h3 gh3 o4 R p_o4 => ?_)
  refine q_gI O R (okp_s s_a0) (fun v6 => ?_)
  refine q_ao O p_o4 (fun a9 s_a9 => ?_)
  refine q_bI (e_X9_ownersToldTo O R _ s_a9 _ _) (fun h7 gh7 v8 R => ?_)
  exact q_ri R
theorem e_X7_isParent {S : Nat × Nat → Bool} {ρ : Nat × Nat → Nat × Nat} (O : RhoOk S ρ)  {h g : am_H} (R : eqR S ρ h g) (a0 : Nat × Nat) (s_a0 : S a0 = true) (x1 : Int32) (x2 : Int32) : eqQ S ρ h g (f_X7_isParent a0 x1 x2 h) (f_X7_isParent (ρ a0) x1 x2 g) := by
  rw [f_X7_isParent, f_X7_isParent]
  refine q_gR O R (okp_s s_a0) (fun o1 p_o1 => ?_)
  refine q_aI O R p_o1 (fun v2 => ?_)
  refine q_bJ (e_X10_has O R _ _) (fun h3 gh3 v4 R => ?_)
  exact q_rz R
theorem e_X7_setParent {S : Nat × Nat → Bool} {ρ : Nat × Nat → Nat × Nat} (O : RhoOk S ρ)  {h g : am_H} (R : eqR S ρ h g) (a0 : Nat × Nat) (s_a0 : S a0 = true) (x1 : Int32) (x2 : Int32) (x3 : Int32) : eqQ S ρ h g (f_X7_setParent a0 x1 x2 x3 h) (f_X7_setParent (ρ a0) x1 x2 x3 g) := by
  rw [f_X7_setParent, f_X7_setParent]
  refine q_gR O R (okp_s s_a0) (fun o1 p_o1 => ?_)
  refine q_gR O R (okp_s s_a0) (fun o2 p_o2 => ?_)
  refine q_aI O R p_o2 (fun v3 => ?_)
  refine q_bJ (e_X10_with O R _ _ _) (fun h4 gh4 v5 R => ?_)
  refine q_sI O R p_o1 (fun h6 gh6 R => ?_)
  refine q_ao O (okp_s s_a0) (fun a9 s_a9 => ?_)
  refine q_bV (e_X7_findAbove O R _ s_a9) (fun h7 gh7 R => ?_)
  exact q_rtn R
theorem e_X10_parent_106 {S : Nat × Nat → Bool} {ρ : Nat × Nat → Nat × Nat} (O : RhoOk S ρ)  {h g : am_H} (R : eqR S ρ h g) (x4 : Int32) : eqQ S ρ h g (f_X10_parent_106 x4 h) (f_X10_parent_106 x4 g) := by
  rw [f_X10_parent_106, f_X10_parent_106]
  exact q_rz R
theorem e_X10_parent_75 {S : Nat × Nat → Bool} {ρ : Nat × Nat → Nat × Nat} (O : RhoOk S ρ)  {h g : am_H} (R : eqR S ρ h g) (a0 : Nat × Nat) (s_a0 : S a0 = true) (x1 : Int32) (x2 : Int32) (x3 : Int32) : eqQ S ρ h g (f_X10_parent_75 a0 x1 x2 x3 h) (f_X10_parent_75 (ρ a0) x1 x2 x3 g) := by
  rw [f_X10_parent_75, f_X10_parent_75]
  refine q_gR O R (okp_s s_a0) (fun o19 p_o19 => ?_)
  refine q_ao O p_o19 (fun a22 s_a22 => ?_)
  refine q_bI (e_X7_isParent O R _ s_a22 _ _) (fun h20 gh20 v21 R => ?_)
  refine q_ite (fun _ => ?_) (fun _ => ?_)
  · exact e_X10_parent_106 O R _
  · refine q_gR O R (okp_s s_a0) (fun o23 p_o23 => ?_)
    refine q_ao O p_o23 (fun a26 s_a26 => ?_)
    refine q_bV (e_X7_setParent O R _ s_a26 _ _ _) (fun h24 gh24 R => ?_)
    refine q_ao O (okp_s s_a0) (fun a29 s_a29 => ?_)
    refine q_bV (e_X10_letTaggedWorksWait O R _ s_a29) (fun h27 gh27 R => ?_)
    exact e_X10_parent_106 O R _
theorem e_X10_parent_65 {S : Nat × Nat → Bool} {ρ : Nat × Nat → Nat × Nat} (O : RhoOk S ρ)  {h g : am_H} (R : eqR S ρ h g)  : eqQ S ρ h g (f_X10_parent_65  h) (f_X10_parent_65  g) := by
  unfold f_X10_parent_65
  exact q_ex R
theorem e_X10_parent {S : Nat × Nat → Bool} {ρ : Nat × Nat → Nat × Nat} (O : RhoOk S ρ)  {h g : am_H} (R : eqR S ρ h g) (a0 : Nat × Nat) (s_a0 : S a0 = true) (x1 : Int32) (x2 : Int32) (x3 : Int32) : eqQ S ρ h g (f_X10_parent a0 x1 x2 x3 h) (f_X10_parent (ρ a0) x1 x2 x3 g) := by
  rw [f_X10_parent, f_X10_parent]
  refine q_ao O (okp_s s_a0) (fun a3 s_a3 => ?_)
  refine q_bV (e_X10_checkTag O R _ s_a3 _) (fun h1 gh1 R => ?_)
  refine q_ao O (okp_s s_a0) (fun a6 s_a6 => ?_)
  refine q_bV (e_X10_checkTag O R _ s_a6 _) (fun h4 gh4 R => ?_)
  refine q_ite (fun _ => ?_) (fun _ => ?_)
  · exact q_ex R
  · refine q_gR O R (okp_s s_a0) (fun o7 p_o7 => ?_)
    refine q_ao O p_o7 (fun a10 s_a10 => ?_)
    refine q_bI (e_X7_kindOf O R _ s_a10 _) (fun h8 gh8 v9 R => ?_)
    refine q_ite (fun _ => ?_) (fun _ => ?_)
    · refine q_gR O R (okp_s s_a0) (fun o11 p_o11 => ?_)
      refine q_ao O p_o11 (fun a14 s_a14 => ?_)
      refine q_bI (e_X7_kindOf O R _ s_a14 _) (fun h12 gh12 v13 R => ?_)
      refine q_ite (fun _ => ?_) (fun _ => ?_)
      · refine q_ite (fun _ => ?_) (fun _ => ?_)
        · exact e_X10_parent_75 O R _ s_a0 _ _ _
        · refine q_gR O R (okp_s s_a0) (fun o15 p_o15 => ?_)
          refine q_ao O p_o15 (fun a18 s_a18 => ?_)
          refine q_bI (e_X7_isAbove O R _ s_a18 _ _) (fun h16 gh16 v17 R => ?_)
          refine q_ite (fun _ => ?_) (fun _ => ?_)
          · exact e_X10_parent_75 O R _ s_a0 _ _ _
          · exact e_X10_parent_65 O R
      · exact e_X10_parent_65 O R
    · exact e_X10_parent_65 O R
theorem e_X10_pass_11 {S : Nat × Nat → Bool} {ρ : Nat × Nat → Nat × Nat} (O : RhoOk S ρ)  {h g : am_H} (R : eqR S ρ h g)  : eqQ S ρ h g (f_X10_pass_11  h) (f_X10_pass_11  g) := by
  unfold f_X10_pass_11
  exact q_ex R
theorem e_X10_pass {S : Nat × Nat → Bool} {ρ : Nat × Nat → Nat × Nat} (O : RhoOk S ρ)  {h g : am_H} (R : eqR S ρ h g) (a0 : Nat × Nat) (s_a0 : S a0 = true) (x1 : Int32) : eqQ S ρ h g (f_X10_pass a0 x1 h) (f_X10_pass (ρ a0) x1 g) := by
  rw [f_X10_pass, f_X10_pass]
  refine q_ite (fun _ => ?_) (fun _ => ?_)
  · exact e_X10_pass_11 O R
  · refine q_ite (fun _ => ?_) (fun _ => ?_)
    · refine q_gI O R (okp_s s_a0) (fun v1 => ?_)
      refine q_ite (fun _ => ?_) (fun _ => ?_)
      · refine q_gI O R (okp_s s_a0) (fun v2 => ?_)
        refine q_pI O R (okp_s s_a0) (fun h3 gh3 R => ?_)
        refine q_gI O R (okp_s s_a0) (fun v4 => ?_)
        exact q_ri R
      · exact q_ex R
    · exact e_X10_pass_11 O R
theorem e_X10_post_20 {S : Nat × Nat → Bool} {ρ : Nat × Nat → Nat × Nat} (O : RhoOk S ρ)  {h g : am_H} (R : eqR S ρ h g)  : eqQ S ρ h g (f_X10_post_20  h) (f_X10_post_20  g) := by
  unfold f_X10_post_20
  exact q_ex R
theorem e_X10_post {S : Nat × Nat → Bool} {ρ : Nat × Nat → Nat × Nat} (O : RhoOk S ρ)  {h g : am_H} (R : eqR S ρ h g) (a0 : Nat × Nat) (s_a0 : S a0 = true) (x1 : Int32) : eqQ S ρ h g (f_X10_post a0 x1 h) (f_X10_post (ρ a0) x1 g) := by
  rw [f_X10_post, f_X10_post]
  refine q_ao O (okp_s s_a0) (fun a3 s_a3 => ?_)
  refine q_bR (e_X10_workAt O R _ s_a3 _) (fun h1 gh1 o2 R p_o2 => ?_)
  refine q_ao O p_o2 (fun a6 s_a6 => ?_)
  refine q_bI (e_X9_isPosted O R _ s_a6) (fun h4 gh4 v5 R => ?_)
  refine q_ite (fun _ => ?_) (fun _ => ?_)
  · refine q_gI O R p_o2 (fun v7 => ?_)
    refine q_ite (fun _ => ?_) (fun _ => ?_)
    · exact e_X10_post_20 O R
    · refine q_gI O R (okp_s s_a0) (fun v8 => ?_)
      refine q_pI O R p_o2 (fun h9 gh9 R => ?_)
      refine q_gI O R p_o2 (fun v10 => ?_)
      exact q_ri R
  · exact e_X10_post_20 O R
theorem e_X10_same_78 {S : Nat × Nat → Bool} {ρ : Nat × Nat → Nat × Nat} (O : RhoOk S ρ)  {h g : am_H} (R : eqR S ρ h g) (s0 : Int32) : eqQ S ρ h g (f_X10_same_78 s0 h) (f_X10_same_78 s0 g) := by
  rw [f_X10_same_78, f_X10_same_78]
  exact q_rz R
theorem e_X10_same_63 {S : Nat × Nat → Bool} {ρ : Nat × Nat → Nat × Nat} (O : RhoOk S ρ) {rc37 : Nat × Nat → Int32 → Int32 → Int32 → am_H → am_R} (hrc37 : ∀ {h g : am_H} (_ : eqR S ρ h g) (y0 : Nat × Nat) (s_y0 : S y0 = true) (y1 : Int32) (y2 : Int32) (y3 : Int32), eqQ S ρ h g (rc37 y0 y1 y2 y3 h) (rc37 (ρ y0) y1 y2 y3 g)) {h g : am_H} (R : eqR S ρ h g) (a0 : Nat × Nat) (s_a0 : S a0 = true) (x3 : Int32) (x4 : Int32) (x5 : Int32) : eqQ S ρ h g (f_X10_same_63 rc37 a0 x3 x4 x5 h) (f_X10_same_63 rc37 (ρ a0) x3 x4 x5 g) := by
  rw [f_X10_same_63, f_X10_same_63]
  exact hrc37 R _ s_a0 _ _ _
theorem e_X10_same_37 {S : Nat × Nat → Bool} {ρ : Nat × Nat → Nat × Nat} (O : RhoOk S ρ)  : ∀ (n : Nat) {h g : am_H} (_ : eqR S ρ h g) (a0 : Nat × Nat) (s_a0 : S a0 = true) (x3 : Int32) (x4 : Int32) (x5 : Int32), eqQ S ρ h g (f_X10_same_37 n a0 x3 x4 x5 h) (f_X10_same_37 n (ρ a0) x3 x4 x5 g) := by
  intro n
  induction n with
  | zero => intros; exact q_none
  | succ n ih =>
    intro h g R a0 s_a0 x3 x4 x5
    rw [f_X10_same_37, f_X10_same_37]
    refine q_ite (fun _ => ?_) (fun _ => ?_)
    · refine q_ite (fun _ => ?_) (fun _ => ?_)
      · exact e_X10_same_78 O R _
      · exact e_X10_same_78 O R _
    · refine q_bI (e_X10_has O R _ _) (fun h13 gh13 v14 R => ?_)
      refine q_ite (fun _ => ?_) (fun _ => ?_)
      · exact e_X10_same_63 O ih R _ s_a0 _ _ _
      · refine q_gR O R (okp_s s_a0) (fun o15 p_o15 => ?_)
        refine q_sI O R p_o15 (fun h16 gh16 R => ?_)
        exact e_X10_same_63 O ih R _ s_a0 _ _ _
theorem e_X10_same {S : Nat × Nat → Bool} {ρ : Nat × Nat → Nat × Nat} (O : RhoOk S ρ)  {h g : am_H} (R : eqR S ρ h g) (a0 : Nat × Nat) (s_a0 : S a0 = true) (x1 : Int32) (x2 : Int32) : eqQ S ρ h g (f_X10_same a0 x1 x2 h) (f_X10_same (ρ a0) x1 x2 g) := by
  rw [f_X10_same, f_X10_same]
  refine q_bV (e_X10_checkFace O R _) (fun h1 gh1 R => ?_)
  refine q_bV (e_X10_checkFace O R _) (fun h3 gh3 R => ?_)
  refine q_gR O R (okp_s s_a0) (fun o5 p_o5 => ?_)
  refine q_aI O R p_o5 (fun v6 => ?_)
  refine q_bI (e_X10_has O R _ _) (fun h7 gh7 v8 R => ?_)
  refine q_gR O R (okp_s s_a0) (fun o9 p_o9 => ?_)
  refine q_aI O R p_o9 (fun v10 => ?_)
  refine q_gR O R (okp_s s_a0) (fun o11 p_o11 => ?_)
  refine q_aI O R p_o11 (fun v12 => ?_)
  exact e_X10_same_37 O _ R _ s_a0 _ _ _
theorem e_X10_sees {S : Nat × Nat → Bool} {ρ : Nat × Nat → Nat × Nat} (O : RhoOk S ρ)  {h g : am_H} (R : eqR S ρ h g) (a0 : Nat × Nat) (s_a0 : S a0 = true) (x1 : Int32) (x2 : Int32) : eqQ S ρ h g (f_X10_sees a0 x1 x2 h) (f_X10_sees (ρ a0) x1 x2 g) := by
  rw [f_X10_sees, f_X10_sees]
  refine q_bV (e_X10_checkFace O R _) (fun h1 gh1 R => ?_)
  refine q_ao O (okp_s s_a0) (fun a5 s_a5 => ?_)
  refine q_bR (e_X10_workAt O R _ s_a5 _) (fun h3 gh3 o4 R p_o4 => ?_)
  refine q_gI O R (okp_s s_a0) (fun v6 => ?_)
  refine q_ao O p_o4 (fun a9 s_a9 => ?_)
  refine q_bI (e_X9_isSeenBy O R _ s_a9 _ _) (fun h7 gh7 v8 R => ?_)
  exact q_rz R
theorem e_X7_add {S : Nat × Nat → Bool} {ρ : Nat × Nat → Nat × Nat} (O : RhoOk S ρ)  {h g : am_H} (R : eqR S ρ h g) (a0 : Nat × Nat) (s_a0 : S a0 = true) : eqQ S ρ h g (f_X7_add a0 h) (f_X7_add (ρ a0) g) := by
  rw [f_X7_add, f_X7_add]
  refine q_gR O R (okp_s s_a0) (fun o1 p_o1 => ?_)
  refine q_gI O R (okp_s s_a0) (fun v2 => ?_)
  refine q_sI O R p_o1 (fun h3 gh3 R => ?_)
  refine q_gI O R (okp_s s_a0) (fun v4 => ?_)
  refine q_pI O R (okp_s s_a0) (fun h5 gh5 R => ?_)
  refine q_gI O R (okp_s s_a0) (fun v6 => ?_)
  exact q_ri R
theorem e_X10_tag {S : Nat × Nat → Bool} {ρ : Nat × Nat → Nat × Nat} (O : RhoOk S ρ)  {h g : am_H} (R : eqR S ρ h g) (a0 : Nat × Nat) (s_a0 : S a0 = true) : eqQ S ρ h g (f_X10_tag a0 h) (f_X10_tag (ρ a0) g) := by
  rw [f_X10_tag, f_X10_tag]
  refine q_gR O R (okp_s s_a0) (fun o1 p_o1 => ?_)
  refine q_gI O R p_o1 (fun v2 => ?_)
  refine q_ite (fun _ => ?_) (fun _ => ?_)
  · refine q_gR O R (okp_s s_a0) (fun o3 p_o3 => ?_)
    refine q_ao O p_o3 (fun a6 s_a6 => ?_)
    refine q_bI (e_X7_add O R _ s_a6) (fun h4 gh4 v5 R => ?_)
    exact q_ri R
  · exact q_ex R
theorem e_X10_work_13 {S : Nat × Nat → Bool} {ρ : Nat × Nat → Nat × Nat} (O : RhoOk S ρ)  {h g : am_H} (R : eqR S ρ h g)  : eqQ S ρ h g (f_X10_work_13  h) (f_X10_work_13  g) := by
  unfold f_X10_work_13
  exact q_ex R
theorem e_X7_belongUnder_53 {S : Nat × Nat → Bool} {ρ : Nat × Nat → Nat × Nat} (O : RhoOk S ρ) {rc4 : Nat × Nat → Int32 → Int32 → Int32 → am_H → am_R} (hrc4 : ∀ {h g : am_H} (_ : eqR S ρ h g) (y0 : Nat × Nat) (s_y0 : S y0 = true) (y1 : Int32) (y2 : Int32) (y3 : Int32), eqQ S ρ h g (rc4 y0 y1 y2 y3 h) (rc4 (ρ y0) y1 y2 y3 g)) {h g : am_H} (R : eqR S ρ h g) (a0 : Nat × Nat) (s_a0 : S a0 = true) (x1 : Int32) (x2 : Int32) (x3 : Int32) : eqQ S ρ h g (f_X7_belongUnder_53 rc4 a0 x1 x2 x3 h) (f_X7_belongUnder_53 rc4 (ρ a0) x1 x2 x3 g) := by
  rw [f_X7_belongUnder_53, f_X7_belongUnder_53]
  exact hrc4 R _ s_a0 _ _ _
theorem e_X7_belongUnder_4 {S : Nat × Nat → Bool} {ρ : Nat × Nat → Nat × Nat} (O : RhoOk S ρ)  : ∀ (n : Nat) {h g : am_H} (_ : eqR S ρ h g) (a0 : Nat × Nat) (s_a0 : S a0 = true) (x1 : Int32) (x2 : Int32) (x3 : Int32), eqQ S ρ h g (f_X7_belongUnder_4 n a0 x1 x2 x3 h) (f_X7_belongUnder_4 n (ρ a0) x1 x2 x3 g) := by
  intro n
  induction n with
  | zero => intros; exact q_none
  | succ n ih =>
    intro h g R a0 s_a0 x1 x2 x3
    rw [f_X7_belongUnder_4, f_X7_belongUnder_4]
    refine q_gI O R (okp_s s_a0) (fun v1 => ?_)
    refine q_ite (fun _ => ?_) (fun _ => ?_)
    · exact q_ri R
    · refine q_bJ (e_X10_has O R _ _) (fun h2 gh2 v3 R => ?_)
      refine q_ite (fun _ => ?_) (fun _ => ?_)
      · exact e_X7_belongUnder_53 O ih R _ s_a0 _ _ _
      · refine q_gR O R (okp_s s_a0) (fun o4 p_o4 => ?_)
        refine q_aI O R p_o4 (fun v5 => ?_)
        refine q_ite (fun _ => ?_) (fun _ => ?_)
        · exact e_X7_belongUnder_53 O ih R _ s_a0 _ _ _
        · refine q_gR O R (okp_s s_a0) (fun o6 p_o6 => ?_)
          refine q_aI O R p_o6 (fun v7 => ?_)
          refine q_gR O R (okp_s s_a0) (fun o8 p_o8 => ?_)
          refine q_gR O R (okp_s s_a0) (fun o9 p_o9 => ?_)
          refine q_aI O R p_o9 (fun v10 => ?_)
          refine q_aI O R p_o8 (fun v11 => ?_)
          exact e_X7_belongUnder_53 O ih R _ s_a0 _ _ _
theorem e_X7_belongUnder {S : Nat × Nat → Bool} {ρ : Nat × Nat → Nat × Nat} (O : RhoOk S ρ)  {h g : am_H} (R : eqR S ρ h g) (a0 : Nat × Nat) (s_a0 : S a0 = true) (x1 : Int32) : eqQ S ρ h g (f_X7_belongUnder a0 x1 h) (f_X7_belongUnder (ρ a0) x1 g) := by
  rw [f_X7_belongUnder, f_X7_belongUnder]
  exact e_X7_belongUnder_4 O _ R _ s_a0 _ _ _
theorem e_X7_meaningsOf_41 {S : Nat × Nat → Bool} {ρ : Nat × Nat → Nat × Nat} (O : RhoOk S ρ) {rc4 : Nat × Nat → Int32 → Int32 → Int32 → am_H → am_R} (hrc4 : ∀ {h g : am_H} (_ : eqR S ρ h g) (y0 : Nat × Nat) (s_y0 : S y0 = true) (y1 : Int32) (y2 : Int32) (y3 : Int32), eqQ S ρ h g (rc4 y0 y1 y2 y3 h) (rc4 (ρ y0) y1 y2 y3 g)) {h g : am_H} (R : eqR S ρ h g) (a0 : Nat × Nat) (s_a0 : S a0 = true) (x1 : Int32) (x2 : Int32) (x3 : Int32) : eqQ S ρ h g (f_X7_meaningsOf_41 rc4 a0 x1 x2 x3 h) (f_X7_meaningsOf_41 rc4 (ρ a0) x1 x2 x3 g) := by
  rw [f_X7_meaningsOf_41, f_X7_meaningsOf_41]
  exact hrc4 R _ s_a0 _ _ _
theorem e_X7_meaningsOf_4 {S : Nat × Nat → Bool} {ρ : Nat × Nat → Nat × Nat} (O : RhoOk S ρ)  : ∀ (n : Nat) {h g : am_H} (_ : eqR S ρ h g) (a0 : Nat × Nat) (s_a0 : S a0 = true) (x1 : Int32) (x2 : Int32) (x3 : Int32), eqQ S ρ h g (f_X7_meaningsOf_4 n a0 x1 x2 x3 h) (f_X7_meaningsOf_4 n (ρ a0) x1 x2 x3 g) := by
  intro n
  induction n with
  | zero => intros; exact q_none
  | succ n ih =>
    intro h g R a0 s_a0 x1 x2 x3
    rw [f_X7_meaningsOf_4, f_X7_meaningsOf_4]
    refine q_gI O R (okp_s s_a0) (fun v1 => ?_)
    refine q_ite (fun _ => ?_) (fun _ => ?_)
    · exact q_ri R
    · refine q_bJ (e_X10_has O R _ _) (fun h2 gh2 v3 R => ?_)
      refine q_ite (fun _ => ?_) (fun _ => ?_)
      · exact e_X7_meaningsOf_41 O ih R _ s_a0 _ _ _
      · refine q_gR O R (okp_s s_a0) (fun o4 p_o4 => ?_)
        refine q_aI O R p_o4 (fun v5 => ?_)
        refine q_ite (fun _ => ?_) (fun _ => ?_)
        · exact e_X7_meaningsOf_41 O ih R _ s_a0 _ _ _
        · refine q_gR O R (okp_s s_a0) (fun o6 p_o6 => ?_)
          refine q_aI O R p_o6 (fun v7 => ?_)
          exact e_X7_meaningsOf_41 O ih R _ s_a0 _ _ _
theorem e_X7_meaningsOf {S : Nat × Nat → Bool} {ρ : Nat × Nat → Nat × Nat} (O : RhoOk S ρ)  {h g : am_H} (R : eqR S ρ h g) (a0 : Nat × Nat) (s_a0 : S a0 = true) (x1 : Int32) : eqQ S ρ h g (f_X7_meaningsOf a0 x1 h) (f_X7_meaningsOf (ρ a0) x1 g) := by
  rw [f_X7_meaningsOf, f_X7_meaningsOf]
  exact e_X7_meaningsOf_4 O _ R _ s_a0 _ _ _
theorem e_X6_suits_55 {S : Nat × Nat → Bool} {ρ : Nat × Nat → Nat × Nat} (O : RhoOk S ρ)  {h g : am_H} (R : eqR S ρ h g) (s0 : Int32) : eqQ S ρ h g (f_X6_suits_55 s0 h) (f_X6_suits_55 s0 g) := by
  rw [f_X6_suits_55, f_X6_suits_55]
  exact q_rz R
theorem e_X6_suits_28 {S : Nat × Nat → Bool} {ρ : Nat × Nat → Nat × Nat} (O : RhoOk S ρ)  {h g : am_H} (R : eqR S ρ h g)  : eqQ S ρ h g (f_X6_suits_28  h) (f_X6_suits_28  g) := by
  unfold f_X6_suits_28
  exact q_rz R
theorem e_X6_suits {S : Nat × Nat → Bool} {ρ : Nat × Nat → Nat × Nat} (O : RhoOk S ρ)  {h g : am_H} (R : eqR S ρ h g) (a0 : Nat × Nat) (s_a0 : S a0 = true) (x1 : Option (Nat × Nat)) (p_x1 : okp S x1) (x2 : Option (Nat × Nat)) (p_x2 : okp S x2) : eqQ S ρ h g (f_X6_suits a0 x1 x2 h) (f_X6_suits (ρ a0) (x1.map ρ) (x2.map ρ) g) := by
  rw [f_X6_suits, f_X6_suits]
  refine q_gI O R (okp_s s_a0) (fun v1 => ?_)
  refine q_gI O R p_x1 (fun v2 => ?_)
  refine q_bJ (e_X10_has O R _ _) (fun h3 gh3 v4 R => ?_)
  refine q_ite (fun _ => ?_) (fun _ => ?_)
  · refine q_gI O R p_x1 (fun v5 => ?_)
    refine q_gI O R (okp_s s_a0) (fun v6 => ?_)
    refine q_bJ (e_X10_has O R _ _) (fun h7 gh7 v8 R => ?_)
    refine q_ite (fun _ => ?_) (fun _ => ?_)
    · refine q_gI O R p_x1 (fun v9 => ?_)
      refine q_ao O p_x2 (fun a12 s_a12 => ?_)
      refine q_bI (e_X7_meaningsOf O R _ s_a12 _) (fun h10 gh10 v11 R => ?_)
      refine q_gI O R (okp_s s_a0) (fun v13 => ?_)
      refine q_ao O p_x2 (fun a16 s_a16 => ?_)
      refine q_bI (e_X7_belongUnder O R _ s_a16 _) (fun h14 gh14 v15 R => ?_)
      refine q_ite (fun _ => ?_) (fun _ => ?_)
      · exact e_X6_suits_55 O R _
      · exact e_X6_suits_55 O R _
    · exact e_X6_suits_28 O R
  · exact e_X6_suits_28 O R
theorem e_X2_findReceivers_55 {S : Nat × Nat → Bool} {ρ : Nat × Nat → Nat × Nat} (O : RhoOk S ρ) {rc2 : Nat × Nat → Option (Nat × Nat) → Int32 → am_H → am_R} (hrc2 : ∀ {h g : am_H} (_ : eqR S ρ h g) (y0 : Nat × Nat) (s_y0 : S y0 = true) (y1 : Option (Nat × Nat)) (p_y1 : okp S y1) (y2 : Int32), eqQ S ρ h g (rc2 y0 y1 y2 h) (rc2 (ρ y0) (y1.map ρ) y2 g)) {rc15 : Nat × Nat → Option (Nat × Nat) → Int32 → Int32 → Int32 → am_H → am_R} (hrc15 : ∀ {h g : am_H} (_ : eqR S ρ h g) (y0 : Nat × Nat) (s_y0 : S y0 = true) (y1 : Option (Nat × Nat)) (p_y1 : okp S y1) (y2 : Int32) (y3 : Int32) (y4 : Int32), eqQ S ρ h g (rc15 y0 y1 y2 y3 y4 h) (rc15 (ρ y0) (y1.map ρ) y2 y3 y4 g)) {h g : am_H} (R : eqR S ρ h g) (a0 : Nat × Nat) (s_a0 : S a0 = true) (x1 : Option (Nat × Nat)) (p_x1 : okp S x1) (x2 : Int32) (x3 : Int32) (x4 : Int32) (s0 : Int32) : eqQ S ρ h g (f_X2_findReceivers_55 rc2 rc15 a0 x1 x2 x3 x4 s0 h) (f_X2_findReceivers_55 rc2 rc15 (ρ a0) (x1.map ρ) x2 x3 x4 s0 g) := by
  rw [f_X2_findReceivers_55, f_X2_findReceivers_55]
  refine q_bJ (e_X10_with O R _ _ _) (fun h12 gh12 v13 R => ?_)
  exact hrc15 R _ s_a0 _ p_x1 _ _ _
theorem e_X2_findReceivers_54 {S : Nat × Nat → Bool} {ρ : Nat × Nat → Nat × Nat} (O : RhoOk S ρ) {rc2 : Nat × Nat → Option (Nat × Nat) → Int32 → am_H → am_R} (hrc2 : ∀ {h g : am_H} (_ : eqR S ρ h g) (y0 : Nat × Nat) (s_y0 : S y0 = true) (y1 : Option (Nat × Nat)) (p_y1 : okp S y1) (y2 : Int32), eqQ S ρ h g (rc2 y0 y1 y2 h) (rc2 (ρ y0) (y1.map ρ) y2 g)) {rc15 : Nat × Nat → Option (Nat × Nat) → Int32 → Int32 → Int32 → am_H → am_R} (hrc15 : ∀ {h g : am_H} (_ : eqR S ρ h g) (y0 : Nat × Nat) (s_y0 : S y0 = true) (y1 : Option (Nat × Nat)) (p_y1 : okp S y1) (y2 : Int32) (y3 : Int32) (y4 : Int32), eqQ S ρ h g (rc15 y0 y1 y2 y3 y4 h) (rc15 (ρ y0) (y1.map ρ) y2 y3 y4 g)) {h g : am_H} (R : eqR S ρ h g) (a0 : Nat × Nat) (s_a0 : S a0 = true) (x1 : Option (Nat × Nat)) (p_x1 : okp S x1) (x2 : Int32) (x3 : Int32) (x4 : Int32) : eqQ S ρ h g (f_X2_findReceivers_54 rc2 rc15 a0 x1 x2 x3 x4 h) (f_X2_findReceivers_54 rc2 rc15 (ρ a0) (x1.map ρ) x2 x3 x4 g) := by
  rw [f_X2_findReceivers_54, f_X2_findReceivers_54]
  exact e_X2_findReceivers_55 O hrc2 hrc15 R _ s_a0 _ p_x1 _ _ _ _
theorem e_X2_findReceivers_15 {S : Nat × Nat → Bool} {ρ : Nat × Nat → Nat × Nat} (O : RhoOk S ρ) {rc2 : Nat × Nat → Option (Nat × Nat) → Int32 → am_H → am_R} (hrc2 : ∀ {h g : am_H} (_ : eqR S ρ h g) (y0 : Nat × Nat) (s_y0 : S y0 = true) (y1 : Option (Nat × Nat)) (p_y1 : okp S y1) (y2 : Int32), eqQ S ρ h g (rc2 y0 y1 y2 h) (rc2 (ρ y0) (y1.map ρ) y2 g)) : ∀ (n : Nat) {h g : am_H} (_ : eqR S ρ h g) (a0 : Nat × Nat) (s_a0 : S a0 = true) (x1 : Option (Nat × Nat)) (p_x1 : okp S x1) (x2 : Int32) (x3 : Int32) (x4 : Int32), eqQ S ρ h g (f_X2_findReceivers_15 rc2 n a0 x1 x2 x3 x4 h) (f_X2_findReceivers_15 rc2 n (ρ a0) (x1.map ρ) x2 x3 x4 g) := by
  intro n
  induction n with
  | zero => intros; exact q_none
  | succ n ih =>
    intro h g R a0 s_a0 x1 p_x1 x2 x3 x4
    rw [f_X2_findReceivers_15, f_X2_findReceivers_15]
    refine q_gI O R (okp_s s_a0) (fun v2 => ?_)
    refine q_ite (fun _ => ?_) (fun _ => ?_)
    · refine q_gR O R (okp_s s_a0) (fun o3 p_o3 => ?_)
      refine q_sI O R p_o3 (fun h4 gh4 R => ?_)
      exact hrc2 R _ s_a0 _ p_x1 _
    · refine q_ite (fun _ => ?_) (fun _ => ?_)
      · exact e_X2_findReceivers_54 O hrc2 ih R _ s_a0 _ p_x1 _ _ _
      · refine q_gR O R (okp_s s_a0) (fun o5 p_o5 => ?_)
        refine q_aR O R p_o5 (fun o6 p_o6 => ?_)
        refine q_gR O R (okp_s s_a0) (fun o7 p_o7 => ?_)
        refine q_aR O R p_o7 (fun o8 p_o8 => ?_)
        refine q_ao O p_o6 (fun a11 s_a11 => ?_)
        refine q_bI (e_X6_suits O R _ s_a11 _ p_o8 _ p_x1) (fun h9 gh9 v10 R => ?_)
        refine q_ite (fun _ => ?_) (fun _ => ?_)
        · exact e_X2_findReceivers_54 O hrc2 ih R _ s_a0 _ p_x1 _ _ _
        · exact e_X2_findReceivers_55 O hrc2 ih R _ s_a0 _ p_x1 _ _ _ _
theorem e_X2_findReceivers_2 {S : Nat × Nat → Bool} {ρ : Nat × Nat → Nat × Nat} (O : RhoOk S ρ)  : ∀ (n : Nat) {h g : am_H} (_ : eqR S ρ h g) (a0 : Nat × Nat) (s_a0 : S a0 = true) (x1 : Option (Nat × Nat)) (p_x1 : okp S x1) (x2 : Int32), eqQ S ρ h g (f_X2_findReceivers_2 n a0 x1 x2 h) (f_X2_findReceivers_2 n (ρ a0) (x1.map ρ) x2 g) := by
  intro n
  induction n with
  | zero => intros; exact q_none
  | succ n ih =>
    intro h g R a0 s_a0 x1 p_x1 x2
    rw [f_X2_findReceivers_2, f_X2_findReceivers_2]
    refine q_gI O R (okp_s s_a0) (fun v1 => ?_)
    refine q_ite (fun _ => ?_) (fun _ => ?_)
    · exact q_rtn R
    · exact e_X2_findReceivers_15 O ih _ R _ s_a0 _ p_x1 _ _ _
