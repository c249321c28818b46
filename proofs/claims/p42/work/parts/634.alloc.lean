/-! ## the calls that make something; collect; the calls that the law makes without 'does' -/
section ALL
variable {b : Bool} {h g : am_H}
def Anx (b : Bool) (h g : am_H) (s : Nat) : Prop := rhoS b (s, m_nx h s) = (s, m_nx g s)
theorem Anx.mv {h1 g1 : am_H} {s : Nat} (A : Anx b h g s) (n : ∀ s, m_nx h1 s = m_nx h s ∧ m_nx g1 s = m_nx g s) : Anx b h1 g1 s := by
  unfold Anx at A ⊢
  rw [(n s).1, (n s).2]; exact A
theorem Anx.al {s t n m : Nat} (A : Anx b h g s) (hs : s ≠ t) : Anx b (m_al h t n) (m_al g t m) s := by
  unfold Anx at A ⊢
  rw [nx_al hs, nx_al hs]; exact A
theorem ea_X9_init (R : eqR Sc (rhoS b) h g) (a0 : Nat × Nat) (s_a0 : Sc a0 = true) (x1 x2 : Int32) (A : Anx b h g 16) : eqQA Sc (rhoS b) (dp 16 d0) h g (f_X9_init a0 x1 x2 h) (f_X9_init (rhoS b a0) x1 x2 g) := by
  rw [f_X9_init, f_X9_init]
  refine qa_new (rhoS_ok b) R rfl A (fun R => eqQ.toA ?_)
  refine q_pR (rhoS_ok b) R (okp_s s_a0) (okp_s (a := (16, m_nx h 16)) rfl) (fun h3 g3 R => ?_)
  refine q_pI (rhoS_ok b) R (okp_s s_a0) (fun h4 g4 R => ?_)
  refine q_pI (rhoS_ok b) R (okp_s s_a0) (fun h5 g5 R => ?_)
  refine q_pI (rhoS_ok b) R (okp_s s_a0) (fun h6 g6 R => ?_)
  exact q_rtn R
theorem ea_X10_work (R : eqR Sc (rhoS b) h g) (a0 : Nat × Nat) (s_a0 : Sc a0 = true) (x1 x2 : Int32) (A : Anx b h g 27) (A2 : Anx b h g 16) : eqQA Sc (rhoS b) (dp 27 (dp 16 d0)) h g (f_X10_work a0 x1 x2 h) (f_X10_work (rhoS b a0) x1 x2 g) := by
  rw [f_X10_work, f_X10_work]
  refine qa_bV (e_X10_checkPerson (rhoS_ok b) R _) (fun h1 g1 R n => ?_)
  refine qa_ite (fun _ => qa_ex R) (fun _ => ?_)
  refine qa_ite (fun _ => ?_) (fun _ => qa_ex R)
  refine qa_gI (rhoS_ok b) R (okp_s s_a0) (fun v3 => ?_)
  refine qa_ite (fun _ => ?_) (fun _ => qa_ex R)
  refine qa_gR (rhoS_ok b) R (okp_s s_a0) (fun o4 p_o4 => ?_)
  refine qa_gI (rhoS_ok b) R (okp_s s_a0) (fun v5 => ?_)
  refine qa_new (rhoS_ok b) R rfl (A.mv n) (fun R => ?_)
  refine qa_bWA (ea_X9_init R _ rfl _ _ ((A2.mv n).al (by decide))) (fun h8 g8 R => ?_)
  refine q_sR (rhoS_ok b) R p_o4 (okp_s (a := (27, m_nx h1 27)) rfl) (fun h10 g10 R => ?_)
  refine q_gI (rhoS_ok b) R (okp_s s_a0) (fun v11 => ?_)
  refine q_pI (rhoS_ok b) R (okp_s s_a0) (fun h12 g12 R => ?_)
  refine q_gI (rhoS_ok b) R (okp_s s_a0) (fun v13 => ?_)
  exact q_ri R
theorem ea_X10_collection (R : eqR Sc (rhoS b) h g) (a0 : Nat × Nat) (s_a0 : Sc a0 = true) (x1 x2 : Int32) (A : Anx b h g 28) : eqQA Sc (rhoS b) (dp 28 d0) h g (f_X10_collection a0 x1 x2 h) (f_X10_collection (rhoS b a0) x1 x2 g) := by
  rw [f_X10_collection, f_X10_collection]
  refine qa_ite (fun _ => qa_ex R) (fun _ => ?_)
  refine qa_ite (fun _ => qa_ex R) (fun _ => ?_)
  refine qa_ite (fun _ => qa_ex R) (fun _ => ?_)
  refine qa_ite (fun _ => ?_) (fun _ => qa_ex R)
  refine qa_gI (rhoS_ok b) R (okp_s s_a0) (fun v1 => ?_)
  refine qa_ite (fun _ => ?_) (fun _ => qa_ex R)
  refine qa_gR (rhoS_ok b) R (okp_s s_a0) (fun o2 p_o2 => ?_)
  refine qa_gI (rhoS_ok b) R (okp_s s_a0) (fun v3 => ?_)
  refine qa_new (rhoS_ok b) R rfl A (fun R => eqQ.toA ?_)
  refine q_bW (e_X0_init (rhoS_ok b) R _ rfl _ _) (fun h6 g6 R => ?_)
  refine q_sR (rhoS_ok b) R p_o2 (okp_s (a := (28, m_nx h 28)) rfl) (fun h10 g10 R => ?_)
  refine q_gI (rhoS_ok b) R (okp_s s_a0) (fun v11 => ?_)
  refine q_pI (rhoS_ok b) R (okp_s s_a0) (fun h12 g12 R => ?_)
  refine q_gI (rhoS_ok b) R (okp_s s_a0) (fun v13 => ?_)
  exact q_ri R
theorem ea_X10_sign (R : eqR Sc (rhoS b) h g) (a0 : Nat × Nat) (s_a0 : Sc a0 = true) (x1 x2 x3 x4 : Int32) (A : Anx b h g 29) : eqQA Sc (rhoS b) (dp 29 d0) h g (f_X10_sign a0 x1 x2 x3 x4 h) (f_X10_sign (rhoS b a0) x1 x2 x3 x4 g) := by
  rw [f_X10_sign, f_X10_sign]
  refine qa_bV (e_X10_checkPerson (rhoS_ok b) R _) (fun h1 g1 R n => ?_)
  have A := A.mv n
  refine qa_gR (rhoS_ok b) R (okp_s s_a0) (fun o3 p_o3 => ?_)
  refine qa_gI (rhoS_ok b) R p_o3 (fun v4 => ?_)
  refine qa_bI (e_X10_isWithin (rhoS_ok b) R _ _) (fun h5 g5 v6 R n => ?_)
  have A := A.mv n
  refine qa_ite (fun _ => qa_ex R) (fun _ => ?_)
  refine qa_gR (rhoS_ok b) R (okp_s s_a0) (fun o7 p_o7 => ?_)
  refine qa_gI (rhoS_ok b) R p_o7 (fun v8 => ?_)
  refine qa_bI (e_X10_isWithin (rhoS_ok b) R _ _) (fun h9 g9 v10 R n => ?_)
  have A := A.mv n
  refine qa_ite (fun _ => qa_ex R) (fun _ => ?_)
  refine qa_bI (e_X10_isWithin (rhoS_ok b) R _ _) (fun h11 g11 v12 R n => ?_)
  have A := A.mv n
  refine qa_ite (fun _ => qa_ex R) (fun _ => ?_)
  refine qa_gR (rhoS_ok b) R (okp_s s_a0) (fun o13 p_o13 => ?_)
  refine qa_ao (rhoS_ok b) p_o13 (fun a16 s_a16 => ?_)
  refine qa_bI (e_X2_hasSignOf (rhoS_ok b) R _ s_a16 _) (fun h14 g14 v15 R n => ?_)
  have A := A.mv n
  refine qa_ite (fun _ => ?_) (fun _ => qa_ex R)
  refine qa_gR (rhoS_ok b) R (okp_s s_a0) (fun o17 p_o17 => ?_)
  refine qa_gI (rhoS_ok b) R p_o17 (fun v18 => ?_)
  refine qa_ite (fun _ => ?_) (fun _ => qa_ex R)
  refine qa_gR (rhoS_ok b) R (okp_s s_a0) (fun o19 p_o19 => ?_)
  refine qa_new (rhoS_ok b) R rfl A (fun R => eqQ.toA ?_)
  refine q_bW (e_X6_init (rhoS_ok b) R _ rfl _ _ _ _) (fun h22 g22 R => ?_)
  refine q_ao (rhoS_ok b) p_o19 (fun a26 s_a26 => ?_)
  refine q_bI (e_X2_add (rhoS_ok b) R _ s_a26 _ (okp_s (a := (29, m_nx h14 29)) rfl)) (fun h24 g24 v25 R => ?_)
  exact q_ri R
theorem ea_X10_comment_106 (R : eqR Sc (rhoS b) h g) (a0 : Nat × Nat) (s_a0 : Sc a0 = true) (x1 x2 : Int32) (x5 : Option (Nat × Nat)) (p_x5 : okp Sc x5) (s0 : Int32) (A : Anx b h g 30) : eqQA Sc (rhoS b) (dp 30 d0) h g (f_X10_comment_106 a0 x1 x2 x5 s0 h) (f_X10_comment_106 (rhoS b a0) x1 x2 (x5.map (rhoS b)) s0 g) := by
  rw [f_X10_comment_106, f_X10_comment_106]
  refine qa_gR (rhoS_ok b) R (okp_s s_a0) (fun o18 p_o18 => ?_)
  refine qa_gI (rhoS_ok b) R (okp_s s_a0) (fun v19 => ?_)
  refine qa_new (rhoS_ok b) R rfl A (fun R => eqQ.toA ?_)
  refine q_bW (e_X1_init (rhoS_ok b) R _ rfl _ _ _ p_x5 _) (fun h22 g22 R => ?_)
  refine q_sR (rhoS_ok b) R p_o18 (okp_s (a := (30, m_nx h 30)) rfl) (fun h24 g24 R => ?_)
  refine q_gI (rhoS_ok b) R (okp_s s_a0) (fun v25 => ?_)
  refine q_pI (rhoS_ok b) R (okp_s s_a0) (fun h26 g26 R => ?_)
  refine q_gI (rhoS_ok b) R (okp_s s_a0) (fun v27 => ?_)
  exact q_ri R
theorem ea_X10_comment_52 (R : eqR Sc (rhoS b) h g) (a0 : Nat × Nat) (s_a0 : Sc a0 = true) (x1 x2 : Int32) (x4 : Option (Nat × Nat)) (p_x4 : okp Sc x4) (x5 : Option (Nat × Nat)) (p_x5 : okp Sc x5) (A : Anx b h g 30) : eqQA Sc (rhoS b) (dp 30 d0) h g (f_X10_comment_52 a0 x1 x2 x4 x5 h) (f_X10_comment_52 (rhoS b a0) x1 x2 (x4.map (rhoS b)) (x5.map (rhoS b)) g) := by
  rw [f_X10_comment_52, f_X10_comment_52]
  refine qa_gI (rhoS_ok b) R (okp_s s_a0) (fun v10 => ?_)
  refine qa_ite (fun _ => qa_ex R) (fun _ => ?_)
  refine qa_ao (rhoS_ok b) (okp_s s_a0) (fun a13 s_a13 => ?_)
  refine qa_bI (e_X10_mayComment (rhoS_ok b) R _ s_a13 _ p_x4 _ _ p_x5) (fun h11 g11 v12 R n => ?_)
  have A := A.mv n
  refine qa_ite (fun _ => qa_ex R) (fun _ => ?_)
  refine qa_gI (rhoS_ok b) R p_x4 (fun v14 => ?_)
  have z : ∀ {h g : am_H}, eqR Sc (rhoS b) h g → Anx b h g 30 → eqQA Sc (rhoS b) (dp 30 d0) h g (f_X10_comment_105 a0 x1 x2 x5 h) (f_X10_comment_105 (rhoS b a0) x1 x2 (x5.map (rhoS b)) g) := fun R A => by
    rw [f_X10_comment_105, f_X10_comment_105]
    exact ea_X10_comment_106 R _ s_a0 _ _ _ p_x5 _ A
  refine qa_ite (fun _ => z R A) (fun _ => ?_)
  refine qa_ao (rhoS_ok b) p_x4 (fun a17 s_a17 => ?_)
  refine qa_bI (e_X9_isOwnedBy (rhoS_ok b) R _ s_a17 _) (fun h15 g15 v16 R n => ?_)
  have A := A.mv n
  exact qa_ite (fun _ => ea_X10_comment_106 R _ s_a0 _ _ _ p_x5 _ A) (fun _ => z R A)
theorem ea_X10_comment_25 (R : eqR Sc (rhoS b) h g) (a0 : Nat × Nat) (s_a0 : Sc a0 = true) (x1 x2 : Int32) (x4 : Option (Nat × Nat)) (p_x4 : okp Sc x4) (x5 : Option (Nat × Nat)) (p_x5 : okp Sc x5) (A : Anx b h g 30) : eqQA Sc (rhoS b) (dp 30 d0) h g (f_X10_comment_25 a0 x1 x2 x4 x5 h) (f_X10_comment_25 (rhoS b a0) x1 x2 (x4.map (rhoS b)) (x5.map (rhoS b)) g) := by
  rw [f_X10_comment_25, f_X10_comment_25]
  refine qa_itN (ea_X10_comment_52 R _ s_a0 _ _ _ p_x4 _ p_x5 A) ?_
  refine qa_gI (rhoS_ok b) R p_x5 (fun v9 => ?_)
  exact qa_ite (fun _ => ea_X10_comment_52 R _ s_a0 _ _ _ p_x4 _ p_x5 A) (fun _ => qa_ex R)
theorem ea_X10_comment (R : eqR Sc (rhoS b) h g) (a0 : Nat × Nat) (s_a0 : Sc a0 = true) (x1 x2 x3 : Int32) (A : Anx b h g 30) : eqQA Sc (rhoS b) (dp 30 d0) h g (f_X10_comment a0 x1 x2 x3 h) (f_X10_comment (rhoS b a0) x1 x2 x3 g) := by
  rw [f_X10_comment, f_X10_comment]
  refine qa_ao (rhoS_ok b) (okp_s s_a0) (fun a3 s_a3 => ?_)
  refine qa_bR (e_X10_workAt (rhoS_ok b) R _ s_a3 _) (fun h1 g1 o2 R p_o2 n => ?_)
  have A := A.mv n
  refine qa_bV (e_X10_checkFace (rhoS_ok b) R _) (fun h4 g4 R n => ?_)
  have A := A.mv n
  refine qa_ite (fun _ => ea_X10_comment_25 R _ s_a0 _ _ _ p_o2 none okp_n A) (fun _ => ?_)
  refine qa_ao (rhoS_ok b) (okp_s s_a0) (fun a8 s_a8 => ?_)
  refine qa_bR (e_X10_commentAt (rhoS_ok b) R _ s_a8 _) (fun h6 g6 o7 R p_o7 n => ?_)
  have A := A.mv n
  exact ea_X10_comment_25 R _ s_a0 _ _ _ p_o2 _ p_o7 A
end ALL
theorem dz_10 {a : Nat × Nat} (ha : am_isO a.1 10 = true) (x y z u : Int32) (h : am_H) : (∀ h', f_X10_collect a x y h = m_rt h' none → f_L_does (some a) 10 x y z u h = m_ri h' 0) ∧ ∀ h' e, f_X10_collect a x y h = some (h', .inr e) → e < 3 → f_L_does (some a) 10 x y z u h = m_ri (m_op h') (-2100000000) := by
  constructor
  · intro h' e
    rw [f_L_does, if_neg (by decide), f_L_early, if_neg (by decide), if_neg (by decide), if_neg (by decide), if_neg (by decide), if_neg (by decide), if_neg (by decide), if_neg (by decide), if_neg (by decide), if_neg (by decide), if_neg (by decide), if_pos (by decide), f_L_collects, ao_a ha, e]
    rfl
  · intro h' e1 e e3
    rw [f_L_does, if_neg (by decide), f_L_early, if_neg (by decide), if_neg (by decide), if_neg (by decide), if_neg (by decide), if_neg (by decide), if_neg (by decide), if_neg (by decide), if_neg (by decide), if_neg (by decide), if_neg (by decide), if_pos (by decide), f_L_collects, ao_a ha, e]
    rcases lt3 e3 with rfl | rfl | rfl <;> rfl
theorem do_10 {b : Bool} {g h : am_H} (O : Ob b g h) (x y z u : Int32) : DoP b d0 g h (f_L_does (some (rhoS b (69, 0))) 10 x y z u h) (f_X11_collect (70, 0) x y) (fun _ => 0) := by
  obtain ⟨W, Cn, Tn, Sn, Qn, R⟩ := id O.2.2.2
  obtain ⟨h1, k, h2, er, em, e70, s1, s2, nc, ns, fx, RR2⟩ := op_collect R x y
  have hc := e_X10_collect (rhoS_ok b) O.1 (69, 0) rfl x y
  have L : Loc (f_X11_collect (70, 0) x y) := fun p q A => e_X11_collect id_ok A (70, 0) rfl x y
  have inv : (∃ g1, f_X10_collect (69, 0) x y g = m_rt g1 none ∧ k = 0 ∧ h1 = g1) ∨ ∃ g1 e, f_X10_collect (69, 0) x y g = some (g1, .inr e) ∧ e < 3 ∧ k ≠ 0 ∧ h1 = m_op g1 := by
    unfold f_G_collect at er
    rw [ao_69] at er
    refine inv_V (fun h1 => rfl) (fun h1 e h2 k q => ?_) er
    repeat' split at q
    all_goals first | (cases q; exact ⟨by omega, by decide, rfl⟩) | cases q
  have D := dz_10 (isO_rhoS b) x y z u h
  rcases inv with ⟨g1, c1, rfl, rfl⟩ | ⟨g1, e, c1, e3, k0, rfl⟩
  · rcases hc with ⟨z, -⟩ | ⟨hs, hb, o, o', d1, d2, d3, d4⟩
    · rw [c1] at z; cases z
    · rw [c1] at d1; cases d1
      obtain ⟨q1, q2, q3, q4, q5, q6, q7, q8, q9⟩ := step_ob O d3.toA (x := h1) ⟨fun _ _ _ => rfl, fun _ _ _ => rfl, fun _ _ => rfl, rfl, rfl⟩ L em ⟨nc, ns⟩ RR2
      rcases o' with (_ | y | y | y) | y <;> first | exact d4.elim | skip
      exact ⟨hb, nz h2, 0, D.1 _ d2, ⟨q1, q2, q3, q4⟩, ⟨_, h2, _, q5, em, q1.2.1, by rw [if_pos e70]⟩, fun z => absurd z (by decide), fun _ s hs => by rw [q9 s hs, (d3.2.2.2.1 s).1]; rfl⟩
  · rcases hc with ⟨z, -⟩ | ⟨hs, hb, o, o', d1, d2, d3, d4⟩
    · rw [c1] at z; cases z
    · rw [c1] at d1; cases d1
      obtain ⟨q1, q2, q3, q4, q5, q6, q7, q8, q9⟩ := step_ob O d3.toA (x := m_op g1) ⟨fun _ _ _ => rfl, fun _ _ _ => rfl, fun s hs => nx_op hs, rfl, rfl⟩ L em ⟨nc, ns⟩ RR2
      rcases o' with (_ | y | y | y) | y <;> first | exact d4.elim | skip
      cases d4
      exact ⟨m_op hb, nz h2, -2100000000, D.2 _ _ d2 e3, ⟨⟨q1.1, q1.2⟩, q2, fun s hs => by rw [nx_op (nx_list hs).1]; exact q3 s hs, q4⟩, ⟨_, h2, _, q5, em, q1.2.1, by rw [if_neg (by rw [e70]; exact k0)]⟩, fun _ => q7 (fx k0), fun z => absurd rfl z⟩
theorem lo_10 (x y z u : Int32) : Loc (f_X11_collect (70, 0) x y) := fun p q A => e_X11_collect id_ok A (70, 0) rfl x y
/-- a call that never refuses -/
def TrN (mf : am_H → am_R) (g g' : am_H) (v : Int32) : Prop := ∃ (x g2 : am_H), AgR g x ∧ mf x = m_ri g2 v ∧ AgR (nz g2) g'
theorem TrN.det {mf : am_H → am_R} (L : Loc mf) {g g' y y' : am_H} {v v' : Int32} (A : AgR g y) (t : TrN mf g g' v) (t' : TrN mf y y' v') : v = v' ∧ AgR g' y' := by
  obtain ⟨x, g2, a1, a2, a3⟩ := t
  obtain ⟨x', g2', b1, b2, b3⟩ := t'
  rcases L x x' ((a1.symm.trans A).trans b1) with ⟨z, -⟩ | ⟨h', g3, o1, o2, c1, c2, c3, c4⟩
  · rw [a2] at z; cases z
  · rw [a2] at c1; rw [b2] at c2
    cases c1; cases c2
    cases c4
    exact ⟨rfl, (a3.symm.trans (AgR.si0 c3.1)).trans b3⟩
def DoN (b : Bool) (g h : am_H) (rc r : am_R) (mf : am_H → am_R) : Prop := ∃ (h' g' g1 : am_H) (v : Int32), r = m_ri h' v ∧ rc = m_ri g1 v ∧ Post b g h g' h' ∧ TrN mf g g' v ∧ CL g1 g'
theorem stepN {b : Bool} {g h : am_H} (O : Ob b g h) {rc r : am_R} {mf : am_H → am_R} (hc : eqQ Sc (rhoS b) g h rc r) (L : Loc mf) (ok : OpOKn g rc mf) : DoN b g h rc r mf := by
  obtain ⟨h1, h2, v, er, em, s1, s2, nc, ns, RR2⟩ := ok
  rcases hc with ⟨z, -⟩ | ⟨hs, hb, o, o', d1, d2, d3, d4⟩
  · rw [er] at z; cases z
  · rw [er] at d1; cases d1
    obtain ⟨q1, q2, q3, q4, q5, q6, q7, q8, q9⟩ := step_ob O d3.toA (x := h1) ⟨fun _ _ _ => rfl, fun _ _ _ => rfl, fun _ _ => rfl, rfl, rfl⟩ L em ⟨nc, ns⟩ RR2
    rcases o' with (_ | y | y | y) | y <;> first | exact d4.elim | skip
    cases d4
    exact ⟨hb, nz h2, h1, v, d2, er, ⟨q1, q2, q3, q4⟩, ⟨_, h2, q5, em, q1.2.1⟩, fun s k j hs => ⟨((nz_sc h2) s k j hs).1.trans (q8 s k j hs).1, ((nz_sc h2) s k j hs).2.trans (q8 s k j hs).2⟩⟩
theorem do_wipe {b : Bool} {g h : am_H} (O : Ob b g h) : DoN b g h (f_X10_wipe (69, 0) g) (f_X10_wipe (rhoS b (69, 0)) h) (f_X11_wipe (70, 0)) := by
  obtain ⟨W, Cn, Tn, Sn, Qn, R⟩ := id O.2.2.2
  exact stepN O (e_X10_wipe (rhoS_ok b) O.1 (69, 0) rfl) (fun p q A => e_X11_wipe id_ok A (70, 0) rfl) (op_wipe R)
theorem do_fault {b : Bool} {g h : am_H} (O : Ob b g h) : DoN b g h (f_X10_fault (69, 0) g) (f_X10_fault (rhoS b (69, 0)) h) (f_X11_fault (70, 0)) := by
  obtain ⟨W, Cn, Tn, Sn, Qn, R⟩ := id O.2.2.2
  exact stepN O (e_X10_fault (rhoS_ok b) O.1 (69, 0) rfl) (fun p q A => e_X11_fault id_ok A (70, 0) rfl) (op_fault R)
theorem do_waiting {b : Bool} {g h : am_H} (O : Ob b g h) : DoN b g h (f_X10_waiting (69, 0) g) (f_X10_waiting (rhoS b (69, 0)) h) (f_X11_waiting (70, 0)) := by
  obtain ⟨W, Cn, Tn, Sn, Qn, R⟩ := id O.2.2.2
  exact stepN O (e_X10_waiting (rhoS_ok b) O.1 (69, 0) rfl) (fun p q A => e_X11_waiting id_ok A (70, 0) rfl) (op_waiting R)
theorem do_matches {b : Bool} {g h : am_H} (O : Ob b g h) : DoN b g h (f_X10_matches (69, 0) g) (f_X10_matches (rhoS b (69, 0)) h) (f_X11_matches (70, 0)) := by
  obtain ⟨W, Cn, Tn, Sn, Qn, R⟩ := id O.2.2.2
  exact stepN O (e_X10_matches (rhoS_ok b) O.1 (69, 0) rfl) (fun p q A => e_X11_matches id_ok A (70, 0) rfl) (op_matches R)
theorem lo_wipe : Loc (f_X11_wipe (70, 0)) := fun p q A => e_X11_wipe id_ok A (70, 0) rfl
theorem lo_fault : Loc (f_X11_fault (70, 0)) := fun p q A => e_X11_fault id_ok A (70, 0) rfl
theorem lo_waiting : Loc (f_X11_waiting (70, 0)) := fun p q A => e_X11_waiting id_ok A (70, 0) rfl
theorem lo_matches : Loc (f_X11_matches (70, 0)) := fun p q A => e_X11_matches id_ok A (70, 0) rfl
