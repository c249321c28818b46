/-! ## the two objects of the law -/
theorem rho_f : rhoS false (69, 0) = (69, 0) := rfl
theorem rho_t : rhoS true (69, 0) = (72, 0) := rfl
theorem ne_ft : false ≠ true := by decide
theorem ne_tf : true ≠ false := by decide
theorem nx_eq {g y : am_H} (Rg : RRx g) (Ry : RRx y) (A : AgR g y) : ∀ s, s ∈ [16, 27, 28, 29, 30] → m_nx y s = m_nx g s := by
  obtain ⟨W, Cn, Tn, Sn, Qn, R⟩ := Rg
  obtain ⟨W', Cn', Tn', Sn', Qn', R'⟩ := Ry
  have a1 : W' = W := by
    have h1 := R.N.2.2.1
    have h2 := R'.N.2.2.1
    rw [AgR.gi A rfl] at h2
    have := R.N.1
    have := R'.N.1
    exact (nI_eq (by omega) (by omega)).mp (h2.symm.trans h1)
  have a2 : Cn' = Cn := by
    have h1 := R.rCo.2.2.1
    have h2 := R'.rCo.2.2.1
    rw [AgR.gi A rfl] at h2
    have := R.rCo.1
    have := R'.rCo.1
    exact (nI_eq (by omega) (by omega)).mp (h2.symm.trans h1)
  have a3 : Sn' = Sn := by
    have h1 := R.rSg.2.2.1
    have h2 := R'.rSg.2.2.1
    rw [AgR.gi A rfl] at h2
    have := R.rSg.1
    have := R'.rSg.1
    exact (nI_eq (by omega) (by omega)).mp (h2.symm.trans h1)
  have a4 : Qn' = Qn := by
    have h1 := R.rCm.2.2.1
    have h2 := R'.rCm.2.2.1
    rw [AgR.gi A rfl] at h2
    have := R.rCm.1
    have := R'.rCm.1
    exact (nI_eq (by omega) (by omega)).mp (h2.symm.trans h1)
  subst a1; subst a2; subst a3; subst a4
  intro s hs
  simp only [List.mem_cons, List.not_mem_nil, or_false] at hs
  rcases hs with rfl | rfl | rfl | rfl | rfl
  · exact R'.N.2.2.2.2.1.trans R.N.2.2.2.2.1.symm
  · exact R'.N.2.2.2.1.trans R.N.2.2.2.1.symm
  · exact R'.rCo.2.2.2.1.trans R.rCo.2.2.2.1.symm
  · exact R'.rSg.2.2.2.1.trans R.rSg.2.2.2.1.symm
  · exact R'.rCm.2.2.2.1.trans R.rCm.2.2.2.1.symm
/-- both objects, with one ghost of the reference each; o's is as p's where nothing of o alone is under way -/
def Th (go gp h : am_H) : Prop := Ob false go h ∧ Ob true gp h ∧ ∀ s, s ∈ [16, 27, 28, 29, 30] → m_nx h s = m_nx go s + m_nx gp s
def Tw (go gp h : am_H) : Prop := Th go gp h ∧ AgR go gp
theorem Th.o {go gp h g' h' : am_H} {c : Nat} (T : Th go gp h) (P : PostC false go h g' h' c) : Th g' gp h' :=
  ⟨P.1, T.2.1.other ne_ft P.2.1, fun s hs => by have := P.2.2.1 s hs; have := T.2.2 s hs; omega⟩
theorem Th.p {go gp h g' h' : am_H} {c : Nat} (T : Th go gp h) (P : PostC true gp h g' h' c) : Th go g' h' :=
  ⟨T.1.other ne_tf P.2.1, P.1, fun s hs => by have := P.2.2.1 s hs; have := T.2.2 s hs; omega⟩
/-- a program of both, one behind the other -/
theorem Pg.both {F : Nat × Nat → am_H → am_R} {c : Nat} {Q : am_H → am_H → Int32 → Prop} (P : PgQ F c Q) {go gp h : am_H} (T : Tw go gp h) : ∃ h1 h2 go' gp' v, F (69, 0) h = m_ri h1 v ∧ F (72, 0) h1 = m_ri h2 v ∧ Th go' gp h1 ∧ Q go go' v ∧ Tw go' gp' h2 ∧ Cost h h2 (c + c) ∧ Cost h h1 c := by
  obtain ⟨Tr, dt, P⟩ := P
  obtain ⟨h1, go', v, a1, a2, a3, a4⟩ := P false go h T.1.1
  have T1 := T.1.o a2
  obtain ⟨h2, gp', v', b1, b2, b3, b4⟩ := P true gp h1 T1.2.1
  obtain ⟨rfl, A⟩ := dt _ _ _ _ _ _ T.2 a3 b3
  exact ⟨h1, h2, go', gp', v, a1, b1, T1, a4, ⟨T1.p b2, A⟩, a2.2.2.2.trans b2.2.2.2, a2.2.2.2⟩
/-- what an act of the law is: both do the same, or the first one refuses -/
def ActOK (F : Nat × Nat → am_H → am_R) (go gp h : am_H) : Prop := ∃ h1 v, F (69, 0) h = m_ri h1 v ∧ Cost h h1 20 ∧ ((v = -2100000000 ∧ ∃ go', Tw go' gp h1) ∨ (v ≠ -2100000000 ∧ ∃ h2 go' gp', F (72, 0) h1 = m_ri h2 v ∧ Tw go' gp' h2 ∧ Cost h1 h2 20))
theorem act_pg {F : Nat × Nat → am_H → am_R} (P : PgQ F 20 qT) {go gp h : am_H} (T : Tw go gp h) : ActOK F go gp h := by
  obtain ⟨Tr, dt, P⟩ := P
  obtain ⟨h1, go', v, a1, a2, a3, a4⟩ := P false go h T.1.1
  have T1 := T.1.o a2
  refine ⟨h1, v, a1, a2.2.2.2, ?_⟩
  by_cases z : v = -2100000000
  · exact Or.inl ⟨z, go', T1, (a4 z).symm.trans T.2⟩
  · obtain ⟨h2, gp', v', b1, b2, b3, b4⟩ := P true gp h1 T1.2.1
    obtain ⟨rfl, A⟩ := dt _ _ _ _ _ _ T.2 a3 b3
    exact Or.inr ⟨z, h2, go', gp', b1, ⟨T1.p b2, A⟩, b2.2.2.2⟩
theorem Anx_f {go gp h : am_H} (T : Tw go gp h) {s : Nat} (hs : s ∈ [16, 27, 28, 29, 30]) : Anx false go h s := by
  have e := nx_eq T.1.1.2.2.2 T.1.2.1.2.2.2 T.2 s hs
  have q := T.1.2.2 s hs
  unfold Anx rhoS
  simp only [List.mem_cons, List.not_mem_nil, or_false] at hs
  rw [if_neg (by simp only; omega), if_neg (by simp only; omega)]
  simp only [bN]
  refine Prod.ext rfl ?_
  show 2 * m_nx go s + 0 = m_nx h s
  omega
theorem Anx_t {go go' gp h h1 : am_H} (T : Tw go gp h) (T1 : Th go' gp h1) {s : Nat} (hs : s ∈ [16, 27, 28, 29, 30]) (hd : m_nx go' s = m_nx go s + 1) : Anx true gp h1 s := by
  have e := nx_eq T.1.1.2.2.2 T.1.2.1.2.2.2 T.2 s hs
  have q := T1.2.2 s hs
  unfold Anx rhoS
  simp only [List.mem_cons, List.not_mem_nil, or_false] at hs
  rw [if_neg (by simp only; omega), if_neg (by simp only; omega)]
  simp only [bN]
  refine Prod.ext rfl ?_
  show 2 * m_nx gp s + 1 = m_nx h1 s
  omega
theorem act_al {F : Nat × Nat → am_H → am_R} {d : Nat → Nat} {mf : am_H → am_R} {val : Int32 → Int32} (L : Loc mf) {go gp h : am_H} (T : Tw go gp h) (Do : DoP false d go h (F (69, 0) h) mf val) (Dp : ∀ go' h1, Th go' gp h1 → (∀ s, s ∈ [16, 27, 28, 29, 30] → m_nx go' s = m_nx go s + d s) → DoP true d gp h1 (F (72, 0) h1) mf val) : ActOK F go gp h := by
  obtain ⟨h1, go', v, a1, a2, a3, a4, a5⟩ := Do
  have T1 := T.1.o (PostC.of a2)
  refine ⟨h1, v, a1, a2.2.2.2.le (by omega), ?_⟩
  by_cases z : v = -2100000000
  · exact Or.inl ⟨z, go', T1, (a4 z).symm.trans T.2⟩
  · obtain ⟨h2, gp', v', b1, b2, b3, b4, b5⟩ := Dp go' h1 T1 (a5 z)
    obtain ⟨rfl, A⟩ := Tr.det L T.2 a3 b3
    exact Or.inr ⟨z, h2, go', gp', b1, ⟨T1.p (PostC.of b2), A⟩, b2.2.2.2.le (by omega)⟩
theorem ActOK.idr {F : Nat × Nat → am_H → am_R} {go gp h : am_H} (A : ActOK F go gp h) : ActOK (fun a h => m_bI (F a h) fun h1 v => m_ri h1 v) go gp h := by
  obtain ⟨h1, v, a1, a2, a3⟩ := A
  refine ⟨h1, v, by show m_bI (F (69, 0) h) _ = _; rw [a1, bI_ri], a2, a3.imp id ?_⟩
  rintro ⟨z, h2, go', gp', b1, b2⟩
  exact ⟨z, h2, go', gp', by show m_bI (F (72, 0) h1) _ = _; rw [b1, bI_ri], b2⟩
theorem act_ok (x : Int32) {go gp h : am_H} (T : Tw go gp h) : ActOK (fun a h => f_L_act (some a) x h) go gp h := by
  rcases af_ x with P | ⟨c, x, y, z, u, hc, e⟩
  · exact act_pg P T
  · rw [e]
    apply ActOK.idr (F := fun a h => f_L_does (some a) c x y z u h)
    rcases hc with rfl | rfl | rfl | rfl
    · exact act_al (lo_3 x y z u) T (do_3 T.1.1 x y z u (ea_X10_work T.1.1.1 (69, 0) rfl x y (Anx_f T (by decide)) (Anx_f T (by decide)))) (fun go' h1 T1 hd => do_3 T1.2.1 x y z u (ea_X10_work T1.2.1.1 (69, 0) rfl x y (Anx_t T T1 (by decide) (hd 27 (by decide))) (Anx_t T T1 (by decide) (hd 16 (by decide)))))
    · exact act_al (lo_9 x y z u) T (do_9 T.1.1 x y z u (ea_X10_collection T.1.1.1 (69, 0) rfl x y (Anx_f T (by decide)))) (fun go' h1 T1 hd => do_9 T1.2.1 x y z u (ea_X10_collection T1.2.1.1 (69, 0) rfl x y (Anx_t T T1 (by decide) (hd 28 (by decide)))))
    · exact act_al (lo_24 x y z u) T (do_24 T.1.1 x y z u (ea_X10_sign T.1.1.1 (69, 0) rfl x y z u (Anx_f T (by decide)))) (fun go' h1 T1 hd => do_24 T1.2.1 x y z u (ea_X10_sign T1.2.1.1 (69, 0) rfl x y z u (Anx_t T T1 (by decide) (hd 29 (by decide)))))
    · exact act_al (lo_27 x y z u) T (do_27 T.1.1 x y z u (ea_X10_comment T.1.1.1 (69, 0) rfl x y z (Anx_f T (by decide)))) (fun go' h1 T1 hd => do_27 T1.2.1 x y z u (ea_X10_comment T1.2.1.1 (69, 0) rfl x y z (Anx_t T T1 (by decide) (hd 30 (by decide)))))
