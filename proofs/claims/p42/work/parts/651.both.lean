/-! ## the law's beginning: both are made -/
theorem h0_gi {n : Nat} {xs : Nat → Int32} {s k j : Nat} (hs : s ≠ 1) : m_gi (m_al (am_h0 n xs) 69 13) s k j = 0 := by
  rw [m_gi_al]
  split
  · rfl
  · show (if s = 1 ∧ k = 0 then xs j else if s = 1 ∧ k = 1 ∧ j = 0 then Int32.ofNat n else 0) = 0
    rw [if_neg (fun z => hs z.1), if_neg (fun z => hs z.1)]
theorem h0_gr {n : Nat} {xs : Nat → Int32} {s k j : Nat} : m_gr (m_al (am_h0 n xs) 69 13) s k j = none := by
  show (if s = 69 ∧ k = m_nx (am_h0 n xs) 69 then none else none) = _
  split <;> rfl
theorem h0_nx {n : Nat} {xs : Nat → Int32} {s : Nat} (h1 : s ≠ 1) (h69 : s ≠ 69) : m_nx (m_al (am_h0 n xs) 69 13) s = 0 := by
  rw [nx_al h69]
  show (if s = 1 then 2 else 0) = 0
  rw [if_neg h1]
theorem Sc_1 {a : Nat × Nat} (h : Sc a = true) : a.1 ≠ 1 := fun z => by
  unfold Sc at h
  rw [z] at h; revert h; decide
theorem rho_n1 {b : Bool} {a : Nat × Nat} (h : Sc a = true) : (rhoS b a).1 ≠ 1 := fun z => by
  rw [rhoS_1] at z
  have := Sc_1 h
  split at z
  · cases b <;> simp at z
  · exact this z
theorem eq_q {S : Nat × Nat → Bool} {ρ : Nat × Nat → Nat × Nat} {d : Nat → Nat} {h g h1 : am_H} {r r' : am_R} (Q : eqQA S ρ d h g r r') (e : r = m_rt h1 none) : ∃ g1, r' = m_rt g1 none ∧ eqSA S ρ h g h1 g1 ∧ (∀ s, m_nx h1 s = m_nx h s + d s ∧ m_nx g1 s = m_nx g s + d s) := by
  rcases Q with ⟨z, -⟩ | ⟨h', g', o, o', q1, q2, q3, q4, q5⟩
  · rw [e] at z; cases z
  · rw [e] at q1; cases q1
    rcases o' with (_ | y | y | y) | y <;> first | exact q4.elim | skip
    refine ⟨g', q2, q3, fun s => ?_⟩
    obtain ⟨f, f1, f2⟩ := q3.2.2.2.1
    have a1 := q5 _ rfl s
    have a2 := f2 s
    omega
theorem nx_rr {g : am_H} (R : RR 0 0 0 0 0 g) : ∀ s, s ∈ [16, 27, 28, 29, 30] → m_nx g s = 0 := by
  intro s hs
  simp only [List.mem_cons, List.not_mem_nil, or_false] at hs
  rcases hs with rfl | rfl | rfl | rfl | rfl
  · exact R.N.2.2.2.2.1
  · exact R.N.2.2.2.1
  · exact R.rCo.2.2.2.1
  · exact R.rSg.2.2.2.1
  · exact R.rCm.2.2.2.1
theorem both_init (n : Nat) (xs : Nat → Int32) : ∃ hC hD g0, f_X10_init (69, 0) (m_al (am_h0 n xs) 69 13) = m_rt hC none ∧ m_nx (am_h0 n xs) 69 = 0 ∧ m_nx hC 72 = 0 ∧ f_X10_init (72, 0) (m_al hC 72 13) = m_rt hD none ∧ Tw g0 g0 hD ∧ RR 0 0 0 0 0 g0 ∧ m_nc hD ≤ 3000 ∧ m_ns hD ≤ 300000 := by
  obtain ⟨hC, hE, a1, a2, a3, a4, a5, R, -, c1, c2⟩ := init_rr n xs
  have r0 : ∀ b : Bool, eqR Sc (rhoS b) (m_al (am_h0 n xs) 69 13) (m_al (am_h0 n xs) 69 13) := fun b => ⟨fun a j s => by rw [h0_gi (rho_n1 s), h0_gi (Sc_1 s)], fun a j s => ⟨by rw [h0_gr, h0_gr]; rfl, by rw [h0_gr]; exact okp_n⟩⟩
  have nxL : ∀ s, s ∈ LL → m_nx (m_al (am_h0 n xs) 69 13) s = 0 := fun s hs => by
    have := (by decide : ∀ s, s ∈ LL → s ≠ 1 ∧ s ≠ 69) s hs
    exact h0_nx this.1 this.2
  have nxP : ∀ s, s ∈ [26, 5, 6, 7] → m_nx (m_al (am_h0 n xs) 69 13) s = 0 := fun s hs => by
    have := (by decide : ∀ s, s ∈ [26, 5, 6, 7] → s ≠ 1 ∧ s ≠ 69) s hs
    exact h0_nx this.1 this.2
  have rL : ∀ s, s ∈ LL → Sc (s, 0) = true ∧ ∀ b : Bool, rhoS b (s, 0) = (s, bN b) := by decide
  obtain ⟨hC', p1, p2, p3⟩ := eq_q (ei_X10 (b := false) (r0 false) (fun s hs => by rw [nxL s hs]; exact ⟨(rL s hs).1, (rL s hs).2 false⟩) (fun s hs => by rw [nxP s hs]; exact ⟨rfl, rfl⟩)) a1
  rw [rho_f, a1] at p1
  cases p1
  have nC : ∀ s, s ∈ LL → m_nx hC s = 1 := fun s hs => by
    rw [(p3 s).1, nxL s hs]
    exact (by decide : ∀ s, s ∈ LL → 0 + dI s = 1) s hs
  have nP : ∀ s, s ∈ [26, 5, 6, 7] → m_nx hC s = 12 := fun s hs => by
    rw [(p3 s).1, nxP s hs]
    exact (by decide : ∀ s, s ∈ [26, 5, 6, 7] → 0 + dI s = 12) s hs
  have n72 : m_nx hC 72 = 0 := by rw [(p3 72).1, h0_nx (by decide) (by decide)]; decide
  have nLL72 : ∀ s, s ∈ LL → s ≠ 72 := by decide
  have im : ∀ a : Nat × Nat, Sc a = true → ∀ c : Nat × Nat, Sc c = true → rhoS false c ≠ rhoS true a := fun a sa c sc => rhoS_apart sc sa (by decide)
  have rT : eqR Sc (rhoS true) (m_al (am_h0 n xs) 69 13) (m_al hC 72 13) := by
    refine ⟨fun a j s => ?_, fun a j s => ?_⟩
    · rw [h0_gi (Sc_1 s), m_gi_al]
      split
      · rfl
      · rw [(p2.2.2.1 (rhoS true a) j (im a s)).1, h0_gi (rho_n1 s)]
    · rw [h0_gr]
      refine ⟨?_, okp_n⟩
      show (if (rhoS true a).1 = 72 ∧ (rhoS true a).2 = m_nx hC 72 then none else m_gr hC (rhoS true a).1 (rhoS true a).2 j) = _
      split
      · rfl
      · rw [(p2.2.2.1 (rhoS true a) j (im a s)).2, h0_gr]; rfl
  obtain ⟨hD, q1, q2, q3⟩ := eq_q (ei_X10 (b := true) rT (fun s hs => by
    rw [nxL s hs, nx_al (nLL72 s hs), nC s hs]; exact ⟨(rL s hs).1, (rL s hs).2 true⟩) (fun s hs => by
    rw [nxP s hs, nx_al ((by decide : ∀ s, s ∈ [26, 5, 6, 7] → s ≠ 72) s hs), nP s hs]; exact ⟨rfl, rfl⟩)) a1
  rw [rho_t] at q1
  -- the reference's part
  have n70 : m_nx hC 70 = 0 := a3
  have nM : ∀ s, s ∈ LM → m_nx (m_al hC 70 47) s = 0 := fun s hs => by
    have := (by decide : ∀ s, s ∈ LM → s ≠ 1 ∧ s ≠ 69 ∧ s ≠ 70 ∧ dI s = 0) s hs
    rw [nx_al this.2.2.1, (p3 s).1, h0_nx this.1 this.2.1, this.2.2.2]
  have rM : eqR Sm id (m_al hC 70 47) (m_al hC 70 47) := by
    refine ⟨fun a j s => rfl, fun a j s => ⟨by rw [Option.map_id]; rfl, ?_⟩⟩
    show okp Sm (if a.1 = 70 ∧ a.2 = m_nx hC 70 then none else m_gr hC a.1 a.2 j)
    split
    · exact okp_n
    · rw [(p2.2.1 a.1 a.2 j (SmSc s)).2.1, h0_gr]; exact okp_n
  obtain ⟨hE', e1, e2, e3⟩ := eq_q (ei_X11 rM (fun s hs => by
    rw [nM s hs]; exact ⟨(by decide : ∀ s, s ∈ LM → Sm (s, 0) = true) s hs, rfl⟩)) a4
  rw [a4] at e1
  cases e1
  have cl : CL hC (nz (m_al hE 71 1)) := fun s k j sc => by
    have n70' : s ≠ 70 := fun z => by subst z; unfold Sc at sc; simp at sc
    have n71' : s ≠ 71 := fun z => by subst z; unfold Sc at sc; simp at sc
    have w := e2.2.1 s k j (ScSm sc)
    have v := (nz_sc (m_al hE 71 1)) s k j sc
    refine ⟨v.1.trans ?_, v.2.trans ?_⟩
    · rw [gi_al n71', w.1, gi_al n70']
    · rw [gr_al n71', w.2.1, gr_al n70']
  have ag : AgR (nz (m_al hE 71 1)) (nz (m_al hE 71 1)) := by
    refine AgR.si0 ?_
    have q : AgR hE hE := e2.1
    have n71 : ∀ s k, Sm (s, k) = true → s ≠ 71 := fun s k hs z => by subst z; unfold Sm at hs; simp at hs
    refine ⟨fun a j s => rfl, fun a j s => ⟨by rw [Option.map_id]; rfl, ?_⟩⟩
    rw [gr_al (n71 a.1 a.2 s)]
    exact (q.2 a j s).2
  have R2 : RR 0 0 0 0 0 (nz (m_al hE 71 1)) := rr_eqv (((Frm.refl _ (m_al hE 71 1)).si rfl).sr rfl) R
  have z0 : m_gi (nz (m_al hE 71 1)) 70 0 0 = 0 ∧ m_gr (nz (m_al hE 71 1)) 70 0 0 = none := ⟨(gi_eq : m_gi (m_si (m_al hE 71 1) 70 0 0 0) 70 0 0 = 0), by show m_gr (m_sr _ 70 0 0 none) 70 0 0 = none; rw [m_gr_sr, if_pos ⟨rfl, rfl, rfl⟩]⟩
  have oF : eqR Sc (rhoS false) hC hD := by
    have n72' : ∀ a : Nat × Nat, Sc a = true → (rhoS false a).1 ≠ 72 := fun a s z => by
      rw [rhoS_1] at z
      have := Sc_72 s
      split at z
      · revert z; decide
      · exact this z
    refine ⟨fun a j s => ?_, fun a j s => ?_⟩
    · rw [(q2.2.2.1 (rhoS false a) j (fun c sc => rhoS_apart sc s (by decide))).1, gi_al (n72' a s)]
      exact p2.1.1 a j s
    · rw [(q2.2.2.1 (rhoS false a) j (fun c sc => rhoS_apart sc s (by decide))).2, gr_al (n72' a s)]
      exact p2.1.2 a j s
  have Of : Ob false (nz (m_al hE 71 1)) hD := ⟨oF.congr (fun s k j sc => (cl s k j sc).1) (fun s k j sc => (cl s k j sc).2), ag, z0, ⟨_, _, _, _, _, R2⟩⟩
  have Ot : Ob true (nz (m_al hE 71 1)) hD := ⟨q2.1.congr (fun s k j sc => (cl s k j sc).1) (fun s k j sc => (cl s k j sc).2), ag, z0, ⟨_, _, _, _, _, R2⟩⟩
  have nx : ∀ s, s ∈ [16, 27, 28, 29, 30] → m_nx hD s = m_nx (nz (m_al hE 71 1)) s + m_nx (nz (m_al hE 71 1)) s := fun s hs => by
    have := (by decide : ∀ s, s ∈ [16, 27, 28, 29, 30] → s ≠ 1 ∧ s ≠ 69 ∧ s ≠ 72 ∧ dI s = 0) s hs
    rw [nx_rr R2 s hs, (q3 s).2, nx_al this.2.2.1, (p3 s).1, h0_nx this.1 this.2.1, this.2.2.2]
  have k1 : m_nc hC ≤ 1000 ∧ m_ns hC ≤ 100000 := by
    obtain ⟨c, m, w1, w2, w3, w4⟩ := e2.2.2.2.2
    rw [nc_al] at w1 c1
    rw [ns_al] at w3 c2
    omega
  obtain ⟨c, m, w1, w2, w3, w4⟩ := q2.2.2.2.2
  rw [nc_al] at w2
  rw [ns_al] at w4
  refine ⟨hC, hD, _, a1, a2, n72, q1, ⟨⟨Of, Ot, nx⟩, ag⟩, R2, ?_, ?_⟩
  · omega
  · omega
