/-! ## a call on one object: what it makes of the object's part, and of its ghost -/
theorem vI_inj {a b : Int32} (h : vI a = vI b) : a = b := by
  unfold vI at h
  have h1 := congrArg Int64.toInt h
  rw [Int32.toInt_toInt64, Int32.toInt_toInt64] at h1
  exact Int32.toInt_inj.mp h1
def b1 (v : Int32) : Int32 := if v = 0 then 0 else 1
theorem vB_b1 {a b : Int32} (h : vB a = vB b) : b1 a = b1 b := by
  unfold vB at h
  unfold b1
  by_cases ha : a = 0
  · by_cases hb : b = 0
    · rw [if_pos ha, if_pos hb]
    · rw [if_pos ha, if_neg hb] at h; exact absurd h (by decide)
  · by_cases hb : b = 0
    · rw [if_neg ha, if_pos hb] at h; exact absurd h (by decide)
    · rw [if_neg ha, if_neg hb]
theorem inv_I {r : am_R} {K : am_H → Int32 → am_R} {KX : am_H → Nat → am_R} {V : Int32 → Int64} (hK : ∀ h1 v, K h1 v = m_ri (m_sl h1 71 0 0 (V v)) 0) (hX : ∀ h1 e h2 k, KX h1 e = m_ri h2 k → e < 3 ∧ k ≠ 0 ∧ h2 = h1) {h1 : am_H} {k : Int32} (e : m_bIx r K KX = m_ri h1 k) : (∃ v g1, r = m_ri g1 v ∧ k = 0 ∧ h1 = m_sl g1 71 0 0 (V v)) ∨ ∃ g1 e, r = some (g1, .inr e) ∧ e < 3 ∧ k ≠ 0 ∧ h1 = m_op g1 := by
  rcases r with _ | ⟨g1, (_ | x | x | x) | x⟩
  · cases e
  · cases e
  · left
    have e2 : m_ri (m_sl g1 71 0 0 (V x)) 0 = m_ri h1 k := (hK g1 x).symm.trans e
    cases e2
    exact ⟨x, g1, rfl, rfl, rfl⟩
  · cases e
  · cases e
  · right
    obtain ⟨q1, q2, q3⟩ := hX _ _ _ _ e
    exact ⟨g1, x, rfl, q1, q2, q3⟩
theorem inv_V {r : am_R} {K : am_H → am_R} {KX : am_H → Nat → am_R} (hK : ∀ h1, K h1 = m_ri h1 0) (hX : ∀ h1 e h2 k, KX h1 e = m_ri h2 k → e < 3 ∧ k ≠ 0 ∧ h2 = h1) {h1 : am_H} {k : Int32} (e : m_bVx r K KX = m_ri h1 k) : (∃ g1, r = m_rt g1 none ∧ k = 0 ∧ h1 = g1) ∨ ∃ g1 e, r = some (g1, .inr e) ∧ e < 3 ∧ k ≠ 0 ∧ h1 = m_op g1 := by
  rcases r with _ | ⟨g1, (_ | x | x | x) | x⟩
  · cases e
  · left
    have e2 : m_ri g1 0 = m_ri h1 k := (hK g1).symm.trans e
    cases e2
    exact ⟨_, rfl, rfl, rfl⟩
  · cases e
  · cases e
  · cases e
  · right
    obtain ⟨q1, q2, q3⟩ := hX _ _ _ _ e
    exact ⟨g1, x, rfl, q1, q2, q3⟩
theorem ScSm {a : Nat × Nat} (h : Sc a = true) : Sm a = false := by
  unfold Sc at h
  unfold Sm
  cases hm : (Nat.ble 31 a.1 && Nat.ble a.1 68 || a.1 == 70) && a.2 == 0
  · rfl
  · exfalso
    simp only [Bool.and_eq_true, Bool.or_eq_true, Nat.ble_eq, beq_iff_eq] at h hm
    omega
theorem SmSc {a : Nat × Nat} (h : Sm a = true) : Sc a = false := by
  cases hc : Sc a
  · rfl
  · rw [ScSm hc] at h; cases h
theorem eqR.congr {S : Nat × Nat → Bool} {ρ : Nat × Nat → Nat × Nat} {g g' h : am_H} (R : eqR S ρ g h) (h1 : ∀ s k j, S (s, k) = true → m_gi g' s k j = m_gi g s k j) (h2 : ∀ s k j, S (s, k) = true → m_gr g' s k j = m_gr g s k j) : eqR S ρ g' h :=
  ⟨fun a j sa => by rw [h1 a.1 a.2 j sa]; exact R.1 a j sa, fun a j sa => by rw [h2 a.1 a.2 j sa]; exact R.2 a j sa⟩
theorem nx_list {s : Nat} (hs : s ∈ [16, 27, 28, 29, 30]) : s ≠ 0 ∧ ∀ k, Sm (s, k) = false := by
  simp only [List.mem_cons, List.not_mem_nil, or_false] at hs
  rcases hs with rfl | rfl | rfl | rfl | rfl <;> exact ⟨by decide, fun k => rfl⟩
/-- the ghost behind a call: x what the class left, h2 what the reference made of it -/
theorem step_ob {b : Bool} {g h g1 hb x h2 : am_H} (O : Ob b g h) (d : eqSA Sc (rhoS b) g h g1 hb) (hx : (∀ s k j, m_gi x s k j = m_gi g1 s k j) ∧ (∀ s k j, m_gr x s k j = m_gr g1 s k j) ∧ (∀ s, s ≠ 0 → m_nx x s = m_nx g1 s) ∧ m_nc x = m_nc g1 ∧ m_ns x = m_ns g1) {mf : am_H → am_R} (L : Loc mf) {o : Option am_V} (em : mf x = some (h2, .inl o)) (hn : m_nc h2 ≤ m_nc g + 2 ∧ m_ns h2 ≤ m_ns g + 20) (R : RRx h2) :
    Ob b (nz h2) hb ∧ Fr b h hb ∧ NX g h (nz h2) hb ∧ Cost h hb 1 ∧ AgR g x ∧ (∀ s k j, Sm (s, k) = false → m_gl h2 s k j = m_gl x s k j) ∧ (Frm (pX [] [15]) g h2 → AgR g (nz h2)) ∧ (∀ s k j, Sc (s, k) = true → m_gi h2 s k j = m_gi g1 s k j ∧ m_gr h2 s k j = m_gr g1 s k j) ∧ ∀ s, s ∈ [16, 27, 28, 29, 30] → m_nx (nz h2) s = m_nx g1 s := by
  obtain ⟨oc, om, o0, orr⟩ := O
  obtain ⟨d1, d2, d3, ⟨dd, d4, d5⟩, c, n, d6, d7, d8, d9⟩ := d
  have ax : AgR g x := om.of (fun s k j hs => by rw [hx.1]; exact (d2 s k j (SmSc hs)).1) (fun s k j hs => by rw [hx.2.1]; exact (d2 s k j (SmSc hs)).2.1)
  have L1 := L x x (ax.symm.trans ax)
  have ee : eqS Sm id x x h2 h2 := by
    rcases L1 with ⟨z, -⟩ | ⟨h', g', o1, o2, e1, e2, e3, e4⟩
    · rw [em] at z; cases z
    · rw [em] at e1; rw [em] at e2
      cases e1; cases e2
      exact e3
  obtain ⟨f1, f2, f3, f5, c', n', f6, f7, f8, f9⟩ := ee
  have cg : ∀ s k j, Sc (s, k) = true → m_gi h2 s k j = m_gi g1 s k j ∧ m_gr h2 s k j = m_gr g1 s k j := fun s k j hs => by
    obtain ⟨z1, z2, z3⟩ := f2 s k j (ScSm hs)
    exact ⟨z1.trans (hx.1 s k j), z2.trans (hx.2.1 s k j)⟩
  have n70 : ∀ s k, Sc (s, k) = true → s ≠ 70 := fun s k hs z => by subst z; unfold Sc at hs; simp at hs
  have sg : ∀ s k j, Sc (s, k) = true → m_gi (nz h2) s k j = m_gi h2 s k j := fun s k j hs => by
    show m_gi (m_si h2 70 0 0 0) s k j = _
    rw [m_gi_si, if_neg (fun z => n70 s k hs z.1)]
  have sr : ∀ s k j, Sc (s, k) = true → m_gr (nz h2) s k j = m_gr h2 s k j := fun s k j hs => by
    show m_gr (m_sr (m_si h2 70 0 0 0) 70 0 0 none) s k j = _
    rw [m_gr_sr, if_neg (fun z => n70 s k hs z.1)]; rfl
  refine ⟨⟨d1.congr (fun s k j hs => by rw [sg s k j hs]; exact (cg s k j hs).1) (fun s k j hs => by rw [sr s k j hs]; exact (cg s k j hs).2), AgR.si0 f1, ⟨(gi_eq : m_gi (m_si h2 70 0 0 0) 70 0 0 = 0), by show m_gr (m_sr _ 70 0 0 none) 70 0 0 = none; rw [m_gr_sr, if_pos ⟨rfl, rfl, rfl⟩]⟩, ?_⟩, fun c j q => d3 c j q, fun s hs => ?_, ⟨by rw [d7]; rw [f6, hx.2.2.2.1, d6] at hn; have := hn.1; omega, by rw [d9]; rw [f8, hx.2.2.2.2, d8] at hn; have := hn.2; omega⟩, ax, fun s k j hs => (f2 s k j hs).2.2, fun F => ?_, cg, fun s hs => ?_⟩
  · obtain ⟨W, Cn, Tn, Sn, Qn, R⟩ := R
    exact ⟨W, Cn, Tn, Sn, Qn, rr_eqv (((Frm.refl _ h2).si rfl).sr rfl) R⟩
  · obtain ⟨s0, sm⟩ := nx_list hs
    have z1 := f5 s
    rw [hx.2.2.1 s s0] at z1
    show m_nx hb s + m_nx g s = m_nx h s + m_nx h2 s
    have z2 := d5 s
    rw [z1.1, z2.1, z2.2]
    omega
  · have pq : ∀ s k j, Sm (s, k) = true → ¬ (s = 70 ∧ k = 0 ∧ j = 0) → pX [] [15] s j = true := fun s k j hs q => by
      unfold Sm at hs
      simp only [Bool.and_eq_true, Bool.or_eq_true, Nat.ble_eq, beq_iff_eq] at hs
      unfold pX
      rw [Bool.and_eq_true]
      have hk := hs.2
      constructor
      · simp only [List.contains_cons, List.contains_nil, Bool.or_false, Bool.not_eq_true']
        apply beq_false_of_ne
        intro z
        have z1 := congrArg Prod.fst z
        have z2 := congrArg Prod.snd z
        exact q ⟨z1, hk, z2⟩
      · have h1 : s ≠ 1000 := by omega
        have h2 : s ≠ 15 := by omega
        simp [h1, h2]
    refine om.of (fun s k j hs => ?_) (fun s k j hs => ?_)
    · by_cases q : s = 70 ∧ k = 0 ∧ j = 0
      · obtain ⟨rfl, rfl, rfl⟩ := q
        rw [o0.1]; exact (gi_eq : m_gi (m_si h2 70 0 0 0) 70 0 0 = 0)
      · show m_gi (m_si h2 70 0 0 0) s k j = _
        rw [m_gi_si, if_neg q]
        exact F.1 s k j (pq s k j hs q)
    · by_cases q : s = 70 ∧ k = 0 ∧ j = 0
      · obtain ⟨rfl, rfl, rfl⟩ := q
        rw [o0.2]
        show m_gr (m_sr _ 70 0 0 none) 70 0 0 = none
        rw [m_gr_sr, if_pos ⟨rfl, rfl, rfl⟩]
      · show m_gr (m_sr (m_si h2 70 0 0 0) 70 0 0 none) s k j = _
        rw [m_gr_sr, if_neg q]
        exact F.2.1 s k j (pq s k j hs q)
  · obtain ⟨s0, sm⟩ := nx_list hs
    have z1 := f5 s
    rw [hx.2.2.1 s s0] at z1
    exact z1.1
def Post (b : Bool) (g h g' h' : am_H) : Prop := Ob b g' h' ∧ Fr b h h' ∧ NX g h g' h' ∧ Cost h h' 1
/-- the class's part of the ghost is what the class left -/
def CL (g1 g' : am_H) : Prop := ∀ s k j, Sc (s, k) = true → m_gi g' s k j = m_gi g1 s k j ∧ m_gr g' s k j = m_gr g1 s k j
theorem nz_sc (g : am_H) : CL g (nz g) := fun s k j hs => by
  have n70 : s ≠ 70 := fun z => by subst z; unfold Sc at hs; simp at hs
  constructor
  · show m_gi (m_si g 70 0 0 0) s k j = _
    rw [m_gi_si, if_neg (fun z => n70 z.1)]
  · show m_gr (m_sr (m_si g 70 0 0 0) 70 0 0 none) s k j = _
    rw [m_gr_sr, if_neg (fun z => n70 z.1)]; rfl
def StI (b : Bool) (d : Nat → Nat) (g h : am_H) (rc r mr : am_R) (mf : am_H → am_R) (V : Int32 → Int64) : Prop :=
  (∃ (h' g' g1 x g2 : am_H) (v b' : Int32), r = m_ri h' v ∧ rc = m_ri g1 v ∧ Post b g h g' h' ∧ (AgR g x ∧ mf x = m_ri g2 b' ∧ AgR (nz g2) g') ∧ m_gi g2 70 0 0 = 0 ∧ V v = V b' ∧ (V = vI → b' = -2100000000 → AgR g g') ∧ CL g1 g' ∧ ∀ s, s ∈ [16, 27, 28, 29, 30] → m_nx g' s = m_nx g s + d s) ∨
  (∃ (h' g' x g2 : am_H) (e : Nat) (b' : Int32), r = some (h', .inr e) ∧ e < 3 ∧ Post b g h g' (m_op h') ∧ (AgR g x ∧ mf x = m_ri g2 b' ∧ AgR (nz g2) g') ∧ m_gi g2 70 0 0 ≠ 0 ∧ AgR g g')
theorem stepI {b : Bool} {d : Nat → Nat} {g h : am_H} (O : Ob b g h) {rc r mr : am_R} {mf : am_H → am_R} {V : Int32 → Int64} (hc : eqQA Sc (rhoS b) d g h rc r) (L : Loc mf) (ok : OpOK g mr mf V) (inv : ∀ h1 k, mr = m_ri h1 k → (∃ v g1, rc = m_ri g1 v ∧ k = 0 ∧ h1 = m_sl g1 71 0 0 (V v)) ∨ ∃ g1 e, rc = some (g1, .inr e) ∧ e < 3 ∧ k ≠ 0 ∧ h1 = m_op g1) : StI b d g h rc r mr mf V := by
  obtain ⟨h1, k, h2, b', er, em, e70, ev, s1, s2, nc, ns, fx, R⟩ := ok
  rcases inv h1 k er with ⟨v, g1, c1, rfl, rfl⟩ | ⟨g1, e, c1, e3, k0, rfl⟩
  · left
    rcases hc with ⟨z, -⟩ | ⟨hs, hb, o, o', d1, d2, d3, d4, d5⟩
    · rw [c1] at z; cases z
    · rw [c1] at d1; cases d1
      obtain ⟨q1, q2, q3, q4, q5, q6, q7, q8, q9⟩ := step_ob O d3 (x := m_sl g1 71 0 0 (V v)) ⟨fun _ _ _ => rfl, fun _ _ _ => rfl, fun _ _ => rfl, rfl, rfl⟩ L em ⟨nc, ns⟩ R
      rcases o' with (_ | y | y | y) | y <;> first | exact d4.elim | skip
      cases d4
      have e1 : V v = V b' := by
        rw [← ev rfl, q6 71 0 0 rfl]; exact gl_eq.symm
      exact ⟨hb, nz h2, g1, _, h2, v, b', d2, c1, ⟨q1, q2, q3, q4⟩, ⟨q5, em, q1.2.1⟩, e70, e1, fun z1 z2 => q7 (fx (Or.inr ⟨z1, z2⟩)), fun s k j hs => ⟨((nz_sc h2) s k j hs).1.trans (q8 s k j hs).1, ((nz_sc h2) s k j hs).2.trans (q8 s k j hs).2⟩, fun s hs => by rw [q9 s hs, d5 _ rfl s]⟩
  · right
    rcases hc with ⟨z, -⟩ | ⟨hs, hb, o, o', d1, d2, d3, d4, d5⟩
    · rw [c1] at z; cases z
    · rw [c1] at d1; cases d1
      obtain ⟨q1, q2, q3, q4, q5, q6, q7, q8, q9⟩ := step_ob O d3 (x := m_op g1) ⟨fun _ _ _ => rfl, fun _ _ _ => rfl, fun s hs => nx_op hs, rfl, rfl⟩ L em ⟨nc, ns⟩ R
      rcases o' with (_ | y | y | y) | y <;> first | exact d4.elim | skip
      cases d4
      exact ⟨hb, nz h2, _, h2, e, b', d2, e3, ⟨⟨q1.1, q1.2⟩, q2, fun s hs => by rw [nx_op (nx_list hs).1]; exact q3 s hs, q4⟩, ⟨q5, em, q1.2.1⟩, by rw [e70]; exact k0, q7 (fx (Or.inl k0))⟩
