/-! ## what the law does to one object, as a program: the same on both -/
def PostC (b : Bool) (g h g' h' : am_H) (c : Nat) : Prop := Ob b g' h' ∧ Fr b h h' ∧ NX g h g' h' ∧ Cost h h' c
def Dt (T : am_H → am_H → Int32 → Prop) : Prop := ∀ g y g' y' v v', AgR g y → T g g' v → T y y' v' → v = v' ∧ AgR g' y'
def PgQ (F : Nat × Nat → am_H → am_R) (c : Nat) (Q : am_H → am_H → Int32 → Prop) : Prop := ∃ T : am_H → am_H → Int32 → Prop, Dt T ∧ ∀ b g h, Ob b g h → ∃ h' g' v, F (rhoS b (69, 0)) h = m_ri h' v ∧ PostC b g h g' h' c ∧ T g g' v ∧ Q g g' v
def qB (_ _ : am_H) (v : Int32) : Prop := v = 0 ∨ v = 1
def qT (g g' : am_H) (v : Int32) : Prop := v = -2100000000 → AgR g g'
theorem PostC.of {b : Bool} {g h g' h' : am_H} (P : Post b g h g' h') : PostC b g h g' h' 1 := P
theorem PostC.trans {b : Bool} {g h g1 h1 g2 h2 : am_H} {c d : Nat} (A : PostC b g h g1 h1 c) (B : PostC b g1 h1 g2 h2 d) : PostC b g h g2 h2 (c + d) := ⟨B.1, A.2.1.trans B.2.1, A.2.2.1.trans B.2.2.1, A.2.2.2.trans B.2.2.2⟩
theorem PostC.refl {b : Bool} {g h : am_H} (O : Ob b g h) : PostC b g h g h 0 := ⟨O, Fr.refl _ _, NX.refl _ _, Cost.refl _⟩
theorem PostC.le {b : Bool} {g h g1 h1 : am_H} {c d : Nat} (A : PostC b g h g1 h1 c) (hc : c ≤ d) : PostC b g h g1 h1 d := ⟨A.1, A.2.1, A.2.2.1, A.2.2.2.le hc⟩
section PG
variable {F F' : Nat × Nat → am_H → am_R} {c d : Nat} {Q Q' : am_H → am_H → Int32 → Prop}
theorem PgQ.le (P : PgQ F c Q) (hc : c ≤ d) : PgQ F d Q := by
  obtain ⟨T, dt, P⟩ := P
  refine ⟨T, dt, fun b g h O => ?_⟩
  obtain ⟨h', g', v, a1, a2, a3⟩ := P b g h O
  exact ⟨h', g', v, a1, a2.le hc, a3⟩
theorem PgQ.imp (P : PgQ F c Q) (hq : ∀ g g' v, Q g g' v → Q' g g' v) : PgQ F c Q' := by
  obtain ⟨T, dt, P⟩ := P
  refine ⟨T, dt, fun b g h O => ?_⟩
  obtain ⟨h', g', v, a1, a2, a3, a4⟩ := P b g h O
  exact ⟨h', g', v, a1, a2, a3, hq _ _ _ a4⟩
theorem PgQ.ret {v : Int32} (q : ∀ g, Q g g v) : PgQ (fun _ h => m_ri h v) 0 Q := by
  refine ⟨fun g g' v' => v' = v ∧ AgR g g', fun g y g' y' v1 v2 A t t' => ⟨t.1.trans t'.1.symm, (t.2.symm.trans A).trans t'.2⟩, fun b g h O => ⟨h, g, v, rfl, PostC.refl O, ⟨rfl, O.2.1⟩, q g⟩⟩
theorem PgQ.bind {G : Int32 → Nat × Nat → am_H → am_R} {q : Int32 → Prop} (P : PgQ F c Q') (K : ∀ v, PgQ (G v) d (fun _ _ v => q v)) : PgQ (fun a h => m_bI (F a h) fun h1 v => G v a h1) (c + d) (fun _ _ v => q v) := by
  obtain ⟨T, dt, P⟩ := P
  refine ⟨fun g g' v => ∃ g1 v1, T g g1 v1 ∧ Classical.choose (K v1) g1 g' v, fun g y g' y' v v' A t t' => ?_, fun b g h O => ?_⟩
  · obtain ⟨g1, v1, a1, a2⟩ := t
    obtain ⟨y1, w1, b1, b2⟩ := t'
    obtain ⟨rfl, A1⟩ := dt _ _ _ _ _ _ A a1 b1
    exact (Classical.choose_spec (K v1)).1 _ _ _ _ _ _ A1 a2 b2
  · obtain ⟨h1, g1, v1, a1, a2, a3, a4⟩ := P b g h O
    obtain ⟨h2, g2, v2, b1, b2, b3, b4⟩ := (Classical.choose_spec (K v1)).2 b g1 h1 a2.1
    refine ⟨h2, g2, v2, ?_, a2.trans b2, ⟨g1, v1, a3, b3⟩, b4⟩
    show m_bI (F (rhoS b (69, 0)) h) _ = _
    rw [a1, bI_ri]; exact b1
theorem PgQ.ite {p : Prop} [Decidable p] (A : p → PgQ F c Q) (B : ¬ p → PgQ F' c Q) : PgQ (fun a h => if p then F a h else F' a h) c Q := by
  by_cases z : p
  · simp only [if_pos z]; exact A z
  · simp only [if_neg z]; exact B z
end PG
theorem Tr.dt {mf : am_H → am_R} {val : Int32 → Int32} (L : Loc mf) : Dt (Tr mf val) := fun _ _ _ _ _ _ A t t' => Tr.det L A t t'
theorem PgQ.of_do {F : Nat × Nat → am_H → am_R} {mf : am_H → am_R} {val : Int32 → Int32} (L : Loc mf) {d : Nat → Nat} (D : ∀ {b g h}, Ob b g h → DoP b d g h (F (rhoS b (69, 0)) h) mf val) : PgQ F 1 qT := by
  refine ⟨Tr mf val, Tr.dt L, fun b g h O => ?_⟩
  obtain ⟨h', g', v, a1, a2, a3, a4, -⟩ := D O
  exact ⟨h', g', v, a1, PostC.of a2, a3, a4⟩
theorem PgQ.of_doN {F : Nat × Nat → am_H → am_R} {mf : am_H → am_R} (L : Loc mf) (D : ∀ {b g h}, Ob b g h → DoN b g h (F (69, 0) g) (F (rhoS b (69, 0)) h) mf) : PgQ F 1 (fun _ _ _ => True) := by
  refine ⟨TrN mf, fun _ _ _ _ _ _ A t t' => TrN.det L A t t', fun b g h O => ?_⟩
  obtain ⟨h', g', g1, v, a1, a2, a3, a4, a5⟩ := D O
  exact ⟨h', g', v, a1, PostC.of a3, a4, trivial⟩
theorem pg_21 (x y : Int32) : PgQ (fun a h => f_L_does (some a) 21 x y 0 0 h) 1 qT := PgQ.of_do (lo_21 x y 0 0) (fun O => do_21 O x y 0 0)
/-! numbers below a number -/
def lowv (x n : Int32) : Int32 := (x &&& (2147483647 : Int32)) - (x &&& (2147483647 : Int32)) / n * n
theorem low_eq {x n : Int32} (hn : n ≠ 0) (h : am_H) : f_L_low x n h = m_ri h (lowv x n) := by
  unfold f_L_low m_dv
  rw [show (!(n == 0)) = true by simp [hn]]
  rfl
theorem and_nn (x : Int32) : ∃ m, m < 2 ^ 31 ∧ x &&& (2147483647 : Int32) = nI m := by
  have h0 : ¬ (x &&& (2147483647 : Int32)) < 0 := by
    have : (x &&& (2147483647 : Int32)).toBitVec.msb = false := by
      rw [Int32.toBitVec_and, BitVec.msb_and]
      rw [show (2147483647 : Int32).toBitVec.msb = false by decide, Bool.and_false]
    rw [Int32.lt_iff_toInt_lt]
    have h2 : (x &&& (2147483647 : Int32)).toInt = ((x &&& (2147483647 : Int32)).toBitVec.toNat : Int) := by
      rw [← Int32.toInt_toBitVec, BitVec.toInt_eq_msb_cond, this]; simp
    rw [h2]
    show ¬ _ < (0 : Int32).toInt
    rw [show (0 : Int32).toInt = 0 from rfl]
    omega
  refine ⟨(x &&& (2147483647 : Int32)).toNatClampNeg, ?_, ?_⟩
  · have := Int32.toInt_lt (x &&& (2147483647 : Int32))
    rw [Int32.toNatClampNeg]
    omega
  · apply Int32.toInt_inj.mp
    rw [nI_toInt (by have := Int32.toInt_lt (x &&& (2147483647 : Int32)); rw [Int32.toNatClampNeg]; omega)]
    rw [Int32.lt_iff_toInt_lt] at h0
    rw [show (0 : Int32).toInt = 0 from rfl] at h0
    rw [Int32.toNatClampNeg]; omega
theorem nI_div {m k : Nat} (hm : m < 2 ^ 31) (hk : 0 < k) (hk2 : k < 2 ^ 31) : nI m / nI k = nI (m / k) := by
  apply Int32.toInt_inj.mp
  have h1 : m / k ≤ m := Nat.div_le_self _ _
  rw [Int32.toInt_div, nI_toInt hm, nI_toInt hk2, nI_toInt (by omega)]
  rw [show ((m : Int).tdiv (k : Int)) = ((m / k : Nat) : Int) from rfl]
  generalize m / k = q at h1 ⊢
  exact Int.bmod_eq_of_le (by omega) (by omega)
theorem nI_mod {m k : Nat} (hm : m < 2 ^ 31) (hk : 0 < k) (hk2 : k < 2 ^ 31) : nI m - nI m / nI k * nI k = nI (m % k) := by
  rw [nI_div hm hk hk2]
  have h2 : nI (m / k) * nI k = nI (m / k * k) := (Int32.ofNat_mul _ _).symm
  rw [h2, nI_sub (Nat.div_mul_le_self m k)]
  congr 1
  have := Nat.div_add_mod m k
  rw [Nat.mul_comm] at this
  omega
theorem low_lt (x : Int32) {k : Nat} (hk : 0 < k) (hk2 : k < 2 ^ 31) : ∃ i, i < k ∧ lowv x (nI k) = nI i := by
  obtain ⟨m, hm, e⟩ := and_nn x
  unfold lowv
  rw [e, nI_mod hm hk hk2]
  exact ⟨m % k, Nat.mod_lt _ hk, rfl⟩
