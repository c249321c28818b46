/-! ## where something is made -/
def eqQA (S : Nat × Nat → Bool) (ρ : Nat × Nat → Nat × Nat) (d : Nat → Nat) (h g : am_H) (r r' : am_R) : Prop := (r = none ∧ r' = none) ∨ ∃ (h' g' : am_H) (o o' : Option am_V ⊕ Nat), r = some (h', o) ∧ r' = some (g', o') ∧ eqSA S ρ h g h' g' ∧ eqO S ρ o o' ∧ ∀ v, o = .inl v → ∀ s, m_nx h' s = m_nx h s + d s
def d0 (_ : Nat) : Nat := 0
def dp (t : Nat) (d : Nat → Nat) (s : Nat) : Nat := (if s = t then 1 else 0) + d s
section EQA
variable {S : Nat × Nat → Bool} {ρ : Nat × Nat → Nat × Nat} {d : Nat → Nat} {h g h1 g1 h2 g2 : am_H}
theorem eqS.toA (A : eqS S ρ h g h1 g1) : eqSA S ρ h g h1 g1 := by
  obtain ⟨a1, a2, a3, a6, a7⟩ := A
  exact ⟨a1, a2, a3, ⟨fun _ => 0, fun _ _ => rfl, fun s => ⟨(a6 s).1, (a6 s).2⟩⟩, a7⟩
theorem eqQ.toA {r r' : am_R} (A : eqQ S ρ h g r r') : eqQA S ρ d0 h g r r' := A.imp id fun ⟨h', g', o, o', a1, a2, a3, a4⟩ => ⟨h', g', o, o', a1, a2, a3.toA, a4, fun _ _ s => (a3.2.2.2.1 s).1⟩
theorem eqSA.trans (A : eqSA S ρ h g h1 g1) (B : eqSA S ρ h1 g1 h2 g2) : eqSA S ρ h g h2 g2 := by
  obtain ⟨a1, a2, a3, ⟨d, a5, a6⟩, c, n, a7, a8, a9, a10⟩ := A
  obtain ⟨b1, b2, b3, ⟨d', b5, b6⟩, c', n', b7, b8, b9, b10⟩ := B
  refine ⟨b1, fun s k j hs => ⟨(b2 s k j hs).1.trans (a2 s k j hs).1, (b2 s k j hs).2.1.trans (a2 s k j hs).2.1, (b2 s k j hs).2.2.trans (a2 s k j hs).2.2⟩, fun b j hb => ⟨(b3 b j hb).1.trans (a3 b j hb).1, (b3 b j hb).2.trans (a3 b j hb).2⟩, ⟨fun s => d s + d' s, fun s hs => by show d s + d' s = 0; rw [a5 s hs, b5 s hs], fun s => ⟨by rw [(b6 s).1, (a6 s).1, Nat.add_assoc], by rw [(b6 s).2, (a6 s).2, Nat.add_assoc]⟩⟩, c + c', n + n', ?_, ?_, ?_, ?_⟩
  · rw [b7, a7, Nat.add_assoc]
  · rw [b8, a8, Nat.add_assoc]
  · rw [b9, a9, Nat.add_assoc]
  · rw [b10, a10, Nat.add_assoc]
theorem eqQA.step {r r' : am_R} (A : eqS S ρ h g h1 g1) (B : eqQA S ρ d h1 g1 r r') : eqQA S ρ d h g r r' := by
  rcases B with B | ⟨h', g', o, o', b1, b2, b3, b4, b5⟩
  · exact Or.inl B
  · exact Or.inr ⟨h', g', o, o', b1, b2, A.toA.trans b3, b4, fun v e s => by rw [b5 v e s, (A.2.2.2.1 s).1]⟩
theorem qa_ex (R : eqR S ρ h g) {k : Nat} : eqQA S ρ d h g (m_ex h k) (m_ex g k) := by
  rcases q_ex R (k := k) with ⟨z, -⟩ | ⟨h', g', o, o', a1, a2, a3, a4⟩
  · cases z
  · cases a1
    exact Or.inr ⟨_, g', _, o', rfl, a2, a3.toA, a4, fun v e => by cases e⟩
theorem eqSA.al (O : RhoOk S ρ) (R : eqR S ρ h g) {s n : Nat} (ss : S (s, m_nx h s) = true) (A : ρ (s, m_nx h s) = (s, m_nx g s)) : eqSA S ρ h g (m_al h s n) (m_al g s n) := by
  refine ⟨R.of_al O ss A, fun t k i hs => ⟨?_, ?_, ?_⟩, fun b i hb => ⟨?_, ?_⟩, ⟨fun t => if t = s then 1 else 0, fun t ht => if_neg (fun z => by have := ht (m_nx h s); rw [z, ss] at this; cases this), fun t => ⟨?_, ?_⟩⟩, 1, n, rfl, rfl, rfl, rfl⟩
  · show (if t = s ∧ k = m_nx h s then (0 : Int32) else m_gi h t k i) = _
    rw [if_neg (fun z => by rw [z.1, z.2, ss] at hs; cases hs)]
  · show (if t = s ∧ k = m_nx h s then (none : Option (Nat × Nat)) else m_gr h t k i) = _
    rw [if_neg (fun z => by rw [z.1, z.2, ss] at hs; cases hs)]
  · show (if t = s ∧ k = m_nx h s then (0 : Int64) else m_gl h t k i) = _
    rw [if_neg (fun z => by rw [z.1, z.2, ss] at hs; cases hs)]
  · show (if b.1 = s ∧ b.2 = m_nx g s then (0 : Int32) else m_gi g b.1 b.2 i) = _
    rw [if_neg (fun z => hb (s, m_nx h s) ss (by rw [A]; exact Prod.ext z.1.symm z.2.symm))]
  · show (if b.1 = s ∧ b.2 = m_nx g s then (none : Option (Nat × Nat)) else m_gr g b.1 b.2 i) = _
    rw [if_neg (fun z => hb (s, m_nx h s) ss (by rw [A]; exact Prod.ext z.1.symm z.2.symm))]
  · show (if t = s then m_nx h s + 1 else m_nx h t) = m_nx h t + (if t = s then 1 else 0)
    by_cases c : t = s
    · rw [if_pos c, if_pos c, c]
    · rw [if_neg c, if_neg c]; rfl
  · show (if t = s then m_nx g s + 1 else m_nx g t) = m_nx g t + (if t = s then 1 else 0)
    by_cases c : t = s
    · rw [if_pos c, if_pos c, c]
    · rw [if_neg c, if_neg c]; rfl
theorem qa_none : eqQA S ρ d h g none none := Or.inl ⟨rfl, rfl⟩
theorem qa_ck {b b' : Bool} {r r' : am_R} (e : b' = b) (k : b = true → eqQA S ρ d h g r r') : eqQA S ρ d h g (m_ck b r) (m_ck b' r') := by
  subst e
  cases b'
  · exact qa_none
  · exact k rfl
theorem qa_as {o : Option (Nat × Nat)} {K K' : Nat × Nat → am_R} (ok : okp S o) (k : ∀ a, S a = true → o = some a → eqQA S ρ d h g (K a) (K' (ρ a))) : eqQA S ρ d h g (m_as o K) (m_as (o.map ρ) K') := by
  cases o with
  | none => exact qa_none
  | some a => exact k a (ok a rfl) rfl
theorem qa_ao (O : RhoOk S ρ) {o : Option (Nat × Nat)} {ci : Nat} {K K' : Nat × Nat → am_R} (ok : okp S o) (k : ∀ a, S a = true → eqQA S ρ d h g (K a) (K' (ρ a))) : eqQA S ρ d h g (m_ao o ci K) (m_ao (o.map ρ) ci K') :=
  qa_as ok fun a sa _ => qa_ck (isO_rho O sa ci) fun _ => k a sa
theorem qa_gI (O : RhoOk S ρ) (R : eqR S ρ h g) {o : Option (Nat × Nat)} {ci j : Nat} {K K' : Int32 → am_R} (ok : okp S o) (k : ∀ v, eqQA S ρ d h g (K v) (K' v)) : eqQA S ρ d h g (m_gI o ci j h K) (m_gI (o.map ρ) ci j g K') :=
  qa_as ok fun a sa _ => qa_ck (isO_rho O sa ci) fun _ => by rw [R.1 a j sa]; exact k _
theorem qa_gR (O : RhoOk S ρ) (R : eqR S ρ h g) {o : Option (Nat × Nat)} {ci j : Nat} {K K' : Option (Nat × Nat) → am_R} (ok : okp S o) (k : ∀ v, okp S v → eqQA S ρ d h g (K v) (K' (v.map ρ))) : eqQA S ρ d h g (m_gR o ci j h K) (m_gR (o.map ρ) ci j g K') :=
  qa_as ok fun a sa _ => qa_ck (isO_rho O sa ci) fun _ => by rw [(R.2 a j sa).1]; exact k _ (R.2 a j sa).2
theorem qa_ite {P : Prop} [Decidable P] {r1 r2 r1' r2' : am_R} (kt : P → eqQA S ρ d h g r1 r1') (kf : ¬ P → eqQA S ρ d h g r2 r2') : eqQA S ρ d h g (if P then r1 else r2) (if P then r1' else r2') := by
  by_cases c : P
  · rw [if_pos c, if_pos c]; exact kt c
  · rw [if_neg c, if_neg c]; exact kf c
theorem qa_itN {o : Option (Nat × Nat)} {r1 r2 r1' r2' : am_R} (kt : eqQA S ρ d h g r1 r1') (kf : eqQA S ρ d h g r2 r2') : eqQA S ρ d h g (if o = none then r1 else r2) (if o.map ρ = none then r1' else r2') := by
  cases o with
  | none => rw [if_pos rfl, if_pos (show Option.map ρ none = none from rfl)]; exact kt
  | some a => rw [if_neg (fun z => by cases z), if_neg (show ¬ Option.map ρ (some a) = none from fun z => by cases z)]; exact kf
theorem qa_new (O : RhoOk S ρ) (R : eqR S ρ h g) {s n : Nat} {K K' : Nat × Nat → am_H → am_R} (ss : S (s, m_nx h s) = true) (A : ρ (s, m_nx h s) = (s, m_nx g s)) (k : eqR S ρ (m_al h s n) (m_al g s n) → eqQA S ρ d (m_al h s n) (m_al g s n) (K (s, m_nx h s) (m_al h s n)) (K' (ρ (s, m_nx h s)) (m_al g s n))) : eqQA S ρ (dp s d) h g (m_new s n h K) (m_new s n g K') := by
  have k := k (eqSA.al O R ss A (n := n)).1
  rw [A] at k
  rcases k with B | ⟨h', g', o, o', b1, b2, b3, b4, b5⟩
  · exact Or.inl B
  · refine Or.inr ⟨h', g', o, o', b1, b2, (eqSA.al O R ss A (n := n)).trans b3, b4, fun v e t => ?_⟩
    rw [b5 v e t]
    show (if t = s then m_nx h s + 1 else m_nx h t) + d t = m_nx h t + ((if t = s then 1 else 0) + d t)
    by_cases z : t = s
    · rw [if_pos z, if_pos z, z]; omega
    · rw [if_neg z, if_neg z]; omega
/-- a call that makes nothing, ahead of what makes something -/
theorem qa_bI {r r' : am_R} {k k' : am_H → Int32 → am_R} (a : eqQ S ρ h g r r') (b : ∀ h1 g1 v, eqR S ρ h1 g1 → (∀ s, m_nx h1 s = m_nx h s ∧ m_nx g1 s = m_nx g s) → eqQA S ρ d h1 g1 (k h1 v) (k' g1 v)) : eqQA S ρ d h g (m_bI r k) (m_bI r' k') := by
  rcases a with ⟨rfl, rfl⟩ | ⟨h', g', o, o', rfl, rfl, a3, a4⟩
  · exact qa_none
  · rcases o with (_ | x | x | x) | x <;> rcases o' with (_ | y | y | y) | y <;> first | exact a4.elim | exact qa_none | (cases a4; exact eqQA.step a3 (b _ _ _ a3.1 a3.2.2.2.1)) | (cases a4; exact Or.inr ⟨_, _, _, _, rfl, rfl, a3.toA, rfl, fun v e => by cases e⟩)
theorem qa_bR {r r' : am_R} {k k' : am_H → Option (Nat × Nat) → am_R} (a : eqQ S ρ h g r r') (b : ∀ h1 g1 v, eqR S ρ h1 g1 → okp S v → (∀ s, m_nx h1 s = m_nx h s ∧ m_nx g1 s = m_nx g s) → eqQA S ρ d h1 g1 (k h1 v) (k' g1 (v.map ρ))) : eqQA S ρ d h g (m_bR r k) (m_bR r' k') := by
  rcases a with ⟨rfl, rfl⟩ | ⟨h', g', o, o', rfl, rfl, a3, a4⟩
  · exact qa_none
  · rcases o with (_ | x | x | x) | x <;> rcases o' with (_ | y | y | y) | y <;> first | exact a4.elim | exact qa_none | (obtain ⟨rfl, a5⟩ := a4; exact eqQA.step a3 (b _ _ _ a3.1 a5 a3.2.2.2.1)) | (cases a4; exact Or.inr ⟨_, _, _, _, rfl, rfl, a3.toA, rfl, fun v e => by cases e⟩)
theorem qa_bV {r r' : am_R} {k k' : am_H → am_R} (a : eqQ S ρ h g r r') (b : ∀ h1 g1, eqR S ρ h1 g1 → (∀ s, m_nx h1 s = m_nx h s ∧ m_nx g1 s = m_nx g s) → eqQA S ρ d h1 g1 (k h1) (k' g1)) : eqQA S ρ d h g (m_bV r k) (m_bV r' k') := by
  rcases a with ⟨rfl, rfl⟩ | ⟨h', g', o, o', rfl, rfl, a3, a4⟩
  · exact qa_none
  · rcases o with (_ | x | x | x) | x <;> rcases o' with (_ | y | y | y) | y <;> first | exact a4.elim | exact qa_none | exact eqQA.step a3 (b _ _ a3.1 a3.2.2.2.1) | (cases a4; exact Or.inr ⟨_, _, _, _, rfl, rfl, a3.toA, rfl, fun v e => by cases e⟩)
theorem qa_bWA {r r' : am_R} {k k' : am_H → am_R} (a : eqQA S ρ d h g r r') (b : ∀ h1 g1, eqR S ρ h1 g1 → eqQ S ρ h1 g1 (k h1) (k' g1)) : eqQA S ρ d h g (m_bW r k) (m_bW r' k') := by
  rcases a with ⟨rfl, rfl⟩ | ⟨h', g', o, o', rfl, rfl, a3, a4, a5⟩
  · exact qa_none
  · rcases o with (_ | x | x | x) | x <;> rcases o' with (_ | y | y | y) | y <;> first | exact a4.elim | exact qa_none | skip
    rcases b h' g' a3.1 with B | ⟨h2, g2, o, o', b1, b2, b3, b4⟩
    · exact Or.inl B
    · exact Or.inr ⟨h2, g2, o, o', b1, b2, a3.trans b3.toA, b4, fun v e s => by rw [(b3.2.2.2.1 s).1, a5 _ rfl s]⟩
end EQA
