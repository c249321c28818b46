/-! ## two heaps, the one within the other: ρ tells where, S which places -/
def okp (S : Nat × Nat → Bool) (o : Option (Nat × Nat)) : Prop := ∀ c, o = some c → S c = true
theorem okp_n {S : Nat × Nat → Bool} : okp S none := fun c h => by cases h
theorem okp_s {S : Nat × Nat → Bool} {a : Nat × Nat} (h : S a = true) : okp S (some a) := fun c e => by cases e; exact h
def RhoOk (S : Nat × Nat → Bool) (ρ : Nat × Nat → Nat × Nat) : Prop := (∀ a : Nat × Nat, S a = true → am_kd (ρ a).1 = am_kd a.1 ∧ am_ci (ρ a).1 = am_ci a.1 ∧ am_ln (ρ a).1 = am_ln a.1 ∧ am_ty (ρ a).1 = am_ty a.1) ∧ (∀ a b : Nat × Nat, S a = true → S b = true → ρ a = ρ b → a = b)
def eqR (S : Nat × Nat → Bool) (ρ : Nat × Nat → Nat × Nat) (h g : am_H) : Prop := (∀ (a : Nat × Nat) (j : Nat), S a = true → m_gi g (ρ a).1 (ρ a).2 j = m_gi h a.1 a.2 j) ∧ (∀ (a : Nat × Nat) (j : Nat), S a = true → m_gr g (ρ a).1 (ρ a).2 j = (m_gr h a.1 a.2 j).map ρ ∧ okp S (m_gr h a.1 a.2 j))
def eqS (S : Nat × Nat → Bool) (ρ : Nat × Nat → Nat × Nat) (h g h' g' : am_H) : Prop := eqR S ρ h' g' ∧ (∀ s k j : Nat, S (s, k) = false → m_gi h' s k j = m_gi h s k j ∧ m_gr h' s k j = m_gr h s k j ∧ m_gl h' s k j = m_gl h s k j) ∧ (∀ (b : Nat × Nat) (j : Nat), (∀ a : Nat × Nat, S a = true → ρ a ≠ b) → m_gi g' b.1 b.2 j = m_gi g b.1 b.2 j ∧ m_gr g' b.1 b.2 j = m_gr g b.1 b.2 j) ∧
  (∀ s, m_nx h' s = m_nx h s ∧ m_nx g' s = m_nx g s) ∧ ∃ c n : Nat, m_nc h' = m_nc h + c ∧ m_nc g' = m_nc g + c ∧ m_ns h' = m_ns h + n ∧ m_ns g' = m_ns g + n
/-- the same, where something may be made -/
def eqSA (S : Nat × Nat → Bool) (ρ : Nat × Nat → Nat × Nat) (h g h' g' : am_H) : Prop := eqR S ρ h' g' ∧ (∀ s k j : Nat, S (s, k) = false → m_gi h' s k j = m_gi h s k j ∧ m_gr h' s k j = m_gr h s k j ∧ m_gl h' s k j = m_gl h s k j) ∧ (∀ (b : Nat × Nat) (j : Nat), (∀ a : Nat × Nat, S a = true → ρ a ≠ b) → m_gi g' b.1 b.2 j = m_gi g b.1 b.2 j ∧ m_gr g' b.1 b.2 j = m_gr g b.1 b.2 j) ∧
  (∃ d : Nat → Nat, (∀ s, (∀ k, S (s, k) = false) → d s = 0) ∧ ∀ s, m_nx h' s = m_nx h s + d s ∧ m_nx g' s = m_nx g s + d s) ∧ ∃ c n : Nat, m_nc h' = m_nc h + c ∧ m_nc g' = m_nc g + c ∧ m_ns h' = m_ns h + n ∧ m_ns g' = m_ns g + n
def eqO (S : Nat × Nat → Bool) (ρ : Nat × Nat → Nat × Nat) : Option am_V ⊕ Nat → Option am_V ⊕ Nat → Prop
  | .inl none, .inl none => True
  | .inl (some (.inl x)), .inl (some (.inl y)) => y = x
  | .inl (some (.inr (.inl x))), .inl (some (.inr (.inl y))) => y = x
  | .inl (some (.inr (.inr p))), .inl (some (.inr (.inr q))) => q = p.map ρ ∧ okp S p
  | .inr k, .inr k' => k' = k
  | _, _ => False
def eqQ (S : Nat × Nat → Bool) (ρ : Nat × Nat → Nat × Nat) (h g : am_H) (r r' : am_R) : Prop := (r = none ∧ r' = none) ∨ ∃ (h' g' : am_H) (o o' : Option am_V ⊕ Nat), r = some (h', o) ∧ r' = some (g', o') ∧ eqS S ρ h g h' g' ∧ eqO S ρ o o'
section EQ
variable {S : Nat × Nat → Bool} {ρ : Nat × Nat → Nat × Nat} {h g h1 g1 h2 g2 : am_H}
theorem eqS.refl (R : eqR S ρ h g) : eqS S ρ h g h g := ⟨R, fun _ _ _ _ => ⟨rfl, rfl, rfl⟩, fun _ _ _ => ⟨rfl, rfl⟩, fun _ => ⟨rfl, rfl⟩, 0, 0, rfl, rfl, rfl, rfl⟩
theorem eqS.trans (A : eqS S ρ h g h1 g1) (B : eqS S ρ h1 g1 h2 g2) : eqS S ρ h g h2 g2 := by
  obtain ⟨a1, a2, a3, a6, c, n, a7, a8, a9, a10⟩ := A
  obtain ⟨b1, b2, b3, b6, c', n', b7, b8, b9, b10⟩ := B
  refine ⟨b1, fun s k j hs => ⟨(b2 s k j hs).1.trans (a2 s k j hs).1, (b2 s k j hs).2.1.trans (a2 s k j hs).2.1, (b2 s k j hs).2.2.trans (a2 s k j hs).2.2⟩, fun b j hb => ⟨(b3 b j hb).1.trans (a3 b j hb).1, (b3 b j hb).2.trans (a3 b j hb).2⟩, fun s => ⟨(b6 s).1.trans (a6 s).1, (b6 s).2.trans (a6 s).2⟩, c + c', n + n', ?_, ?_, ?_, ?_⟩
  · rw [b7, a7, Nat.add_assoc]
  · rw [b8, a8, Nat.add_assoc]
  · rw [b9, a9, Nat.add_assoc]
  · rw [b10, a10, Nat.add_assoc]
theorem eqQ.step {r r' : am_R} (A : eqS S ρ h g h1 g1) (B : eqQ S ρ h1 g1 r r') : eqQ S ρ h g r r' := by
  rcases B with B | ⟨h', g', o, o', b1, b2, b3, b4⟩
  · exact Or.inl B
  · exact Or.inr ⟨h', g', o, o', b1, b2, A.trans b3, b4⟩
theorem rho_iff (O : RhoOk S ρ) {a b : Nat × Nat} (sa : S a = true) (sb : S b = true) {i j : Nat} : ((ρ b).1 = (ρ a).1 ∧ (ρ b).2 = (ρ a).2 ∧ i = j) = (b.1 = a.1 ∧ b.2 = a.2 ∧ i = j) := propext (by
  constructor
  · rintro ⟨h1, h2, h3⟩
    have e := O.2 b a sb sa (Prod.ext h1 h2)
    exact ⟨congrArg Prod.fst e, congrArg Prod.snd e, h3⟩
  · rintro ⟨h1, h2, h3⟩
    rw [show b = a from Prod.ext h1 h2]
    exact ⟨rfl, rfl, h3⟩)
theorem rho_iff2 (O : RhoOk S ρ) {a b : Nat × Nat} (sa : S a = true) (sb : S b = true) : ((ρ b).1 = (ρ a).1 ∧ (ρ b).2 = (ρ a).2) = (b.1 = a.1 ∧ b.2 = a.2) := propext (by
  constructor
  · rintro ⟨h1, h2⟩
    have e := O.2 b a sb sa (Prod.ext h1 h2)
    exact ⟨congrArg Prod.fst e, congrArg Prod.snd e⟩
  · rintro ⟨h1, h2⟩
    rw [show b = a from Prod.ext h1 h2]
    exact ⟨rfl, rfl⟩)
theorem eqS.si (O : RhoOk S ρ) (R : eqR S ρ h g) {a : Nat × Nat} (sa : S a = true) (j : Nat) (x : Int32) : eqS S ρ h g (m_si h a.1 a.2 j x) (m_si g (ρ a).1 (ρ a).2 j x) := by
  refine ⟨⟨fun b i sb => ?_, fun b i sb => R.2 b i sb⟩, fun s k i hs => ⟨?_, rfl, rfl⟩, fun b i hb => ⟨?_, rfl⟩, fun _ => ⟨rfl, rfl⟩, 0, 0, rfl, rfl, rfl, rfl⟩
  · rw [m_gi_si, m_gi_si]
    by_cases c : b.1 = a.1 ∧ b.2 = a.2 ∧ i = j
    · rw [if_pos c, if_pos (by rw [rho_iff O sa sb]; exact c)]
    · rw [if_neg c, if_neg (by rw [rho_iff O sa sb]; exact c)]
      exact R.1 b i sb
  · rw [m_gi_si, if_neg (fun z => by rw [show (s, k) = a from Prod.ext z.1 z.2.1, sa] at hs; cases hs)]
  · rw [m_gi_si, if_neg (fun z => hb a sa (Prod.ext z.1.symm z.2.1.symm))]
theorem eqS.sr (O : RhoOk S ρ) (R : eqR S ρ h g) {a : Nat × Nat} (sa : S a = true) (j : Nat) {x : Option (Nat × Nat)} (ox : okp S x) : eqS S ρ h g (m_sr h a.1 a.2 j x) (m_sr g (ρ a).1 (ρ a).2 j (x.map ρ)) := by
  refine ⟨⟨fun b i sb => R.1 b i sb, fun b i sb => ?_⟩, fun s k i hs => ⟨rfl, ?_, rfl⟩, fun b i hb => ⟨rfl, ?_⟩, fun _ => ⟨rfl, rfl⟩, 0, 0, rfl, rfl, rfl, rfl⟩
  · rw [m_gr_sr, m_gr_sr]
    by_cases c : b.1 = a.1 ∧ b.2 = a.2 ∧ i = j
    · rw [if_pos c, if_pos (by rw [rho_iff O sa sb]; exact c)]
      exact ⟨rfl, ox⟩
    · rw [if_neg c, if_neg (by rw [rho_iff O sa sb]; exact c)]
      exact R.2 b i sb
  · rw [m_gr_sr, if_neg (fun z => by rw [show (s, k) = a from Prod.ext z.1 z.2.1, sa] at hs; cases hs)]
  · rw [m_gr_sr, if_neg (fun z => hb a sa (Prod.ext z.1.symm z.2.1.symm))]
theorem eqS.cp (O : RhoOk S ρ) (R : eqR S ρ h g) {a b : Nat × Nat} (sa : S a = true) (sb : S b = true) (sp dp n : Nat) : eqS S ρ h g (m_cp h a.1 a.2 sp b.1 b.2 dp n) (m_cp g (ρ a).1 (ρ a).2 sp (ρ b).1 (ρ b).2 dp n) := by
  have e : ∀ (h : am_H) (s k t w x y z : Nat), m_gi (m_cp h s k sp t w dp n) x y z = if x = t ∧ y = w then (if dp ≤ z ∧ z < dp + n then m_gi h s k (sp + (z - dp)) else m_gi h t w z) else m_gi h x y z := fun _ _ _ _ _ _ _ _ => rfl
  refine ⟨⟨fun c i sc => ?_, fun b i sb => R.2 b i sb⟩, fun s k i hs => ⟨?_, rfl, rfl⟩, fun c i hb => ⟨?_, rfl⟩, fun _ => ⟨rfl, rfl⟩, 0, 0, rfl, rfl, rfl, rfl⟩
  · rw [e, e]
    by_cases q : c.1 = b.1 ∧ c.2 = b.2
    · rw [if_pos q, if_pos (by rw [rho_iff2 O sb sc]; exact q), R.1 a _ sa, R.1 b _ sb]
    · rw [if_neg q, if_neg (by rw [rho_iff2 O sb sc]; exact q), R.1 c i sc]
  · rw [e, if_neg (fun z => by rw [show (s, k) = b from Prod.ext z.1 z.2, sb] at hs; cases hs)]
  · rw [e, if_neg (fun z => hb b sb (Prod.ext z.1.symm z.2.symm))]
theorem eqR.of_al (O : RhoOk S ρ) (R : eqR S ρ h g) {s n : Nat} (ss : S (s, m_nx h s) = true) (A : ρ (s, m_nx h s) = (s, m_nx g s)) : eqR S ρ (m_al h s n) (m_al g s n) := by
  have e1 : ∀ (h : am_H) (x y z : Nat), m_gi (m_al h s n) x y z = if x = s ∧ y = m_nx h s then 0 else m_gi h x y z := fun _ _ _ _ => rfl
  have e2 : ∀ (h : am_H) (x y z : Nat), m_gr (m_al h s n) x y z = if x = s ∧ y = m_nx h s then none else m_gr h x y z := fun _ _ _ _ => rfl
  have q : ∀ b : Nat × Nat, S b = true → ((ρ b).1 = s ∧ (ρ b).2 = m_nx g s) = (b.1 = s ∧ b.2 = m_nx h s) := fun b sb => by
    have := rho_iff2 O (a := (s, m_nx h s)) (b := b) ss sb
    rw [A] at this
    exact this
  refine ⟨fun b i sb => ?_, fun b i sb => ?_⟩
  · rw [e1, e1]
    by_cases c : b.1 = s ∧ b.2 = m_nx h s
    · rw [if_pos c, if_pos (by rw [q b sb]; exact c)]
    · rw [if_neg c, if_neg (by rw [q b sb]; exact c)]; exact R.1 b i sb
  · rw [e2, e2]
    by_cases c : b.1 = s ∧ b.2 = m_nx h s
    · rw [if_pos c, if_pos (by rw [q b sb]; exact c)]; exact ⟨rfl, okp_n⟩
    · rw [if_neg c, if_neg (by rw [q b sb]; exact c)]; exact R.2 b i sb
theorem q_none : eqQ S ρ h g none none := Or.inl ⟨rfl, rfl⟩
theorem q_ck {b b' : Bool} {r r' : am_R} (e : b' = b) (k : b = true → eqQ S ρ h g r r') : eqQ S ρ h g (m_ck b r) (m_ck b' r') := by
  subst e
  cases b'
  · exact q_none
  · exact k rfl
theorem isO_rho (O : RhoOk S ρ) {a : Nat × Nat} (sa : S a = true) (ci : Nat) : am_isO (ρ a).1 ci = am_isO a.1 ci := by
  obtain ⟨h1, h2, -, -⟩ := O.1 a sa
  rw [am_isO, am_isO, h1, h2]
theorem isA_rho (O : RhoOk S ρ) {a : Nat × Nat} (sa : S a = true) (ty : Nat) : am_isA (ρ a).1 ty = am_isA a.1 ty := by
  obtain ⟨h1, -, -, h2⟩ := O.1 a sa
  rw [am_isA, am_isA, h1, h2]
theorem isQ_rho (O : RhoOk S ρ) {a : Nat × Nat} (sa : S a = true) (ty : Nat) : am_isQ (ρ a).1 ty = am_isQ a.1 ty := by
  obtain ⟨h1, -, -, h2⟩ := O.1 a sa
  rw [am_isQ, am_isQ, h1, h2]
theorem q_as {o : Option (Nat × Nat)} {K K' : Nat × Nat → am_R} (ok : okp S o) (k : ∀ a, S a = true → o = some a → eqQ S ρ h g (K a) (K' (ρ a))) : eqQ S ρ h g (m_as o K) (m_as (o.map ρ) K') := by
  cases o with
  | none => exact q_none
  | some a => exact k a (ok a rfl) rfl
theorem q_ao (O : RhoOk S ρ) {o : Option (Nat × Nat)} {ci : Nat} {K K' : Nat × Nat → am_R} (ok : okp S o) (k : ∀ a, S a = true → eqQ S ρ h g (K a) (K' (ρ a))) : eqQ S ρ h g (m_ao o ci K) (m_ao (o.map ρ) ci K') :=
  q_as ok fun a sa _ => q_ck (isO_rho O sa ci) fun _ => k a sa
theorem q_gI (O : RhoOk S ρ) (R : eqR S ρ h g) {o : Option (Nat × Nat)} {ci j : Nat} {K K' : Int32 → am_R} (ok : okp S o) (k : ∀ v, eqQ S ρ h g (K v) (K' v)) : eqQ S ρ h g (m_gI o ci j h K) (m_gI (o.map ρ) ci j g K') :=
  q_as ok fun a sa _ => q_ck (isO_rho O sa ci) fun _ => by rw [R.1 a j sa]; exact k _
theorem q_gR (O : RhoOk S ρ) (R : eqR S ρ h g) {o : Option (Nat × Nat)} {ci j : Nat} {K K' : Option (Nat × Nat) → am_R} (ok : okp S o) (k : ∀ v, okp S v → eqQ S ρ h g (K v) (K' (v.map ρ))) : eqQ S ρ h g (m_gR o ci j h K) (m_gR (o.map ρ) ci j g K') :=
  q_as ok fun a sa _ => q_ck (isO_rho O sa ci) fun _ => by rw [(R.2 a j sa).1]; exact k _ (R.2 a j sa).2
theorem q_aI (O : RhoOk S ρ) (R : eqR S ρ h g) {o : Option (Nat × Nat)} {t : Nat} {i : Int32} {K K' : Int32 → am_R} (ok : okp S o) (k : ∀ v, eqQ S ρ h g (K v) (K' v)) : eqQ S ρ h g (m_aI o t i h K) (m_aI (o.map ρ) t i g K') :=
  q_as ok fun a sa _ => q_ck (by rw [isA_rho O sa, (O.1 a sa).2.2.1]) fun _ => by rw [R.1 a _ sa]; exact k _
theorem q_aR (O : RhoOk S ρ) (R : eqR S ρ h g) {o : Option (Nat × Nat)} {t : Nat} {i : Int32} {K K' : Option (Nat × Nat) → am_R} (ok : okp S o) (k : ∀ v, okp S v → eqQ S ρ h g (K v) (K' (v.map ρ))) : eqQ S ρ h g (m_aR o t i h K) (m_aR (o.map ρ) t i g K') :=
  q_as ok fun a sa _ => q_ck (by rw [isQ_rho O sa, (O.1 a sa).2.2.1]) fun _ => by rw [(R.2 a _ sa).1]; exact k _ (R.2 a _ sa).2
theorem q_pI (O : RhoOk S ρ) (R : eqR S ρ h g) {o : Option (Nat × Nat)} {ci j : Nat} {x : Int32} {K K' : am_H → am_R} (ok : okp S o) (k : ∀ h1 g1, eqR S ρ h1 g1 → eqQ S ρ h1 g1 (K h1) (K' g1)) : eqQ S ρ h g (m_pI o ci j x h K) (m_pI (o.map ρ) ci j x g K') :=
  q_as ok fun a sa _ => q_ck (isO_rho O sa ci) fun _ => (eqS.si O R sa j x).1 |> fun R1 => eqQ.step (eqS.si O R sa j x) (k _ _ R1)
theorem q_pZ (O : RhoOk S ρ) (R : eqR S ρ h g) {o : Option (Nat × Nat)} {ci j : Nat} {x : Int32} {K K' : am_H → am_R} (ok : okp S o) (k : ∀ h1 g1, eqR S ρ h1 g1 → eqQ S ρ h1 g1 (K h1) (K' g1)) : eqQ S ρ h g (m_pZ o ci j x h K) (m_pZ (o.map ρ) ci j x g K') :=
  q_as ok fun a sa _ => q_ck rfl fun _ => q_ck (isO_rho O sa ci) fun _ => eqQ.step (eqS.si O R sa j x) (k _ _ (eqS.si O R sa j x).1)
theorem q_pC (O : RhoOk S ρ) (R : eqR S ρ h g) {o : Option (Nat × Nat)} {ci j : Nat} {x : Int32} {K K' : am_H → am_R} (ok : okp S o) (k : ∀ h1 g1, eqR S ρ h1 g1 → eqQ S ρ h1 g1 (K h1) (K' g1)) : eqQ S ρ h g (m_pC o ci j x h K) (m_pC (o.map ρ) ci j x g K') :=
  q_as ok fun a sa _ => q_ck rfl fun _ => q_ck (isO_rho O sa ci) fun _ => eqQ.step (eqS.si O R sa j x) (k _ _ (eqS.si O R sa j x).1)
theorem q_pR (O : RhoOk S ρ) (R : eqR S ρ h g) {o v : Option (Nat × Nat)} {ci j : Nat} {K K' : am_H → am_R} (ok : okp S o) (ov : okp S v) (k : ∀ h1 g1, eqR S ρ h1 g1 → eqQ S ρ h1 g1 (K h1) (K' g1)) : eqQ S ρ h g (m_pR o ci j v h K) (m_pR (o.map ρ) ci j (v.map ρ) g K') :=
  q_as ok fun a sa _ => q_ck (isO_rho O sa ci) fun _ => eqQ.step (eqS.sr O R sa j ov) (k _ _ (eqS.sr O R sa j ov).1)
theorem q_sI (O : RhoOk S ρ) (R : eqR S ρ h g) {o : Option (Nat × Nat)} {i x : Int32} {K K' : am_H → am_R} (ok : okp S o) (k : ∀ h1 g1, eqR S ρ h1 g1 → eqQ S ρ h1 g1 (K h1) (K' g1)) : eqQ S ρ h g (m_sI o i x h K) (m_sI (o.map ρ) i x g K') :=
  q_as ok fun a sa _ => q_ck (by rw [isA_rho O sa, (O.1 a sa).2.2.1]) fun _ => eqQ.step (eqS.si O R sa _ x) (k _ _ (eqS.si O R sa _ x).1)
theorem q_sZ (O : RhoOk S ρ) (R : eqR S ρ h g) {o : Option (Nat × Nat)} {i x : Int32} {K K' : am_H → am_R} (ok : okp S o) (k : ∀ h1 g1, eqR S ρ h1 g1 → eqQ S ρ h1 g1 (K h1) (K' g1)) : eqQ S ρ h g (m_sZ o i x h K) (m_sZ (o.map ρ) i x g K') :=
  q_as ok fun a sa _ => q_ck rfl fun _ => q_ck (by rw [isA_rho O sa, (O.1 a sa).2.2.1]) fun _ => eqQ.step (eqS.si O R sa _ x) (k _ _ (eqS.si O R sa _ x).1)
theorem q_sC (O : RhoOk S ρ) (R : eqR S ρ h g) {o : Option (Nat × Nat)} {i x : Int32} {K K' : am_H → am_R} (ok : okp S o) (k : ∀ h1 g1, eqR S ρ h1 g1 → eqQ S ρ h1 g1 (K h1) (K' g1)) : eqQ S ρ h g (m_sC o i x h K) (m_sC (o.map ρ) i x g K') :=
  q_as ok fun a sa _ => q_ck rfl fun _ => q_ck (by rw [isA_rho O sa, (O.1 a sa).2.2.1]) fun _ => eqQ.step (eqS.si O R sa _ x) (k _ _ (eqS.si O R sa _ x).1)
theorem q_sR (O : RhoOk S ρ) (R : eqR S ρ h g) {o v : Option (Nat × Nat)} {t c : Nat} {i : Int32} {K K' : am_H → am_R} (ok : okp S o) (ov : okp S v) (k : ∀ h1 g1, eqR S ρ h1 g1 → eqQ S ρ h1 g1 (K h1) (K' g1)) : eqQ S ρ h g (m_sR o t c i v h K) (m_sR (o.map ρ) t c i (v.map ρ) g K') :=
  q_as ok fun a sa _ => q_as ov fun w sw _ => q_ck (by rw [isO_rho O sw, isQ_rho O sa, (O.1 a sa).2.2.1]) fun _ => eqQ.step (eqS.sr O R sa _ (okp_s sw)) (k _ _ (eqS.sr O R sa _ (okp_s sw)).1)
theorem q_len (O : RhoOk S ρ) {o : Option (Nat × Nat)} {K K' : Int32 → am_R} (ok : okp S o) (k : ∀ v, eqQ S ρ h g (K v) (K' v)) : eqQ S ρ h g (m_len o K) (m_len (o.map ρ) K') :=
  q_as ok fun a sa _ => q_ck (isA_rho O sa 0) fun _ => by rw [(O.1 a sa).2.2.1]; exact k _
theorem q_cpy (O : RhoOk S ρ) (R : eqR S ρ h g) {o p : Option (Nat × Nat)} {i x n : Int32} {K K' : am_H → am_R} (ok : okp S o) (ov : okp S p) (k : ∀ h1 g1, eqR S ρ h1 g1 → eqQ S ρ h1 g1 (K h1) (K' g1)) : eqQ S ρ h g (m_cpy o i p x n h K) (m_cpy (o.map ρ) i (p.map ρ) x n g K') :=
  q_as ok fun a sa _ => q_as ov fun w sw _ => q_ck (by rw [isA_rho O sa, isA_rho O sw, (O.1 a sa).2.2.1, (O.1 w sw).2.2.1]) fun _ => eqQ.step (eqS.cp O R sa sw _ _ _) (k _ _ (eqS.cp O R sa sw _ _ _).1)
theorem q_dv {y : Int32} {r r' : am_R} (k : eqQ S ρ h g r r') : eqQ S ρ h g (m_dv y r) (m_dv y r') := q_ck rfl fun _ => k
theorem q_ite {P : Prop} [Decidable P] {r1 r2 r1' r2' : am_R} (kt : P → eqQ S ρ h g r1 r1') (kf : ¬ P → eqQ S ρ h g r2 r2') : eqQ S ρ h g (if P then r1 else r2) (if P then r1' else r2') := by
  by_cases c : P
  · rw [if_pos c, if_pos c]; exact kt c
  · rw [if_neg c, if_neg c]; exact kf c
theorem q_itN {o : Option (Nat × Nat)} {r1 r2 r1' r2' : am_R} (kt : eqQ S ρ h g r1 r1') (kf : eqQ S ρ h g r2 r2') : eqQ S ρ h g (if o = none then r1 else r2) (if o.map ρ = none then r1' else r2') := by
  cases o with
  | none => rw [if_pos rfl, if_pos (show Option.map ρ none = none from rfl)]; exact kt
  | some a => rw [if_neg (fun z => by cases z), if_neg (show ¬ Option.map ρ (some a) = none from fun z => by cases z)]; exact kf
theorem q_rt {v : Option am_V} {v' : Option am_V} (R : eqR S ρ h g) (e : eqO S ρ (.inl v) (.inl v')) : eqQ S ρ h g (m_rt h v) (m_rt g v') := Or.inr ⟨h, g, _, _, rfl, rfl, eqS.refl R, e⟩
theorem q_rtn (R : eqR S ρ h g) : eqQ S ρ h g (m_rt h none) (m_rt g none) := q_rt R trivial
theorem q_ri (R : eqR S ρ h g) {x : Int32} : eqQ S ρ h g (m_ri h x) (m_ri g x) := q_rt R rfl
theorem q_rz (R : eqR S ρ h g) {x : Int32} : eqQ S ρ h g (m_rz h x) (m_rz g x) := q_ck rfl fun _ => q_rt R rfl
theorem q_rc (R : eqR S ρ h g) {x : Int32} : eqQ S ρ h g (m_rc h x) (m_rc g x) := q_ck rfl fun _ => q_rt R rfl
theorem q_ra (R : eqR S ρ h g) {o : Option (Nat × Nat)} (ok : okp S o) : eqQ S ρ h g (m_ra h o) (m_ra g (o.map ρ)) := q_rt R ⟨rfl, ok⟩
theorem q_ex (R : eqR S ρ h g) {k : Nat} : eqQ S ρ h g (m_ex h k) (m_ex g k) := Or.inr ⟨m_th h, m_th g, _, _, rfl, rfl, ⟨R, fun _ _ _ _ => ⟨rfl, rfl, rfl⟩, fun _ _ _ => ⟨rfl, rfl⟩, fun _ => ⟨rfl, rfl⟩, 1, 6, rfl, rfl, rfl, rfl⟩, rfl⟩
theorem q_bI {r r' : am_R} {k k' : am_H → Int32 → am_R} (a : eqQ S ρ h g r r') (b : ∀ h1 g1 v, eqR S ρ h1 g1 → eqQ S ρ h1 g1 (k h1 v) (k' g1 v)) : eqQ S ρ h g (m_bI r k) (m_bI r' k') := by
  rcases a with ⟨rfl, rfl⟩ | ⟨h', g', o, o', rfl, rfl, a3, a4⟩
  · exact q_none
  · rcases o with (_ | x | x | x) | x <;> rcases o' with (_ | y | y | y) | y <;> first | exact a4.elim | exact q_none | (cases a4; exact eqQ.step a3 (b _ _ _ a3.1)) | (cases a4; exact Or.inr ⟨_, _, _, _, rfl, rfl, a3, rfl⟩)
theorem q_bR {r r' : am_R} {k k' : am_H → Option (Nat × Nat) → am_R} (a : eqQ S ρ h g r r') (b : ∀ h1 g1 v, eqR S ρ h1 g1 → okp S v → eqQ S ρ h1 g1 (k h1 v) (k' g1 (v.map ρ))) : eqQ S ρ h g (m_bR r k) (m_bR r' k') := by
  rcases a with ⟨rfl, rfl⟩ | ⟨h', g', o, o', rfl, rfl, a3, a4⟩
  · exact q_none
  · rcases o with (_ | x | x | x) | x <;> rcases o' with (_ | y | y | y) | y <;> first | exact a4.elim | exact q_none | (obtain ⟨rfl, a5⟩ := a4; exact eqQ.step a3 (b _ _ _ a3.1 a5)) | (cases a4; exact Or.inr ⟨_, _, _, _, rfl, rfl, a3, rfl⟩)
theorem q_bV {r r' : am_R} {k k' : am_H → am_R} (a : eqQ S ρ h g r r') (b : ∀ h1 g1, eqR S ρ h1 g1 → eqQ S ρ h1 g1 (k h1) (k' g1)) : eqQ S ρ h g (m_bV r k) (m_bV r' k') := by
  rcases a with ⟨rfl, rfl⟩ | ⟨h', g', o, o', rfl, rfl, a3, a4⟩
  · exact q_none
  · rcases o with (_ | x | x | x) | x <;> rcases o' with (_ | y | y | y) | y <;> first | exact a4.elim | exact q_none | exact eqQ.step a3 (b _ _ a3.1) | (cases a4; exact Or.inr ⟨_, _, _, _, rfl, rfl, a3, rfl⟩)
theorem q_bJ {r r' : am_R} {k k' : am_H → Int32 → am_R} (a : eqQ S ρ h g r r') (b : ∀ h1 g1 v, eqR S ρ h1 g1 → eqQ S ρ h1 g1 (k h1 v) (k' g1 v)) : eqQ S ρ h g (m_bJ r k) (m_bJ r' k') := by
  rcases a with ⟨rfl, rfl⟩ | ⟨h', g', o, o', rfl, rfl, a3, a4⟩
  · exact q_none
  · rcases o with (_ | x | x | x) | x <;> rcases o' with (_ | y | y | y) | y <;> first | exact a4.elim | exact q_none | (cases a4; exact eqQ.step a3 (b _ _ _ a3.1))
theorem q_bW {r r' : am_R} {k k' : am_H → am_R} (a : eqQ S ρ h g r r') (b : ∀ h1 g1, eqR S ρ h1 g1 → eqQ S ρ h1 g1 (k h1) (k' g1)) : eqQ S ρ h g (m_bW r k) (m_bW r' k') := by
  rcases a with ⟨rfl, rfl⟩ | ⟨h', g', o, o', rfl, rfl, a3, a4⟩
  · exact q_none
  · rcases o with (_ | x | x | x) | x <;> rcases o' with (_ | y | y | y) | y <;> first | exact a4.elim | exact q_none | exact eqQ.step a3 (b _ _ a3.1)
end EQ
