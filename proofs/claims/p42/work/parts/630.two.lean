/-! ## two objects of the class in one heap, each beside a ghost of the reference -/
def Sc (a : Nat × Nat) : Bool := (Nat.ble 2 a.1 && Nat.ble a.1 30) || a.1 == 69
def Sm (a : Nat × Nat) : Bool := ((Nat.ble 31 a.1 && Nat.ble a.1 68) || a.1 == 70) && a.2 == 0
def bN (b : Bool) : Nat := if b then 1 else 0
/-- where the things of the first object (false) and of the second one (true) are -/
def rhoS (b : Bool) (a : Nat × Nat) : Nat × Nat :=
  if a.1 = 69 then (if b then 72 else 69, a.2)
  else if a.1 = 5 ∨ a.1 = 6 ∨ a.1 = 7 ∨ a.1 = 26 then (a.1, if a.2 < 12 then a.2 + 12 * bN b else 2 * a.2 + bN b)
  else (a.1, 2 * a.2 + bN b)
theorem Sc_72 {a : Nat × Nat} (h : Sc a = true) : a.1 ≠ 72 := fun z => by
  unfold Sc at h
  rw [z] at h; revert h; decide
theorem bN_cases (b : Bool) : (b = false ∧ bN b = 0) ∨ (b = true ∧ bN b = 1) := by cases b <;> simp [bN]
theorem rhoS_1 (b : Bool) (a : Nat × Nat) : (rhoS b a).1 = if a.1 = 69 then (if b then 72 else 69) else a.1 := by
  unfold rhoS
  by_cases h : a.1 = 69
  · rw [if_pos h, if_pos h]
  · rw [if_neg h, if_neg h]
    split <;> rfl
theorem rhoS_2 (b : Bool) (a : Nat × Nat) : (rhoS b a).2 = if a.1 = 69 then a.2 else if a.1 = 5 ∨ a.1 = 6 ∨ a.1 = 7 ∨ a.1 = 26 then (if a.2 < 12 then a.2 + 12 * bN b else 2 * a.2 + bN b) else 2 * a.2 + bN b := by
  unfold rhoS
  by_cases h : a.1 = 69
  · rw [if_pos h, if_pos h]
  · rw [if_neg h, if_neg h]
    by_cases h2 : a.1 = 5 ∨ a.1 = 6 ∨ a.1 = 7 ∨ a.1 = 26
    · rw [if_pos h2, if_pos h2]
    · rw [if_neg h2, if_neg h2]
theorem rhoS_ok (b : Bool) : RhoOk Sc (rhoS b) := by
  refine ⟨fun a sa => ?_, fun a c sa sc e => ?_⟩
  · rw [rhoS_1]
    by_cases h : a.1 = 69
    · rw [if_pos h, h]; cases b <;> exact ⟨rfl, rfl, rfl, rfl⟩
    · rw [if_neg h]; exact ⟨rfl, rfl, rfl, rfl⟩
  · have ha := Sc_72 sa
    have hc := Sc_72 sc
    have e1 := congrArg Prod.fst e
    have e2 := congrArg Prod.snd e
    rw [rhoS_1, rhoS_1] at e1
    rw [rhoS_2, rhoS_2] at e2
    have q1 : a.1 = c.1 := by
      cases b
      · rw [show (if false = true then (72 : Nat) else 69) = 69 from rfl] at e1
        split at e1 <;> split at e1 <;> omega
      · rw [show (if true = true then (72 : Nat) else 69) = 72 from rfl] at e1
        split at e1 <;> split at e1 <;> omega
    rw [← q1] at e2
    have q2 : a.2 = c.2 := by
      rcases bN_cases b with ⟨-, q⟩ | ⟨-, q⟩ <;> rw [q] at e2 <;> repeat (first | omega | split at e2)
    exact Prod.ext q1 q2
theorem rhoS_apart {a c : Nat × Nat} (sa : Sc a = true) (sc : Sc c = true) {b b' : Bool} (hb : b ≠ b') : rhoS b a ≠ rhoS b' c := fun e => by
  have ha := Sc_72 sa
  have hc := Sc_72 sc
  have e1 := congrArg Prod.fst e
  have e2 := congrArg Prod.snd e
  rw [rhoS_1, rhoS_1] at e1
  rw [rhoS_2, rhoS_2] at e2
  have w : ∀ b : Bool, (if b = true then (72 : Nat) else 69) = 69 + 3 * bN b := fun b => by cases b <;> rfl
  rw [w, w] at e1
  have hn : (bN b = 0 ∧ bN b' = 1) ∨ (bN b = 1 ∧ bN b' = 0) := by cases b <;> cases b' <;> first | exact absurd rfl hb | decide
  rcases hn with ⟨n1, n2⟩ | ⟨n1, n2⟩ <;> rw [n1, n2] at e1 e2 <;> repeat (first | omega | split at e1 | split at e2)
theorem id_ok : RhoOk Sm id := ⟨fun _ _ => ⟨rfl, rfl, rfl, rfl⟩, fun _ _ _ _ e => e⟩
/-- the reference's things are the same in both -/
def AgR (g y : am_H) : Prop := eqR Sm id g y
theorem AgR.symm {g y : am_H} (A : AgR g y) : AgR y g := ⟨fun a j s => (A.1 a j s).symm, fun a j s => ⟨by
  have := (A.2 a j s).1
  rw [Option.map_id] at this ⊢
  exact this.symm, by
  have := A.2 a j s
  rw [Option.map_id] at this
  rw [show m_gr y a.1 a.2 j = m_gr g a.1 a.2 j from this.1]
  exact this.2⟩⟩
theorem AgR.trans {g y z : am_H} (A : AgR g y) (B : AgR y z) : AgR g z := ⟨fun a j s => (B.1 a j s).trans (A.1 a j s), fun a j s => ⟨by
  have h1 := (A.2 a j s).1
  have h2 := (B.2 a j s).1
  rw [Option.map_id] at h1 h2 ⊢
  exact h2.trans h1, (A.2 a j s).2⟩⟩
theorem AgR.refl {g y : am_H} (A : AgR g y) : AgR g g := A.trans A.symm
/-- where the reference's things stay as they are -/
theorem AgR.of {g y : am_H} (A : AgR g g) (h1 : ∀ s k j, Sm (s, k) = true → m_gi y s k j = m_gi g s k j) (h2 : ∀ s k j, Sm (s, k) = true → m_gr y s k j = m_gr g s k j) : AgR g y := ⟨fun a j s => h1 _ _ _ s, fun a j s => ⟨by
  rw [Option.map_id]; exact h2 _ _ _ s, (A.2 a j s).2⟩⟩
theorem AgR.gi {g y : am_H} (A : AgR g y) {s k : Nat} (hs : Sm (s, k) = true) (j : Nat) : m_gi y s k j = m_gi g s k j := A.1 (s, k) j hs
theorem AgR.gr {g y : am_H} (A : AgR g y) {s k : Nat} (hs : Sm (s, k) = true) (j : Nat) : m_gr y s k j = m_gr g s k j := by
  have := (A.2 (s, k) j hs).1
  rw [Option.map_id] at this
  exact this
def RRx (g : am_H) : Prop := ∃ W Cn Tn Sn Qn, RR W Cn Tn Sn Qn g
/-- the object b: the class's part of g lies in h; g holds the class against the reference -/
def nz (g : am_H) : am_H := m_sr (m_si g 70 0 0 0) 70 0 0 none
def Ob (b : Bool) (g h : am_H) : Prop := eqR Sc (rhoS b) g h ∧ AgR g g ∧ (m_gi g 70 0 0 = 0 ∧ m_gr g 70 0 0 = none) ∧ RRx g
/-- what is not b's stays as it is -/
def Fr (b : Bool) (h h' : am_H) : Prop := ∀ (c : Nat × Nat) (j : Nat), (∀ a : Nat × Nat, Sc a = true → rhoS b a ≠ c) → m_gi h' c.1 c.2 j = m_gi h c.1 c.2 j ∧ m_gr h' c.1 c.2 j = m_gr h c.1 c.2 j
theorem Fr.refl (b : Bool) (h : am_H) : Fr b h h := fun _ _ _ => ⟨rfl, rfl⟩
theorem Fr.trans {b : Bool} {h h1 h2 : am_H} (A : Fr b h h1) (B : Fr b h1 h2) : Fr b h h2 := fun c j q => ⟨(B c j q).1.trans (A c j q).1, (B c j q).2.trans (A c j q).2⟩
theorem Ob.other {b b' : Bool} (hb : b ≠ b') {g h h' : am_H} (O : Ob b' g h) (F : Fr b h h') : Ob b' g h' := by
  obtain ⟨⟨o1, o2⟩, o3⟩ := O
  refine ⟨⟨fun a j s => ?_, fun a j s => ?_⟩, o3⟩
  · rw [(F (rhoS b' a) j (fun c sc e => rhoS_apart sc s hb e)).1]; exact o1 a j s
  · rw [(F (rhoS b' a) j (fun c sc e => rhoS_apart sc s hb e)).2]; exact o2 a j s
theorem Fr.scr {b : Bool} {h h' : am_H} (F : Fr b h h') (k j : Nat) : m_gi h' 1 k j = m_gi h 1 k j := (F (1, k) j (fun a sa e => by
  unfold rhoS at e
  have : a.1 ≠ 1 := fun z => by unfold Sc at sa; rw [z] at sa; revert sa; decide
  split at e
  · have := (Prod.mk.inj e).1; cases b <;> simp at this
  · split at e <;> exact this (Prod.mk.inj e).1)).1
/-- how often things were made: of the places that the class makes things at in its calls -/
def NX (g h g' h' : am_H) : Prop := ∀ s, s ∈ [16, 27, 28, 29, 30] → m_nx h' s + m_nx g s = m_nx h s + m_nx g' s
def Cost (h h' : am_H) (c : Nat) : Prop := m_nc h' ≤ m_nc h + 2 * c ∧ m_ns h' ≤ m_ns h + 20 * c
theorem Cost.trans {h h1 h2 : am_H} {c c' : Nat} (A : Cost h h1 c) (B : Cost h1 h2 c') : Cost h h2 (c + c') := ⟨by have := A.1; have := B.1; omega, by have := A.2; have := B.2; omega⟩
theorem Cost.le {h h1 : am_H} {c c' : Nat} (A : Cost h h1 c) (hc : c ≤ c') : Cost h h1 c' := ⟨by have := A.1; omega, by have := A.2; omega⟩
theorem Cost.refl (h : am_H) : Cost h h 0 := ⟨Nat.le_refl _, Nat.le_refl _⟩
theorem NX.trans {g h g1 h1 g2 h2 : am_H} (A : NX g h g1 h1) (B : NX g1 h1 g2 h2) : NX g h g2 h2 := fun s hs => by have := A s hs; have := B s hs; omega
theorem NX.refl (g h : am_H) : NX g h g h := fun s hs => Nat.add_comm _ _ ▸ rfl
/-- what the reference makes of a call: the ghost behind it, the answer as the law's 'does' tells it -/
def ansI : Option am_V → Int32
  | some (.inl b) => b
  | _ => 0
def Tr (mf : am_H → am_R) (val : Int32 → Int32) (g g' : am_H) (v : Int32) : Prop := ∃ (x g2 : am_H) (o : Option am_V), AgR g x ∧ mf x = some (g2, .inl o) ∧ AgR (nz g2) g' ∧ v = if m_gi g2 70 0 0 = 0 then val (ansI o) else -2100000000
def Loc (mf : am_H → am_R) : Prop := ∀ x y, AgR x y → eqQ Sm id x y (mf x) (mf y)
theorem AgR.si0 {g y : am_H} (A : AgR g y) : AgR (nz g) (nz y) := (eqS.sr id_ok (eqS.si id_ok A (a := (70, 0)) rfl 0 0).1 (a := (70, 0)) rfl 0 (x := none) okp_n).1
theorem Tr.det {mf : am_H → am_R} {val : Int32 → Int32} (L : Loc mf) {g g' y y' : am_H} {v v' : Int32} (A : AgR g y) (t : Tr mf val g g' v) (t' : Tr mf val y y' v') : v = v' ∧ AgR g' y' := by
  obtain ⟨x, g2, o, a1, a2, a3, a4⟩ := t
  obtain ⟨x', g2', o', b1, b2, b3, b4⟩ := t'
  rcases L x x' ((a1.symm.trans A).trans b1) with ⟨z, -⟩ | ⟨h', g3, o1, o2, c1, c2, c3, c4⟩
  · rw [a2] at z; cases z
  · rw [a2] at c1; rw [b2] at c2
    cases c1; cases c2
    have e : ansI o = ansI o' := by
      rcases o with (_ | x | x | x) <;> rcases o' with (_ | y | y | y) <;> first | exact c4.elim | rfl | (cases c4; rfl)
    refine ⟨?_, ((a3.symm.trans (AgR.si0 c3.1)).trans b3)⟩
    rw [a4, b4, e, AgR.gi c3.1 (s := 70) (k := 0) rfl 0]
