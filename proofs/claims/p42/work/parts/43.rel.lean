/-! ## the relation of the class's state and the reference's, in groups -/
def RDay (h : am_H) : Prop := ∃ D : Nat, D ≤ 2000 ∧ m_gi h 69 0 0 = nI D ∧ m_gi h 70 0 1 = nI D
def RBlk (h : am_H) : Prop := (∀ p o : Nat, p < 12 → o < 12 → m_gi h 31 0 (12 * p + o) = bI (bt (m_gi h 26 p 0) o)) ∧ ∀ p i : Nat, p < 12 → 12 ≤ i → bt (m_gi h 26 p 0) i = false
def RSam (h : am_H) : Prop := (∀ f : Nat, f < 32 → ∃ c : Nat, c < 32 ∧ m_gi h 32 0 f = nI c) ∧ ∀ f g : Nat, f < 32 → g < 32 → bt (m_gi h 17 0 f) g = decide (m_gi h 32 0 f = m_gi h 32 0 g)
def RWn (W : Nat) (h : am_H) : Prop := W ≤ 20 ∧ m_gi h 69 0 4 = nI W ∧ m_gi h 70 0 4 = nI W ∧ m_nx h 27 = W ∧ m_nx h 16 = W ∧ ∀ k : Nat, k < W → m_gr h 19 0 k = some (27, k) ∧ m_gr h 27 k 2 = some (16, k)
def RWa (W : Nat) (h : am_H) : Prop := ∀ k : Nat, k < W → m_gi h 27 k 0 = m_gi h 33 0 k ∧ m_gi h 27 k 1 = m_gi h 34 0 k ∧ (∃ r : Nat, r < 4 ∧ m_gi h 33 0 k = nI r) ∧ ∀ i : Nat, 12 ≤ i → bt (m_gi h 34 0 k) i = false
def RWc (W : Nat) (h : am_H) : Prop := (∀ k : Nat, k < W → ∃ c : Nat, c ≤ 8 ∧ m_gi h 27 k 3 = nI c ∧ m_gi h 35 0 k = nI c ∧ ∀ j : Nat, j < c → m_gi h 16 k j = m_gi h 36 0 (8 * k + j) ∧ ∃ D : Nat, D ≤ 2000 ∧ m_gi h 36 0 (8 * k + j) = nI D) ∧ ∀ k : Nat, W ≤ k → k < 20 → m_gi h 35 0 k = 0
def RWp (W : Nat) (h : am_H) : Prop := ∀ k : Nat, k < W → m_gi h 27 k 4 = m_gi h 37 0 k ∧ (m_gi h 37 0 k = -1 ∨ ∃ D : Nat, D ≤ 2000 ∧ m_gi h 37 0 k = nI D ∧ m_gi h 35 0 k ≠ 0)
def RWl (W : Nat) (h : am_H) : Prop := (∀ k : Nat, k < W → m_gi h 27 k 5 = m_gi h 38 0 k) ∧ (∀ k : Nat, k < 20 → m_nz (m_gi h 38 0 k) = true) ∧ ∀ k : Nat, W ≤ k → k < 20 → m_gi h 38 0 k = 0
def RWo (W Cn : Nat) (h : am_H) : Prop := ∀ k : Nat, k < W → (m_gr h 27 k 6 = none ∧ m_gi h 39 0 k = -1) ∨ ∃ c : Nat, c < Cn ∧ m_gr h 27 k 6 = some (28, c) ∧ m_gi h 39 0 k = nI c
def RWt (W Tn : Nat) (h : am_H) : Prop := (∀ k : Nat, k < W → m_gi h 27 k 7 = m_gi h 40 0 k) ∧ (∀ k i : Nat, k < 20 → Tn ≤ i → bt (m_gi h 40 0 k) i = false) ∧ ∀ k : Nat, W ≤ k → k < 20 → m_gi h 40 0 k = 0
def RWf (W Tn : Nat) (h : am_H) : Prop := (∀ k : Nat, k < W → m_gi h 27 k 8 = m_gi h 41 0 k) ∧ (∀ k i : Nat, k < 20 → Tn ≤ i → bt (m_gi h 41 0 k) i = false) ∧ ∀ k : Nat, W ≤ k → k < 20 → m_gi h 41 0 k = 0
def RWw (W : Nat) (h : am_H) : Prop := (∀ k : Nat, k < W → m_gi h 27 k 9 = m_gi h 42 0 k) ∧ (∀ k : Nat, k < 20 → m_nz (m_gi h 42 0 k) = true) ∧ ∀ k : Nat, W ≤ k → k < 20 → m_gi h 42 0 k = 0
def RWs (W : Nat) (h : am_H) : Prop := (∀ k : Nat, k < W → m_gi h 27 k 10 = m_gi h 43 0 k) ∧ (∀ k : Nat, k < 20 → m_nz (m_gi h 43 0 k) = true) ∧ ∀ k : Nat, W ≤ k → k < 20 → m_gi h 43 0 k = 0
def RWk (W : Nat) (h : am_H) : Prop := (∀ k : Nat, k < W → m_gi h 27 k 11 = m_gi h 44 0 k) ∧ ∀ k : Nat, W ≤ k → k < 20 → m_gi h 44 0 k = 0
def RCo (Cn : Nat) (h : am_H) : Prop := Cn ≤ 6 ∧ m_gi h 69 0 6 = nI Cn ∧ m_gi h 70 0 17 = nI Cn ∧ m_nx h 28 = Cn ∧ ∀ c : Nat, c < Cn → m_gr h 20 0 c = some (28, c) ∧ m_gi h 28 c 0 = m_gi h 45 0 c ∧ m_gi h 28 c 1 = m_gi h 46 0 c
/-- kinds and meanings; PARENTS; what is ABOVE -/
def RTg (Tn : Nat) (h : am_H) : Prop := Tn ≤ 30 ∧ m_gi h 21 0 0 = nI Tn ∧ m_gi h 70 0 20 = nI Tn ∧
  (∀ t : Nat, t < Tn → (m_gi h 47 0 t = 0 ∧ m_gi h 11 0 t = -1) ∨ (m_gi h 47 0 t = 1 ∧ m_gi h 11 0 t = nI t) ∨ (m_gi h 47 0 t = 2 ∧ ∃ m : Nat, m < Tn ∧ m ≠ t ∧ m_gi h 11 0 t = nI m ∧ m_gi h 48 0 t = nI m ∧ m_gi h 47 0 m = 1)) ∧ (∀ t : Nat, Tn ≤ t → t < 30 → m_gi h 47 0 t = 0)
def RPa (Tn : Nat) (h : am_H) : Prop := (∀ t : Nat, t < 30 → m_gi h 12 0 t = m_gi h 49 0 t) ∧ (∀ t u : Nat, t < 30 → bt (m_gi h 49 0 t) u = true → t < Tn ∧ u < Tn ∧ m_gi h 47 0 t = 1 ∧ m_gi h 47 0 u = 1) ∧ ∀ t u : Nat, t < 30 → u < 32 → (bt (m_gi h 13 0 t) u = true ↔ Relation.TransGen (fun a b => a < 30 ∧ bt (m_gi h 49 0 a) b = true) t u)
def RTp (h : am_H) : Prop := ∃ n : Nat, n ≤ 60 ∧ m_gi h 22 0 1 = nI n ∧ m_gi h 70 0 24 = nI n ∧ ∀ i : Nat, i < n → m_gi h 14 0 i = m_gi h 50 0 i ∧ ∃ c : Nat, c < 256 ∧ m_gi h 50 0 i = nI c
def RSg (Sn Tn : Nat) (h : am_H) : Prop := Sn ≤ 8 ∧ m_gi h 24 0 1 = nI Sn ∧ m_gi h 70 0 30 = nI Sn ∧ m_nx h 29 = Sn ∧ ∀ k : Nat, k < Sn → m_gr h 2 0 k = some (29, k) ∧ m_gi h 29 k 0 = m_gi h 54 0 k ∧ (∃ p : Nat, p < 12 ∧ m_gi h 54 0 k = nI p) ∧ m_gi h 29 k 1 = m_gi h 55 0 k ∧ m_gi h 29 k 2 = m_gi h 56 0 k ∧ m_gi h 29 k 3 = m_gi h 57 0 k ∧ (∀ i : Nat, Tn ≤ i → bt (m_gi h 55 0 k) i = false ∧ bt (m_gi h 56 0 k) i = false)
def RCm (Qn W : Nat) (h : am_H) : Prop := Qn ≤ 60 ∧ m_gi h 69 0 12 = nI Qn ∧ m_gi h 70 0 37 = nI Qn ∧ m_nx h 30 = Qn ∧ (∀ k : Nat, k < Qn → m_gr h 25 0 k = some (30, k) ∧ m_gi h 30 k 0 = m_gi h 60 0 k ∧ (∃ w : Nat, w < W ∧ m_gi h 60 0 k = nI w) ∧ m_gi h 30 k 1 = m_gi h 61 0 k ∧ (∃ f : Nat, f < 32 ∧ m_gi h 61 0 k = nI f) ∧
  ((m_gr h 30 k 2 = none ∧ m_gi h 62 0 k = -1) ∨ ∃ u : Nat, u < k ∧ m_gr h 30 k 2 = some (30, u) ∧ m_gi h 62 0 k = nI u) ∧ m_gi h 30 k 3 = m_gi h 63 0 k ∧ m_gi h 30 k 4 = m_gi h 65 0 k ∧ m_gi h 30 k 5 = m_gi h 64 0 k) ∧
  (∀ k : Nat, k < 60 → m_nz (m_gi h 63 0 k) = true ∧ m_nz (m_gi h 64 0 k) = true ∧ m_nz (m_gi h 65 0 k) = true) ∧ ∀ k : Nat, Qn ≤ k → k < 60 → m_gi h 63 0 k = 0 ∧ m_gi h 65 0 k = 0
def RSb (h : am_H) : Prop := (∀ p w : Nat, p < 12 → w < 20 → (m_gi h 5 p w = 2001 ∧ m_gi h 66 0 (20 * p + w) = -1) ∨ ∃ D : Nat, D ≤ 2000 ∧ m_gi h 5 p w = nI D ∧ m_gi h 66 0 (20 * p + w) = nI D) ∧
  ∀ p q : Nat, p < 12 → q < 12 → (m_gi h 6 p q = 2001 ∧ m_gi h 67 0 (12 * p + q) = -1) ∨ ∃ D : Nat, D ≤ 2000 ∧ m_gi h 6 p q = nI D ∧ m_gi h 67 0 (12 * p + q) = nI D
def RDg (h : am_H) : Prop := ∀ p w c : Nat, p < 12 → w < 20 → c < 8 → m_gi h 68 0 (8 * (20 * p + w) + c) = bI (bt (m_gi h 7 p w) c)
/-! ## what stays as it was: P tells of which places (and of which counts, 1000 on) -/
def Frm (P : Nat → Nat → Bool) (h g : am_H) : Prop := (∀ a k j, P a j = true → m_gi g a k j = m_gi h a k j) ∧ (∀ a k j, P a j = true → m_gr g a k j = m_gr h a k j) ∧ ∀ a, P (a + 1000) 0 = true → m_nx g a = m_nx h a
def pX (L : List (Nat × Nat)) (A : List Nat) (a j : Nat) : Bool := !(((70, 0) :: L).contains (a, j)) && !((1000 :: A).contains a)
theorem Frm.refl (P : Nat → Nat → Bool) (h : am_H) : Frm P h h := ⟨fun _ _ _ _ => rfl, fun _ _ _ _ => rfl, fun _ _ => rfl⟩
theorem Frm.si {P : Nat → Nat → Bool} {h g : am_H} (F : Frm P h g) {s k j : Nat} {v : Int32} (p : P s j = false) : Frm P h (m_si g s k j v) :=
  ⟨fun a k' j' hp => by rw [m_gi_si, if_neg (fun z => by rw [z.1, z.2.2, p] at hp; cases hp)]; exact F.1 a k' j' hp, F.2.1, F.2.2⟩
theorem Frm.sr {P : Nat → Nat → Bool} {h g : am_H} (F : Frm P h g) {s k j : Nat} {v : Option (Nat × Nat)} (p : P s j = false) : Frm P h (m_sr g s k j v) :=
  ⟨F.1, fun a k' j' hp => by rw [m_gr_sr, if_neg (fun z => by rw [z.1, z.2.2, p] at hp; cases hp)]; exact F.2.1 a k' j' hp, F.2.2⟩
theorem Frm.sl {P : Nat → Nat → Bool} {h g : am_H} (F : Frm P h g) {s k j : Nat} {v : Int64} : Frm P h (m_sl g s k j v) := F
theorem Frm.th {P : Nat → Nat → Bool} {h g : am_H} (F : Frm P h g) : Frm P h (m_th g) := F
theorem Frm.op {P : Nat → Nat → Bool} {h g : am_H} (F : Frm P h g) (p : P 1000 0 = false) : Frm P h (m_op g) :=
  ⟨F.1, F.2.1, fun a ha => by rw [nx_op (fun z => by subst z; rw [show 0 + 1000 = 1000 from rfl, p] at ha; cases ha)]; exact F.2.2 a ha⟩
theorem Frm.al {P : Nat → Nat → Bool} {h g : am_H} (F : Frm P h g) {s n : Nat} (p : ∀ j, P s j = false) (p2 : P (s + 1000) 0 = false) : Frm P h (m_al g s n) := by
  have e : ∀ {a j}, P a j = true → a ≠ s := fun {a j} hp z => by rw [z, p j] at hp; cases hp
  exact ⟨fun a k j hp => by rw [gi_al (e hp)]; exact F.1 a k j hp, fun a k j hp => by rw [gr_al (e hp)]; exact F.2.1 a k j hp, fun a hp => by rw [nx_al (fun z => by subst z; rw [p2] at hp; cases hp)]; exact F.2.2 a hp⟩
theorem Frm.cp {P : Nat → Nat → Bool} {h g : am_H} (F : Frm P h g) {s k sp t w dp n : Nat} (p : ∀ j, P t j = false) : Frm P h (m_cp g s k sp t w dp n) :=
  ⟨fun a k' j hp => by
    have : a ≠ t := fun z => by rw [z, p j] at hp; cases hp
    show (if a = t ∧ k' = w then _ else m_gi g a k' j) = _
    rw [if_neg (fun z => this z.1)]; exact F.1 a k' j hp, F.2.1, F.2.2⟩
theorem Frm.trans {P : Nat → Nat → Bool} {a b c : am_H} (h1 : Frm P a b) (h2 : Frm P b c) : Frm P a c := ⟨fun x k j hp => (h2.1 x k j hp).trans (h1.1 x k j hp), fun x k j hp => (h2.2.1 x k j hp).trans (h1.2.1 x k j hp), fun x hp => (h2.2.2 x hp).trans (h1.2.2 x hp)⟩
theorem Frm.mono {P Q : Nat → Nat → Bool} {h g : am_H} (F : Frm P h g) (hPQ : ∀ a j, Q a j = true → P a j = true) : Frm Q h g := ⟨fun a k j hp => F.1 a k j (hPQ a j hp), fun a k j hp => F.2.1 a k j (hPQ a j hp), fun a hp => F.2.2 a (hPQ _ _ hp)⟩
theorem ShC.frm {P : Nat → Nat → Bool} {h g : am_H} (F : Frm P h g) (R : ShC h) (p0 : ∀ j, P 18 j = true := by intro _; rfl) (p1 : P 21 1 = true := by rfl) (p2 : P 21 2 = true := by rfl) (p3 : P 21 3 = true := by rfl) (p4 : P 22 0 = true := by rfl) (p5 : P 22 2 = true := by rfl) (p6 : P 23 0 = true := by rfl) (p7 : P 23 1 = true := by rfl) (p8 : P 23 2 = true := by rfl) (p9 : P 24 0 = true := by rfl) (p10 : P 24 2 = true := by rfl) (p11 : P 24 3 = true := by rfl) (p12 : P 26 1 = true := by rfl) (p13 : P 26 2 = true := by rfl) (p14 : P 26 3 = true := by rfl) (p15 : P 69 1 = true := by rfl) (p16 : P 69 10 = true := by rfl) (p17 : P 69 11 = true := by rfl) (p18 : P 69 2 = true := by rfl) (p19 : P 69 3 = true := by rfl) (p20 : P 69 5 = true := by rfl) (p21 : P 69 7 = true := by rfl) (p22 : P 69 8 = true := by rfl) (p23 : P 69 9 = true := by rfl) : ShC g := by
  have e0 : ∀ k j, m_gr g 18 k j = m_gr h 18 k j := fun k j => F.2.1 18 k j (p0 j)
  have e1 : ∀ k, m_gr g 21 k 1 = m_gr h 21 k 1 := fun k => F.2.1 21 k 1 p1
  have e2 : ∀ k, m_gr g 21 k 2 = m_gr h 21 k 2 := fun k => F.2.1 21 k 2 p2
  have e3 : ∀ k, m_gr g 21 k 3 = m_gr h 21 k 3 := fun k => F.2.1 21 k 3 p3
  have e4 : ∀ k, m_gr g 22 k 0 = m_gr h 22 k 0 := fun k => F.2.1 22 k 0 p4
  have e5 : ∀ k, m_gr g 22 k 2 = m_gr h 22 k 2 := fun k => F.2.1 22 k 2 p5
  have e6 : ∀ k, m_gr g 23 k 0 = m_gr h 23 k 0 := fun k => F.2.1 23 k 0 p6
  have e7 : ∀ k, m_gr g 23 k 1 = m_gr h 23 k 1 := fun k => F.2.1 23 k 1 p7
  have e8 : ∀ k, m_gr g 23 k 2 = m_gr h 23 k 2 := fun k => F.2.1 23 k 2 p8
  have e9 : ∀ k, m_gr g 24 k 0 = m_gr h 24 k 0 := fun k => F.2.1 24 k 0 p9
  have e10 : ∀ k, m_gr g 24 k 2 = m_gr h 24 k 2 := fun k => F.2.1 24 k 2 p10
  have e11 : ∀ k, m_gr g 24 k 3 = m_gr h 24 k 3 := fun k => F.2.1 24 k 3 p11
  have e12 : ∀ k, m_gr g 26 k 1 = m_gr h 26 k 1 := fun k => F.2.1 26 k 1 p12
  have e13 : ∀ k, m_gr g 26 k 2 = m_gr h 26 k 2 := fun k => F.2.1 26 k 2 p13
  have e14 : ∀ k, m_gr g 26 k 3 = m_gr h 26 k 3 := fun k => F.2.1 26 k 3 p14
  have e15 : ∀ k, m_gr g 69 k 1 = m_gr h 69 k 1 := fun k => F.2.1 69 k 1 p15
  have e16 : ∀ k, m_gr g 69 k 10 = m_gr h 69 k 10 := fun k => F.2.1 69 k 10 p16
  have e17 : ∀ k, m_gr g 69 k 11 = m_gr h 69 k 11 := fun k => F.2.1 69 k 11 p17
  have e18 : ∀ k, m_gr g 69 k 2 = m_gr h 69 k 2 := fun k => F.2.1 69 k 2 p18
  have e19 : ∀ k, m_gr g 69 k 3 = m_gr h 69 k 3 := fun k => F.2.1 69 k 3 p19
  have e20 : ∀ k, m_gr g 69 k 5 = m_gr h 69 k 5 := fun k => F.2.1 69 k 5 p20
  have e21 : ∀ k, m_gr g 69 k 7 = m_gr h 69 k 7 := fun k => F.2.1 69 k 7 p21
  have e22 : ∀ k, m_gr g 69 k 8 = m_gr h 69 k 8 := fun k => F.2.1 69 k 8 p22
  have e23 : ∀ k, m_gr g 69 k 9 = m_gr h 69 k 9 := fun k => F.2.1 69 k 9 p23
  unfold ShC
  simp only [e0, e1, e2, e3, e4, e5, e6, e7, e8, e9, e10, e11, e12, e13, e14, e15, e16, e17, e18, e19, e20, e21, e22, e23]
  exact R
theorem ShM.frm {P : Nat → Nat → Bool} {h g : am_H} (F : Frm P h g) (R : ShM h) (p0 : P 70 10 = true := by rfl) (p1 : P 70 11 = true := by rfl) (p2 : P 70 12 = true := by rfl) (p3 : P 70 13 = true := by rfl) (p4 : P 70 14 = true := by rfl) (p5 : P 70 15 = true := by rfl) (p6 : P 70 16 = true := by rfl) (p7 : P 70 18 = true := by rfl) (p8 : P 70 19 = true := by rfl) (p9 : P 70 2 = true := by rfl) (p10 : P 70 21 = true := by rfl) (p11 : P 70 22 = true := by rfl) (p12 : P 70 23 = true := by rfl) (p13 : P 70 25 = true := by rfl) (p14 : P 70 26 = true := by rfl) (p15 : P 70 27 = true := by rfl) (p16 : P 70 28 = true := by rfl) (p17 : P 70 3 = true := by rfl) (p18 : P 70 31 = true := by rfl) (p19 : P 70 32 = true := by rfl) (p20 : P 70 33 = true := by rfl) (p21 : P 70 34 = true := by rfl) (p22 : P 70 35 = true := by rfl) (p23 : P 70 36 = true := by rfl) (p24 : P 70 38 = true := by rfl) (p25 : P 70 39 = true := by rfl) (p26 : P 70 40 = true := by rfl) (p27 : P 70 41 = true := by rfl) (p28 : P 70 42 = true := by rfl) (p29 : P 70 43 = true := by rfl) (p30 : P 70 44 = true := by rfl) (p31 : P 70 45 = true := by rfl) (p32 : P 70 46 = true := by rfl) (p33 : P 70 5 = true := by rfl) (p34 : P 70 6 = true := by rfl) (p35 : P 70 7 = true := by rfl) (p36 : P 70 8 = true := by rfl) (p37 : P 70 9 = true := by rfl) : ShM g := by
  have e0 : ∀ k, m_gr g 70 k 10 = m_gr h 70 k 10 := fun k => F.2.1 70 k 10 p0
  have e1 : ∀ k, m_gr g 70 k 11 = m_gr h 70 k 11 := fun k => F.2.1 70 k 11 p1
  have e2 : ∀ k, m_gr g 70 k 12 = m_gr h 70 k 12 := fun k => F.2.1 70 k 12 p2
  have e3 : ∀ k, m_gr g 70 k 13 = m_gr h 70 k 13 := fun k => F.2.1 70 k 13 p3
  have e4 : ∀ k, m_gr g 70 k 14 = m_gr h 70 k 14 := fun k => F.2.1 70 k 14 p4
  have e5 : ∀ k, m_gr g 70 k 15 = m_gr h 70 k 15 := fun k => F.2.1 70 k 15 p5
  have e6 : ∀ k, m_gr g 70 k 16 = m_gr h 70 k 16 := fun k => F.2.1 70 k 16 p6
  have e7 : ∀ k, m_gr g 70 k 18 = m_gr h 70 k 18 := fun k => F.2.1 70 k 18 p7
  have e8 : ∀ k, m_gr g 70 k 19 = m_gr h 70 k 19 := fun k => F.2.1 70 k 19 p8
  have e9 : ∀ k, m_gr g 70 k 2 = m_gr h 70 k 2 := fun k => F.2.1 70 k 2 p9
  have e10 : ∀ k, m_gr g 70 k 21 = m_gr h 70 k 21 := fun k => F.2.1 70 k 21 p10
  have e11 : ∀ k, m_gr g 70 k 22 = m_gr h 70 k 22 := fun k => F.2.1 70 k 22 p11
  have e12 : ∀ k, m_gr g 70 k 23 = m_gr h 70 k 23 := fun k => F.2.1 70 k 23 p12
  have e13 : ∀ k, m_gr g 70 k 25 = m_gr h 70 k 25 := fun k => F.2.1 70 k 25 p13
  have e14 : ∀ k, m_gr g 70 k 26 = m_gr h 70 k 26 := fun k => F.2.1 70 k 26 p14
  have e15 : ∀ k, m_gr g 70 k 27 = m_gr h 70 k 27 := fun k => F.2.1 70 k 27 p15
  have e16 : ∀ k, m_gr g 70 k 28 = m_gr h 70 k 28 := fun k => F.2.1 70 k 28 p16
  have e17 : ∀ k, m_gr g 70 k 3 = m_gr h 70 k 3 := fun k => F.2.1 70 k 3 p17
  have e18 : ∀ k, m_gr g 70 k 31 = m_gr h 70 k 31 := fun k => F.2.1 70 k 31 p18
  have e19 : ∀ k, m_gr g 70 k 32 = m_gr h 70 k 32 := fun k => F.2.1 70 k 32 p19
  have e20 : ∀ k, m_gr g 70 k 33 = m_gr h 70 k 33 := fun k => F.2.1 70 k 33 p20
  have e21 : ∀ k, m_gr g 70 k 34 = m_gr h 70 k 34 := fun k => F.2.1 70 k 34 p21
  have e22 : ∀ k, m_gr g 70 k 35 = m_gr h 70 k 35 := fun k => F.2.1 70 k 35 p22
  have e23 : ∀ k, m_gr g 70 k 36 = m_gr h 70 k 36 := fun k => F.2.1 70 k 36 p23
  have e24 : ∀ k, m_gr g 70 k 38 = m_gr h 70 k 38 := fun k => F.2.1 70 k 38 p24
  have e25 : ∀ k, m_gr g 70 k 39 = m_gr h 70 k 39 := fun k => F.2.1 70 k 39 p25
  have e26 : ∀ k, m_gr g 70 k 40 = m_gr h 70 k 40 := fun k => F.2.1 70 k 40 p26
  have e27 : ∀ k, m_gr g 70 k 41 = m_gr h 70 k 41 := fun k => F.2.1 70 k 41 p27
  have e28 : ∀ k, m_gr g 70 k 42 = m_gr h 70 k 42 := fun k => F.2.1 70 k 42 p28
  have e29 : ∀ k, m_gr g 70 k 43 = m_gr h 70 k 43 := fun k => F.2.1 70 k 43 p29
  have e30 : ∀ k, m_gr g 70 k 44 = m_gr h 70 k 44 := fun k => F.2.1 70 k 44 p30
  have e31 : ∀ k, m_gr g 70 k 45 = m_gr h 70 k 45 := fun k => F.2.1 70 k 45 p31
  have e32 : ∀ k, m_gr g 70 k 46 = m_gr h 70 k 46 := fun k => F.2.1 70 k 46 p32
  have e33 : ∀ k, m_gr g 70 k 5 = m_gr h 70 k 5 := fun k => F.2.1 70 k 5 p33
  have e34 : ∀ k, m_gr g 70 k 6 = m_gr h 70 k 6 := fun k => F.2.1 70 k 6 p34
  have e35 : ∀ k, m_gr g 70 k 7 = m_gr h 70 k 7 := fun k => F.2.1 70 k 7 p35
  have e36 : ∀ k, m_gr g 70 k 8 = m_gr h 70 k 8 := fun k => F.2.1 70 k 8 p36
  have e37 : ∀ k, m_gr g 70 k 9 = m_gr h 70 k 9 := fun k => F.2.1 70 k 9 p37
  unfold ShM
  simp only [e0, e1, e2, e3, e4, e5, e6, e7, e8, e9, e10, e11, e12, e13, e14, e15, e16, e17, e18, e19, e20, e21, e22, e23, e24, e25, e26, e27, e28, e29, e30, e31, e32, e33, e34, e35, e36, e37]
  exact R
theorem RDay.frm {P : Nat → Nat → Bool} {h g : am_H} (F : Frm P h g) (R : RDay h) (p0 : P 69 0 = true := by rfl) (p1 : P 70 1 = true := by rfl) : RDay g := by
  have e0 : ∀ k, m_gi g 69 k 0 = m_gi h 69 k 0 := fun k => F.1 69 k 0 p0
  have e1 : ∀ k, m_gi g 70 k 1 = m_gi h 70 k 1 := fun k => F.1 70 k 1 p1
  unfold RDay
  simp only [e0, e1]
  exact R
theorem RBlk.frm {P : Nat → Nat → Bool} {h g : am_H} (F : Frm P h g) (R : RBlk h) (p0 : P 26 0 = true := by rfl) (p1 : ∀ j, P 31 j = true := by intro _; rfl) : RBlk g := by
  have e0 : ∀ k, m_gi g 26 k 0 = m_gi h 26 k 0 := fun k => F.1 26 k 0 p0
  have e1 : ∀ k j, m_gi g 31 k j = m_gi h 31 k j := fun k j => F.1 31 k j (p1 j)
  unfold RBlk
  simp only [e0, e1]
  exact R
theorem RSam.frm {P : Nat → Nat → Bool} {h g : am_H} (F : Frm P h g) (R : RSam h) (p0 : ∀ j, P 17 j = true := by intro _; rfl) (p1 : ∀ j, P 32 j = true := by intro _; rfl) : RSam g := by
  have e0 : ∀ k j, m_gi g 17 k j = m_gi h 17 k j := fun k j => F.1 17 k j (p0 j)
  have e1 : ∀ k j, m_gi g 32 k j = m_gi h 32 k j := fun k j => F.1 32 k j (p1 j)
  unfold RSam
  simp only [e0, e1]
  exact R
theorem RWn.frm {P : Nat → Nat → Bool} {W : Nat} {h g : am_H} (F : Frm P h g) (R : RWn W h) (p0 : P 69 4 = true := by rfl) (p1 : P 70 4 = true := by rfl) (p2 : ∀ j, P 19 j = true := by intro _; rfl) (p3 : P 27 2 = true := by rfl) (p4 : P 1016 0 = true := by rfl) (p5 : P 1027 0 = true := by rfl) : RWn W g := by
  have e0 : ∀ k, m_gi g 69 k 4 = m_gi h 69 k 4 := fun k => F.1 69 k 4 p0
  have e1 : ∀ k, m_gi g 70 k 4 = m_gi h 70 k 4 := fun k => F.1 70 k 4 p1
  have e2 : ∀ k j, m_gr g 19 k j = m_gr h 19 k j := fun k j => F.2.1 19 k j (p2 j)
  have e3 : ∀ k, m_gr g 27 k 2 = m_gr h 27 k 2 := fun k => F.2.1 27 k 2 p3
  have e4 : m_nx g 16 = m_nx h 16 := F.2.2 16 p4
  have e5 : m_nx g 27 = m_nx h 27 := F.2.2 27 p5
  unfold RWn
  simp only [e0, e1, e2, e3, e4, e5]
  exact R
theorem RWa.frm {P : Nat → Nat → Bool} {W : Nat} {h g : am_H} (F : Frm P h g) (R : RWa W h) (p0 : P 27 0 = true := by rfl) (p1 : P 27 1 = true := by rfl) (p2 : ∀ j, P 33 j = true := by intro _; rfl) (p3 : ∀ j, P 34 j = true := by intro _; rfl) : RWa W g := by
  have e0 : ∀ k, m_gi g 27 k 0 = m_gi h 27 k 0 := fun k => F.1 27 k 0 p0
  have e1 : ∀ k, m_gi g 27 k 1 = m_gi h 27 k 1 := fun k => F.1 27 k 1 p1
  have e2 : ∀ k j, m_gi g 33 k j = m_gi h 33 k j := fun k j => F.1 33 k j (p2 j)
  have e3 : ∀ k j, m_gi g 34 k j = m_gi h 34 k j := fun k j => F.1 34 k j (p3 j)
  unfold RWa
  simp only [e0, e1, e2, e3]
  exact R
theorem RWc.frm {P : Nat → Nat → Bool} {W : Nat} {h g : am_H} (F : Frm P h g) (R : RWc W h) (p0 : ∀ j, P 16 j = true := by intro _; rfl) (p1 : P 27 3 = true := by rfl) (p2 : ∀ j, P 35 j = true := by intro _; rfl) (p3 : ∀ j, P 36 j = true := by intro _; rfl) : RWc W g := by
  have e0 : ∀ k j, m_gi g 16 k j = m_gi h 16 k j := fun k j => F.1 16 k j (p0 j)
  have e1 : ∀ k, m_gi g 27 k 3 = m_gi h 27 k 3 := fun k => F.1 27 k 3 p1
  have e2 : ∀ k j, m_gi g 35 k j = m_gi h 35 k j := fun k j => F.1 35 k j (p2 j)
  have e3 : ∀ k j, m_gi g 36 k j = m_gi h 36 k j := fun k j => F.1 36 k j (p3 j)
  unfold RWc
  simp only [e0, e1, e2, e3]
  exact R
theorem RWp.frm {P : Nat → Nat → Bool} {W : Nat} {h g : am_H} (F : Frm P h g) (R : RWp W h) (p0 : P 27 4 = true := by rfl) (p1 : ∀ j, P 35 j = true := by intro _; rfl) (p2 : ∀ j, P 37 j = true := by intro _; rfl) : RWp W g := by
  have e0 : ∀ k, m_gi g 27 k 4 = m_gi h 27 k 4 := fun k => F.1 27 k 4 p0
  have e1 : ∀ k j, m_gi g 35 k j = m_gi h 35 k j := fun k j => F.1 35 k j (p1 j)
  have e2 : ∀ k j, m_gi g 37 k j = m_gi h 37 k j := fun k j => F.1 37 k j (p2 j)
  unfold RWp
  simp only [e0, e1, e2]
  exact R
theorem RWl.frm {P : Nat → Nat → Bool} {W : Nat} {h g : am_H} (F : Frm P h g) (R : RWl W h) (p0 : P 27 5 = true := by rfl) (p1 : ∀ j, P 38 j = true := by intro _; rfl) : RWl W g := by
  have e0 : ∀ k, m_gi g 27 k 5 = m_gi h 27 k 5 := fun k => F.1 27 k 5 p0
  have e1 : ∀ k j, m_gi g 38 k j = m_gi h 38 k j := fun k j => F.1 38 k j (p1 j)
  unfold RWl
  simp only [e0, e1]
  exact R
theorem RWo.frm {P : Nat → Nat → Bool} {W Cn : Nat} {h g : am_H} (F : Frm P h g) (R : RWo W Cn h) (p0 : ∀ j, P 39 j = true := by intro _; rfl) (p1 : P 27 6 = true := by rfl) : RWo W Cn g := by
  have e0 : ∀ k j, m_gi g 39 k j = m_gi h 39 k j := fun k j => F.1 39 k j (p0 j)
  have e1 : ∀ k, m_gr g 27 k 6 = m_gr h 27 k 6 := fun k => F.2.1 27 k 6 p1
  unfold RWo
  simp only [e0, e1]
  exact R
theorem RWt.frm {P : Nat → Nat → Bool} {W Tn : Nat} {h g : am_H} (F : Frm P h g) (R : RWt W Tn h) (p0 : P 27 7 = true := by rfl) (p1 : ∀ j, P 40 j = true := by intro _; rfl) : RWt W Tn g := by
  have e0 : ∀ k, m_gi g 27 k 7 = m_gi h 27 k 7 := fun k => F.1 27 k 7 p0
  have e1 : ∀ k j, m_gi g 40 k j = m_gi h 40 k j := fun k j => F.1 40 k j (p1 j)
  unfold RWt
  simp only [e0, e1]
  exact R
theorem RWf.frm {P : Nat → Nat → Bool} {W Tn : Nat} {h g : am_H} (F : Frm P h g) (R : RWf W Tn h) (p0 : P 27 8 = true := by rfl) (p1 : ∀ j, P 41 j = true := by intro _; rfl) : RWf W Tn g := by
  have e0 : ∀ k, m_gi g 27 k 8 = m_gi h 27 k 8 := fun k => F.1 27 k 8 p0
  have e1 : ∀ k j, m_gi g 41 k j = m_gi h 41 k j := fun k j => F.1 41 k j (p1 j)
  unfold RWf
  simp only [e0, e1]
  exact R
theorem RWw.frm {P : Nat → Nat → Bool} {W : Nat} {h g : am_H} (F : Frm P h g) (R : RWw W h) (p0 : P 27 9 = true := by rfl) (p1 : ∀ j, P 42 j = true := by intro _; rfl) : RWw W g := by
  have e0 : ∀ k, m_gi g 27 k 9 = m_gi h 27 k 9 := fun k => F.1 27 k 9 p0
  have e1 : ∀ k j, m_gi g 42 k j = m_gi h 42 k j := fun k j => F.1 42 k j (p1 j)
  unfold RWw
  simp only [e0, e1]
  exact R
theorem RWs.frm {P : Nat → Nat → Bool} {W : Nat} {h g : am_H} (F : Frm P h g) (R : RWs W h) (p0 : P 27 10 = true := by rfl) (p1 : ∀ j, P 43 j = true := by intro _; rfl) : RWs W g := by
  have e0 : ∀ k, m_gi g 27 k 10 = m_gi h 27 k 10 := fun k => F.1 27 k 10 p0
  have e1 : ∀ k j, m_gi g 43 k j = m_gi h 43 k j := fun k j => F.1 43 k j (p1 j)
  unfold RWs
  simp only [e0, e1]
  exact R
theorem RWk.frm {P : Nat → Nat → Bool} {W : Nat} {h g : am_H} (F : Frm P h g) (R : RWk W h) (p0 : P 27 11 = true := by rfl) (p1 : ∀ j, P 44 j = true := by intro _; rfl) : RWk W g := by
  have e0 : ∀ k, m_gi g 27 k 11 = m_gi h 27 k 11 := fun k => F.1 27 k 11 p0
  have e1 : ∀ k j, m_gi g 44 k j = m_gi h 44 k j := fun k j => F.1 44 k j (p1 j)
  unfold RWk
  simp only [e0, e1]
  exact R
theorem RCo.frm {P : Nat → Nat → Bool} {Cn : Nat} {h g : am_H} (F : Frm P h g) (R : RCo Cn h) (p0 : P 28 0 = true := by rfl) (p1 : P 28 1 = true := by rfl) (p2 : ∀ j, P 45 j = true := by intro _; rfl) (p3 : ∀ j, P 46 j = true := by intro _; rfl) (p4 : P 69 6 = true := by rfl) (p5 : P 70 17 = true := by rfl) (p6 : ∀ j, P 20 j = true := by intro _; rfl) (p7 : P 1028 0 = true := by rfl) : RCo Cn g := by
  have e0 : ∀ k, m_gi g 28 k 0 = m_gi h 28 k 0 := fun k => F.1 28 k 0 p0
  have e1 : ∀ k, m_gi g 28 k 1 = m_gi h 28 k 1 := fun k => F.1 28 k 1 p1
  have e2 : ∀ k j, m_gi g 45 k j = m_gi h 45 k j := fun k j => F.1 45 k j (p2 j)
  have e3 : ∀ k j, m_gi g 46 k j = m_gi h 46 k j := fun k j => F.1 46 k j (p3 j)
  have e4 : ∀ k, m_gi g 69 k 6 = m_gi h 69 k 6 := fun k => F.1 69 k 6 p4
  have e5 : ∀ k, m_gi g 70 k 17 = m_gi h 70 k 17 := fun k => F.1 70 k 17 p5
  have e6 : ∀ k j, m_gr g 20 k j = m_gr h 20 k j := fun k j => F.2.1 20 k j (p6 j)
  have e7 : m_nx g 28 = m_nx h 28 := F.2.2 28 p7
  unfold RCo
  simp only [e0, e1, e2, e3, e4, e5, e6, e7]
  exact R
theorem RTg.frm {P : Nat → Nat → Bool} {Tn : Nat} {h g : am_H} (F : Frm P h g) (R : RTg Tn h) (p0 : ∀ j, P 11 j = true := by intro _; rfl) (p1 : P 21 0 = true := by rfl) (p2 : ∀ j, P 47 j = true := by intro _; rfl) (p3 : ∀ j, P 48 j = true := by intro _; rfl) (p4 : P 70 20 = true := by rfl) : RTg Tn g := by
  have e0 : ∀ k j, m_gi g 11 k j = m_gi h 11 k j := fun k j => F.1 11 k j (p0 j)
  have e1 : ∀ k, m_gi g 21 k 0 = m_gi h 21 k 0 := fun k => F.1 21 k 0 p1
  have e2 : ∀ k j, m_gi g 47 k j = m_gi h 47 k j := fun k j => F.1 47 k j (p2 j)
  have e3 : ∀ k j, m_gi g 48 k j = m_gi h 48 k j := fun k j => F.1 48 k j (p3 j)
  have e4 : ∀ k, m_gi g 70 k 20 = m_gi h 70 k 20 := fun k => F.1 70 k 20 p4
  unfold RTg
  simp only [e0, e1, e2, e3, e4]
  exact R
theorem RPa.frm {P : Nat → Nat → Bool} {Tn : Nat} {h g : am_H} (F : Frm P h g) (R : RPa Tn h) (p0 : ∀ j, P 12 j = true := by intro _; rfl) (p1 : ∀ j, P 13 j = true := by intro _; rfl) (p2 : ∀ j, P 47 j = true := by intro _; rfl) (p3 : ∀ j, P 49 j = true := by intro _; rfl) : RPa Tn g := by
  have e0 : ∀ k j, m_gi g 12 k j = m_gi h 12 k j := fun k j => F.1 12 k j (p0 j)
  have e1 : ∀ k j, m_gi g 13 k j = m_gi h 13 k j := fun k j => F.1 13 k j (p1 j)
  have e2 : ∀ k j, m_gi g 47 k j = m_gi h 47 k j := fun k j => F.1 47 k j (p2 j)
  have e3 : ∀ k j, m_gi g 49 k j = m_gi h 49 k j := fun k j => F.1 49 k j (p3 j)
  unfold RPa
  simp only [e0, e1, e2, e3]
  exact R
theorem RTp.frm {P : Nat → Nat → Bool} {h g : am_H} (F : Frm P h g) (R : RTp h) (p0 : ∀ j, P 14 j = true := by intro _; rfl) (p1 : P 22 1 = true := by rfl) (p2 : ∀ j, P 50 j = true := by intro _; rfl) (p3 : P 70 24 = true := by rfl) : RTp g := by
  have e0 : ∀ k j, m_gi g 14 k j = m_gi h 14 k j := fun k j => F.1 14 k j (p0 j)
  have e1 : ∀ k, m_gi g 22 k 1 = m_gi h 22 k 1 := fun k => F.1 22 k 1 p1
  have e2 : ∀ k j, m_gi g 50 k j = m_gi h 50 k j := fun k j => F.1 50 k j (p2 j)
  have e3 : ∀ k, m_gi g 70 k 24 = m_gi h 70 k 24 := fun k => F.1 70 k 24 p3
  unfold RTp
  simp only [e0, e1, e2, e3]
  exact R
theorem RSg.frm {P : Nat → Nat → Bool} {Sn Tn : Nat} {h g : am_H} (F : Frm P h g) (R : RSg Sn Tn h) (p0 : P 24 1 = true := by rfl) (p1 : P 29 0 = true := by rfl) (p2 : P 29 1 = true := by rfl) (p3 : P 29 2 = true := by rfl) (p4 : P 29 3 = true := by rfl) (p5 : ∀ j, P 54 j = true := by intro _; rfl) (p6 : ∀ j, P 55 j = true := by intro _; rfl) (p7 : ∀ j, P 56 j = true := by intro _; rfl) (p8 : ∀ j, P 57 j = true := by intro _; rfl) (p9 : P 70 30 = true := by rfl) (p10 : ∀ j, P 2 j = true := by intro _; rfl) (p11 : P 1029 0 = true := by rfl) : RSg Sn Tn g := by
  have e0 : ∀ k, m_gi g 24 k 1 = m_gi h 24 k 1 := fun k => F.1 24 k 1 p0
  have e1 : ∀ k, m_gi g 29 k 0 = m_gi h 29 k 0 := fun k => F.1 29 k 0 p1
  have e2 : ∀ k, m_gi g 29 k 1 = m_gi h 29 k 1 := fun k => F.1 29 k 1 p2
  have e3 : ∀ k, m_gi g 29 k 2 = m_gi h 29 k 2 := fun k => F.1 29 k 2 p3
  have e4 : ∀ k, m_gi g 29 k 3 = m_gi h 29 k 3 := fun k => F.1 29 k 3 p4
  have e5 : ∀ k j, m_gi g 54 k j = m_gi h 54 k j := fun k j => F.1 54 k j (p5 j)
  have e6 : ∀ k j, m_gi g 55 k j = m_gi h 55 k j := fun k j => F.1 55 k j (p6 j)
  have e7 : ∀ k j, m_gi g 56 k j = m_gi h 56 k j := fun k j => F.1 56 k j (p7 j)
  have e8 : ∀ k j, m_gi g 57 k j = m_gi h 57 k j := fun k j => F.1 57 k j (p8 j)
  have e9 : ∀ k, m_gi g 70 k 30 = m_gi h 70 k 30 := fun k => F.1 70 k 30 p9
  have e10 : ∀ k j, m_gr g 2 k j = m_gr h 2 k j := fun k j => F.2.1 2 k j (p10 j)
  have e11 : m_nx g 29 = m_nx h 29 := F.2.2 29 p11
  unfold RSg
  simp only [e0, e1, e2, e3, e4, e5, e6, e7, e8, e9, e10, e11]
  exact R
theorem RCm.frm {P : Nat → Nat → Bool} {Qn W : Nat} {h g : am_H} (F : Frm P h g) (R : RCm Qn W h) (p0 : P 30 0 = true := by rfl) (p1 : P 30 1 = true := by rfl) (p2 : P 30 3 = true := by rfl) (p3 : P 30 4 = true := by rfl) (p4 : P 30 5 = true := by rfl) (p5 : ∀ j, P 60 j = true := by intro _; rfl) (p6 : ∀ j, P 61 j = true := by intro _; rfl) (p7 : ∀ j, P 62 j = true := by intro _; rfl) (p8 : ∀ j, P 63 j = true := by intro _; rfl) (p9 : ∀ j, P 64 j = true := by intro _; rfl) (p10 : ∀ j, P 65 j = true := by intro _; rfl) (p11 : P 69 12 = true := by rfl) (p12 : P 70 37 = true := by rfl) (p13 : ∀ j, P 25 j = true := by intro _; rfl) (p14 : P 30 2 = true := by rfl) (p15 : P 1030 0 = true := by rfl) : RCm Qn W g := by
  have e0 : ∀ k, m_gi g 30 k 0 = m_gi h 30 k 0 := fun k => F.1 30 k 0 p0
  have e1 : ∀ k, m_gi g 30 k 1 = m_gi h 30 k 1 := fun k => F.1 30 k 1 p1
  have e2 : ∀ k, m_gi g 30 k 3 = m_gi h 30 k 3 := fun k => F.1 30 k 3 p2
  have e3 : ∀ k, m_gi g 30 k 4 = m_gi h 30 k 4 := fun k => F.1 30 k 4 p3
  have e4 : ∀ k, m_gi g 30 k 5 = m_gi h 30 k 5 := fun k => F.1 30 k 5 p4
  have e5 : ∀ k j, m_gi g 60 k j = m_gi h 60 k j := fun k j => F.1 60 k j (p5 j)
  have e6 : ∀ k j, m_gi g 61 k j = m_gi h 61 k j := fun k j => F.1 61 k j (p6 j)
  have e7 : ∀ k j, m_gi g 62 k j = m_gi h 62 k j := fun k j => F.1 62 k j (p7 j)
  have e8 : ∀ k j, m_gi g 63 k j = m_gi h 63 k j := fun k j => F.1 63 k j (p8 j)
  have e9 : ∀ k j, m_gi g 64 k j = m_gi h 64 k j := fun k j => F.1 64 k j (p9 j)
  have e10 : ∀ k j, m_gi g 65 k j = m_gi h 65 k j := fun k j => F.1 65 k j (p10 j)
  have e11 : ∀ k, m_gi g 69 k 12 = m_gi h 69 k 12 := fun k => F.1 69 k 12 p11
  have e12 : ∀ k, m_gi g 70 k 37 = m_gi h 70 k 37 := fun k => F.1 70 k 37 p12
  have e13 : ∀ k j, m_gr g 25 k j = m_gr h 25 k j := fun k j => F.2.1 25 k j (p13 j)
  have e14 : ∀ k, m_gr g 30 k 2 = m_gr h 30 k 2 := fun k => F.2.1 30 k 2 p14
  have e15 : m_nx g 30 = m_nx h 30 := F.2.2 30 p15
  unfold RCm
  simp only [e0, e1, e2, e3, e4, e5, e6, e7, e8, e9, e10, e11, e12, e13, e14, e15]
  exact R
theorem RSb.frm {P : Nat → Nat → Bool} {h g : am_H} (F : Frm P h g) (R : RSb h) (p0 : ∀ j, P 5 j = true := by intro _; rfl) (p1 : ∀ j, P 6 j = true := by intro _; rfl) (p2 : ∀ j, P 66 j = true := by intro _; rfl) (p3 : ∀ j, P 67 j = true := by intro _; rfl) : RSb g := by
  have e0 : ∀ k j, m_gi g 5 k j = m_gi h 5 k j := fun k j => F.1 5 k j (p0 j)
  have e1 : ∀ k j, m_gi g 6 k j = m_gi h 6 k j := fun k j => F.1 6 k j (p1 j)
  have e2 : ∀ k j, m_gi g 66 k j = m_gi h 66 k j := fun k j => F.1 66 k j (p2 j)
  have e3 : ∀ k j, m_gi g 67 k j = m_gi h 67 k j := fun k j => F.1 67 k j (p3 j)
  unfold RSb
  simp only [e0, e1, e2, e3]
  exact R
theorem RDg.frm {P : Nat → Nat → Bool} {h g : am_H} (F : Frm P h g) (R : RDg h) (p0 : ∀ j, P 68 j = true := by intro _; rfl) (p1 : ∀ j, P 7 j = true := by intro _; rfl) : RDg g := by
  have e0 : ∀ k j, m_gi g 68 k j = m_gi h 68 k j := fun k j => F.1 68 k j (p0 j)
  have e1 : ∀ k j, m_gi g 7 k j = m_gi h 7 k j := fun k j => F.1 7 k j (p1 j)
  unfold RDg
  simp only [e0, e1]
  exact R
