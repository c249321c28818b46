/-! An abstract machine: a heap of objects by the place where they were made and a serial number. Values: ints, longs, references. -/
abbrev am_V : Type := Int32 ⊕ Int64 ⊕ Option (Nat × Nat)
abbrev am_H : Type := (Nat → Nat) × (Nat → Nat → Nat → Int32) × (Nat → Nat → Nat → Option (Nat × Nat)) × (Nat → Nat → Nat → Int64) × Nat × Nat
def m_nx (h : am_H) : Nat → Nat := h.1
def m_gi (h : am_H) : Nat → Nat → Nat → Int32 := h.2.1
def m_gr (h : am_H) : Nat → Nat → Nat → Option (Nat × Nat) := h.2.2.1
def m_gl (h : am_H) : Nat → Nat → Nat → Int64 := h.2.2.2.1
def m_nc (h : am_H) : Nat := h.2.2.2.2.1
def m_ns (h : am_H) : Nat := h.2.2.2.2.2
def m_si (h : am_H) (s k j : Nat) (v : Int32) : am_H := (h.1, fun a b c => if a = s ∧ b = k ∧ c = j then v else h.2.1 a b c, h.2.2.1, h.2.2.2.1, h.2.2.2.2.1, h.2.2.2.2.2)
def m_sr (h : am_H) (s k j : Nat) (v : Option (Nat × Nat)) : am_H := (h.1, h.2.1, fun a b c => if a = s ∧ b = k ∧ c = j then v else h.2.2.1 a b c, h.2.2.2.1, h.2.2.2.2.1, h.2.2.2.2.2)
def m_sl (h : am_H) (s k j : Nat) (v : Int64) : am_H := (h.1, h.2.1, h.2.2.1, fun a b c => if a = s ∧ b = k ∧ c = j then v else h.2.2.2.1 a b c, h.2.2.2.2.1, h.2.2.2.2.2)
/-- a new object of n slots, made at the place s -/
def m_al (h : am_H) (s n : Nat) : am_H := (fun a => if a = s then h.1 s + 1 else h.1 a, fun a b c => if a = s ∧ b = h.1 s then 0 else h.2.1 a b c, fun a b c => if a = s ∧ b = h.1 s then none else h.2.2.1 a b c, fun a b c => if a = s ∧ b = h.1 s then 0 else h.2.2.2.1 a b c, h.2.2.2.2.1 + 1, h.2.2.2.2.2 + n)
/-- the making of what is thrown -/
def m_th (h : am_H) : am_H := (h.1, h.2.1, h.2.2.1, h.2.2.2.1, h.2.2.2.2.1 + 1, h.2.2.2.2.2 + 6)
/-- what is caught gets a number -/
def m_op (h : am_H) : am_H := (fun a => if a = 0 then h.1 0 + 1 else h.1 a, h.2.1, h.2.2.1, h.2.2.2.1, h.2.2.2.2.1, h.2.2.2.2.2)
/-- n ints of one array onto another one's -/
def m_cp (h : am_H) (s k sp t w dp n : Nat) : am_H := (h.1, fun a b c => if a = t ∧ b = w then (if dp ≤ c ∧ c < dp + n then h.2.1 s k (sp + (c - dp)) else h.2.1 t w c) else h.2.1 a b c, h.2.2.1, h.2.2.2.1, h.2.2.2.2.1, h.2.2.2.2.2)
abbrev am_R : Type := Option (am_H × (Option am_V ⊕ Nat))
def m_rt (h : am_H) (v : Option am_V) : am_R := some (h, .inl v)
def m_ex (h : am_H) (k : Nat) : am_R := some (m_th h, .inr k)
def m_as (o : Option (Nat × Nat)) (k : Nat × Nat → am_R) : am_R := match o with
  | none => none
  | some a => k a
def m_ck (b : Bool) (r : am_R) : am_R := match b with
  | true => r
  | false => none
def m_bI (r : am_R) (k : am_H → Int32 → am_R) : am_R := match r with
  | some (h, .inl (some (.inl x))) => k h x
  | some (h, .inr e) => some (h, .inr e)
  | _ => none
def m_bR (r : am_R) (k : am_H → Option (Nat × Nat) → am_R) : am_R := match r with
  | some (h, .inl (some (.inr (.inr o)))) => k h o
  | some (h, .inr e) => some (h, .inr e)
  | _ => none
def m_bV (r : am_R) (k : am_H → am_R) : am_R := match r with
  | some (h, .inl none) => k h
  | some (h, .inr e) => some (h, .inr e)
  | _ => none
/-- a call under a table: what is thrown goes to kx -/
def m_bIx (r : am_R) (k : am_H → Int32 → am_R) (kx : am_H → Nat → am_R) : am_R := match r with
  | some (h, .inl (some (.inl x))) => k h x
  | some (h, .inr e) => kx (m_op h) e
  | _ => none
def m_bVx (r : am_R) (k : am_H → am_R) (kx : am_H → Nat → am_R) : am_R := match r with
  | some (h, .inl none) => k h
  | some (h, .inr e) => kx (m_op h) e
  | _ => none
def m_in (i : Int32) (n : Nat) : Bool := decide (¬ (i < 0 ∨ n ≤ i.toNatClampNeg))
def m_nz (x : Int32) : Bool := x == 0 || x == 1
def m_nzc (x : Int32) : Bool := (x.toUInt32 % 65536).toInt32 == x
def am_isO (s ci : Nat) : Bool := am_kd s == 0 && am_ci s == ci
def am_isA (s ty : Nat) : Bool := am_kd s == 1 && am_ty s == ty
def am_isL (s : Nat) : Bool := am_kd s == 4 && am_ty s == 3
def am_isR (s : Nat) : Bool := am_kd s == 5
def am_le (h h' : am_H) : Prop := m_nc h ≤ m_nc h' ∧ m_ns h ≤ m_ns h' ∧ ∀ s, m_nx h s ≤ m_nx h' s
theorem am_le.refl (h : am_H) : am_le h h := ⟨Nat.le_refl _, Nat.le_refl _, fun _ => Nat.le_refl _⟩
theorem am_le.trans {a b c : am_H} (h1 : am_le a b) (h2 : am_le b c) : am_le a c := ⟨Nat.le_trans h1.1 h2.1, Nat.le_trans h1.2.1 h2.2.1, fun s => Nat.le_trans (h1.2.2 s) (h2.2.2 s)⟩
theorem am_le_si (h : am_H) (s k j : Nat) (v : Int32) : am_le h (m_si h s k j v) := am_le.refl h
theorem am_le_sr (h : am_H) (s k j : Nat) (v : Option (Nat × Nat)) : am_le h (m_sr h s k j v) := am_le.refl h
theorem am_le_sl (h : am_H) (s k j : Nat) (v : Int64) : am_le h (m_sl h s k j v) := am_le.refl h
theorem am_le_cp (h : am_H) (s k sp t w dp n : Nat) : am_le h (m_cp h s k sp t w dp n) := am_le.refl h
theorem am_le_al (h : am_H) (s n : Nat) : am_le h (m_al h s n) := ⟨Nat.le_succ _, Nat.le_add_right _ _, fun a => by
  show h.1 a ≤ if a = s then h.1 s + 1 else h.1 a
  split
  · next e => rw [e]; exact Nat.le_succ _
  · exact Nat.le_refl _⟩
theorem am_le_th (h : am_H) : am_le h (m_th h) := ⟨Nat.le_succ _, Nat.le_add_right _ _, fun _ => Nat.le_refl _⟩
theorem am_le_op (h : am_H) : am_le h (m_op h) := ⟨Nat.le_refl _, Nat.le_refl _, fun a => by
  show h.1 a ≤ if a = 0 then h.1 0 + 1 else h.1 a
  split
  · next e => rw [e]; exact Nat.le_succ _
  · exact Nat.le_refl _⟩
/-! ## what the abstract heap says of the machine's -/
def am_v (μ : Nat × Nat → Nat) : am_V → Value
  | .inl x => .int x
  | .inr (.inl y) => .long y
  | .inr (.inr o) => va_rf (o.map μ)
def am_fv (μ : Nat × Nat → Nat) (h : am_H) (s k j : Nat) (r : Bool) : Value := match r with
  | true => va_rf ((m_gr h s k j).map μ)
  | false => .int (m_gi h s k j)
def am_fs (μ : Nat × Nat → Nat) (h : am_H) (s k : Nat) : List Value := (List.range (am_nf (am_ci s))).map fun j => am_fv μ h s k j (am_rf (am_ci s) j)
def am_ent (dA : Nat → ClassId) (μ : Nat × Nat → Nat) (h : am_H) (a : Nat × Nat) : va_E := match am_kd a.1 with
  | 0 => .inr (am_ci a.1, am_fs μ h a.1 a.2)
  | 5 => .inl (dA (am_ty a.1), (am_ln a.1, .inr (.inr (.inr (.inr fun j => (m_gr h a.1 a.2 j).map μ)))))
  | 4 => .inl (dA (am_ty a.1), (am_ln a.1, .inr (.inl fun j => m_gl h a.1 a.2 j)))
  | _ => .inl (dA (am_ty a.1), (am_ln a.1, .inl fun j => m_gi h a.1 a.2 j))
def am_ws (dA : Nat → ClassId) (μ : Nat × Nat → Nat) (h : am_H) (L : List (Nat × Nat)) : va_W := L.map fun a => (μ a, am_ent dA μ h a)
/-- a value speaks of what there is -/
def am_clo (h : am_H) : am_V → Prop
  | .inr (.inr (some a)) => a.2 < m_nx h a.1
  | _ => True
def am_cls (h : am_H) (l : List am_V) : Prop := ∀ v ∈ l, am_clo h v
def am_Rel (D : va_G) (dA : Nat → ClassId) (base b n : Nat) (xs : Nat → Int32) (μ : Nat × Nat → Nat) (h : am_H) (H : Heap) : Prop :=
  ∃ L : List (Nat × Nat), va_P D vwCl (am_ws dA μ h L) H ∧ va_D (fun q : Nat => base ≤ q) (am_ws dA μ h L) ∧ L.Nodup ∧ (∀ a : Nat × Nat, a ∈ L ↔ a.2 < m_nx h a.1 ∧ am_kd a.1 ≠ 9) ∧ (∀ (s k j : Nat) (c : Nat × Nat), m_gr h s k j = some c → c.2 < m_nx h c.1) ∧
  μ (1, 0) = b ∧ (∀ j : Nat, m_gi h 1 0 j = xs j) ∧ m_gi h 1 1 0 = Int32.ofNat n ∧ 0 < m_nx h 1
def am_ext (μ : Nat × Nat → Nat) (h : am_H) (μ' : Nat × Nat → Nat) : Prop := ∀ a : Nat × Nat, a.2 < m_nx h a.1 → μ' a = μ a
theorem am_ext.refl (μ : Nat × Nat → Nat) (h : am_H) : am_ext μ h μ := fun _ _ => rfl
theorem am_ext.trans {μ μ1 μ2 : Nat × Nat → Nat} {h h1 : am_H} (e1 : am_ext μ h μ1) (hl : am_le h h1) (e2 : am_ext μ1 h1 μ2) : am_ext μ h μ2 := fun a ha => by
  rw [e2 a (Nat.lt_of_lt_of_le ha (hl.2.2 a.1)), e1 a ha]
theorem am_clo.mono {h h1 : am_H} (hl : am_le h h1) {v : am_V} (c : am_clo h v) : am_clo h1 v := by
  rcases v with x | y | _ | a
  · trivial
  · trivial
  · trivial
  · exact Nat.lt_of_lt_of_le c (hl.2.2 a.1)
theorem am_cls.mono {h h1 : am_H} (hl : am_le h h1) {l : List am_V} (c : am_cls h l) : am_cls h1 l := fun v hv => (c v hv).mono hl
theorem am_v_ext {μ μ1 : Nat × Nat → Nat} {h : am_H} (e : am_ext μ h μ1) {v : am_V} (c : am_clo h v) : am_v μ1 v = am_v μ v := by
  rcases v with x | y | _ | a
  · rfl
  · rfl
  · rfl
  · show va_rf (some (μ1 a)) = va_rf (some (μ a))
    rw [e a c]
theorem am_vs_ext {μ μ1 : Nat × Nat → Nat} {h : am_H} (e : am_ext μ h μ1) : ∀ {l : List am_V}, am_cls h l → l.map (am_v μ1) = l.map (am_v μ)
  | [], _ => rfl
  | v :: l, c => by
    rw [List.map_cons, List.map_cons, am_v_ext e (c v List.mem_cons_self), am_vs_ext e (fun w hw => c w (List.mem_cons_of_mem _ hw))]
theorem am_cls.tail {h : am_H} {v : am_V} {l : List am_V} (c : am_cls h (v :: l)) : am_cls h l := fun w hw => c w (List.mem_cons_of_mem _ hw)
theorem am_cls.head {h : am_H} {v : am_V} {l : List am_V} (c : am_cls h (v :: l)) : am_clo h v := c v List.mem_cons_self
theorem am_cls.cons {h : am_H} {v : am_V} {l : List am_V} (c1 : am_clo h v) (c : am_cls h l) : am_cls h (v :: l) := fun w hw => by
  rcases List.mem_cons.mp hw with rfl | hw
  · exact c1
  · exact c w hw
/-! locals -/
def am_pr (μ : Nat × Nat → Nat) : Nat → List (Option am_V) → List (Nat × Value)
  | _, [] => []
  | j, none :: l => am_pr μ (j + 1) l
  | j, some v :: l => (j, am_v μ v) :: am_pr μ (j + 1) l
theorem am_pr_mem {μ : Nat × Nat → Nat} : ∀ {l : List (Option am_V)} {k j : Nat} {w : Value}, (j, w) ∈ am_pr μ k l ↔ ∃ (i : Nat) (v : am_V), j = k + i ∧ l[i]? = some (some v) ∧ w = am_v μ v
  | [], k, j, w => by simp [am_pr]
  | none :: l, k, j, w => by
    rw [am_pr, am_pr_mem]
    constructor
    · rintro ⟨i, v, h1, h2, h3⟩
      exact ⟨i + 1, v, by omega, by simpa using h2, h3⟩
    · rintro ⟨i, v, h1, h2, h3⟩
      cases i with
      | zero => simp at h2
      | succ i => exact ⟨i, v, by omega, by simpa using h2, h3⟩
  | some u :: l, k, j, w => by
    rw [am_pr, List.mem_cons, am_pr_mem]
    constructor
    · rintro (h | ⟨i, v, h1, h2, h3⟩)
      · simp only [Prod.mk.injEq] at h
        exact ⟨0, u, by omega, by simp, h.2⟩
      · exact ⟨i + 1, v, by omega, by simpa using h2, h3⟩
    · rintro ⟨i, v, h1, h2, h3⟩
      cases i with
      | zero =>
        left
        simp only [List.getElem?_cons_zero, Option.some.injEq] at h2
        subst h2
        rw [h1, h3]; rfl
      | succ i => exact Or.inr ⟨i, v, by omega, by simpa using h2, h3⟩
/-- a local that a long stands in goes when its second half is written -/
def am_nl (x : Option am_V) : Option am_V := match x with
  | some (.inr (.inl _)) => none
  | x => x
def am_set : List (Option am_V) → Nat → am_V → List (Option am_V)
  | [], _, _ => []
  | _ :: l, 0, v => some v :: l
  | x :: l, 1, v => am_nl x :: am_set l 0 v
  | x :: l, i + 2, v => x :: am_set l (i + 1) v
theorem am_set_get : ∀ {l : List (Option am_V)} {i j : Nat} {v w : am_V}, (am_set l i v)[j]? = some (some w) → (j = i ∧ w = v) ∨ (j ≠ i ∧ l[j]? = some (some w) ∧ (j + 1 = i → ∀ y, w ≠ .inr (.inl y)))
  | [], i, j, v, w, h => by simp [am_set] at h
  | x :: l, 0, j, v, w, h => by
    cases j with
    | zero => simp [am_set] at h; exact Or.inl ⟨rfl, h.symm⟩
    | succ j => exact Or.inr ⟨by omega, by simpa [am_set] using h, by omega⟩
  | x :: l, 1, j, v, w, h => by
    cases j with
    | zero =>
      refine Or.inr ⟨by omega, ?_, fun _ y hy => ?_⟩
      · rcases x with _ | a | a | a <;> simp [am_set, am_nl] at h ⊢ <;> exact h
      · subst hy
        rcases x with _ | a | a | a <;> simp [am_set, am_nl] at h
    | succ j =>
      rcases am_set_get (l := l) (i := 0) (j := j) (v := v) (w := w) (by simpa [am_set] using h) with ⟨h1, h2⟩ | ⟨h1, h2, h3⟩
      · exact Or.inl ⟨by omega, h2⟩
      · exact Or.inr ⟨by omega, by simpa using h2, by omega⟩
  | x :: l, i + 2, j, v, w, h => by
    cases j with
    | zero => exact Or.inr ⟨by omega, by simpa [am_set] using h, by omega⟩
    | succ j =>
      rcases am_set_get (l := l) (i := i + 1) (j := j) (v := v) (w := w) (by simpa [am_set] using h) with ⟨h1, h2⟩ | ⟨h1, h2, h3⟩
      · exact Or.inl ⟨by omega, h2⟩
      · exact Or.inr ⟨by omega, by simpa using h2, fun hj => h3 (by omega)⟩
def am_Ls (nL : Nat) (μ : Nat × Nat → Nat) (h : am_H) (lv : List (Option am_V)) (ls : Array Slot) : Prop := lv_has ls nL (am_pr μ 0 lv) ∧ ∀ (i : Nat) (v : am_V), lv[i]? = some (some v) → am_clo h v
theorem am_Ls.get {nL : Nat} {μ : Nat × Nat → Nat} {h : am_H} {lv : List (Option am_V)} {ls : Array Slot} (a : am_Ls nL μ h lv ls) {i : Nat} {v : am_V} (hi : lv[i]? = some (some v)) : ls[i]? = some (.val (am_v μ v)) :=
  a.1.2.2 (i, am_v μ v) (am_pr_mem.mpr ⟨i, v, by omega, hi, rfl⟩)
theorem am_v_cat {μ : Nat × Nat → Nat} {v : am_V} (h : ∀ y, v ≠ .inr (.inl y)) : (am_v μ v).category = 1 := by
  rcases v with x | y | _ | a
  · rfl
  · exact absurd rfl (h y)
  · rfl
  · rfl
theorem am_Ls.put {nL : Nat} {μ : Nat × Nat → Nat} {h : am_H} {lv : List (Option am_V)} {ls ls' : Array Slot} (a : am_Ls nL μ h lv ls) {i : Nat} {v : am_V} (c : am_clo h v)
    (hl : lv_has ls' nL ((i, am_v μ v) :: (am_pr μ 0 lv).filter (fun q => !(q.1 == i) && !(q.1 + 1 == i && q.2.category == 2)))) : am_Ls nL μ h (am_set lv i v) ls' := by
  refine ⟨⟨hl.1, hl.2.1, fun q hq => ?_⟩, fun j w hj => ?_⟩
  · obtain ⟨j, w⟩ := q
    obtain ⟨k, u, h1, h2, h3⟩ := am_pr_mem.mp hq
    rw [Nat.zero_add] at h1
    subst h1
    rcases am_set_get h2 with ⟨e1, e2⟩ | ⟨e1, e2, e3⟩
    · subst e1; subst e2
      rw [h3]
      exact hl.2.2 _ List.mem_cons_self
    · refine hl.2.2 _ (List.mem_cons_of_mem _ (List.mem_filter.mpr ⟨am_pr_mem.mpr ⟨j, u, by omega, e2, h3⟩, ?_⟩))
      by_cases hji : j + 1 = i
      · have := am_v_cat (μ := μ) (e3 hji)
        simp [e1, h3, this]
      · simp [e1, hji]
  · rcases am_set_get hj with ⟨e1, e2⟩ | ⟨e1, e2, e3⟩
    · rw [e2]; exact c
    · exact a.2 _ _ e2
/-- fewer locals -/
def am_leL : List (Option am_V) → List (Option am_V) → Prop
  | [], _ => True
  | none :: l, [] => am_leL l []
  | none :: l, _ :: l' => am_leL l l'
  | some _ :: _, [] => False
  | some v :: l, x :: l' => x = some v ∧ am_leL l l'
theorem am_leL_get : ∀ {l l' : List (Option am_V)}, am_leL l l' → ∀ {i : Nat} {v : am_V}, l[i]? = some (some v) → l'[i]? = some (some v)
  | [], _, _, i, v, h => by simp at h
  | none :: l, [], hl, i, v, h => by
    cases i with
    | zero => simp at h
    | succ i =>
      have := am_leL_get (l := l) (l' := []) hl (by simpa using h)
      simp at this
  | none :: l, _ :: l', hl, i, v, h => by
    cases i with
    | zero => simp at h
    | succ i => simpa using am_leL_get (l := l) (l' := l') hl (by simpa using h)
  | some _ :: _, [], hl, i, v, h => absurd hl id
  | some u :: l, x :: l', hl, i, v, h => by
    cases i with
    | zero =>
      simp only [List.getElem?_cons_zero, Option.some.injEq] at h ⊢
      rw [hl.1, h]
    | succ i => simpa using am_leL_get (l := l) (l' := l') hl.2 (by simpa using h)
theorem am_Ls.sub {nL : Nat} {μ : Nat × Nat → Nat} {h : am_H} {lv lv' : List (Option am_V)} {ls : Array Slot} (a : am_Ls nL μ h lv ls) (hl : am_leL lv' lv) : am_Ls nL μ h lv' ls :=
  ⟨⟨a.1.1, a.1.2.1, fun q hq => by
    obtain ⟨j, w⟩ := q
    obtain ⟨k, u, h1, h2, h3⟩ := am_pr_mem.mp hq
    exact a.1.2.2 _ (am_pr_mem.mpr ⟨k, u, h1, am_leL_get hl h2, h3⟩)⟩, fun i v h => a.2 i v (am_leL_get hl h)⟩
theorem am_Ls.move {nL : Nat} {μ μ1 : Nat × Nat → Nat} {h h1 : am_H} {lv : List (Option am_V)} {ls : Array Slot} (a : am_Ls nL μ h lv ls) (e : am_ext μ h μ1) (hl : am_le h h1) : am_Ls nL μ1 h1 lv ls :=
  ⟨⟨a.1.1, a.1.2.1, fun q hq => by
    obtain ⟨j, w⟩ := q
    obtain ⟨k, u, q1, q2, q3⟩ := am_pr_mem.mp hq
    rw [am_v_ext e (a.2 k u q2)] at q3
    exact a.1.2.2 _ (am_pr_mem.mpr ⟨k, u, q1, q2, q3⟩)⟩, fun i v hv => (a.2 i v hv).mono hl⟩
