/-! ## what is filed as it belongs, and that nothing is above itself: what changes them -/
theorem blg_0 {h : am_H} : ∀ n, blg h 0 n = 0
  | 0 => rfl
  | n + 1 => by rw [blg, blg_0 n, b_0, Bool.false_and]; exact or_0 0
theorem blg_lt {g h : am_H} {N : Nat} (e1 : ∀ k, k < N → m_gi g 11 0 k = m_gi h 11 0 k) (e2 : m_gi g 13 = m_gi h 13) (s : Int32) : ∀ n, n ≤ N → blg g s n = blg h s n
  | 0, _ => rfl
  | n + 1, hn => by rw [blg, blg, blg_lt e1 e2 s n (by omega), e1 n (by omega), e2]
theorem RIv.more {W Tn : Nat} {h : am_H} (R : RIv W Tn h) (t : RWt W Tn h) (f : RWf W Tn h) (hW : W < 20) : RIv (W + 1) Tn h := ⟨R.1, fun k hk hw => by
  by_cases e : k = W
  · subst e; rw [f.2.2 k (Nat.le_refl _) hW, t.2.2 k (Nat.le_refl _) hW, blg_0]
  · exact R.2 k (by omega) hw⟩
theorem RIv.tag {W Tn : Nat} {h g : am_H} (R : RIv W Tn h) (t : RWt W Tn h) (hW : W ≤ 20) (e11 : ∀ k, k < Tn → m_gi g 11 0 k = m_gi h 11 0 k) (e13 : m_gi g 13 = m_gi h 13) (e40 : m_gi g 40 = m_gi h 40) (e41 : m_gi g 41 = m_gi h 41) (e42 : m_gi g 42 = m_gi h 42) : RIv W (Tn + 1) g := ⟨fun u hu => by rw [e13]; exact R.1 u hu, fun k hk hw => by
  rw [e42] at hw
  have q := t.2.1 k Tn (by omega) (Nat.le_refl _)
  rw [e41, e40, blg, blg_lt e11 e13 _ Tn (Nat.le_refl _), q]
  rw [R.2 k hk hw]
  exact (or_0 _).symm⟩
theorem RIv.put {W Tn k : Nat} {s : Int32} {h g : am_H} (R : RIv W Tn h) (e11 : m_gi g 11 = m_gi h 11) (e13 : m_gi g 13 = m_gi h 13) (e40 : ∀ j, m_gi g 40 0 j = if j = k then s else m_gi h 40 0 j) (e41 : ∀ j, m_gi g 41 0 j = if j = k then blg h s Tn else m_gi h 41 0 j) (e42 : ∀ j, m_gi g 42 0 j = if j = k then 0 else m_gi h 42 0 j) : RIv W Tn g := ⟨fun u hu => by rw [e13]; exact R.1 u hu, fun j hj hw => by
  rw [e41, e40, blg_eq e11 e13]
  rw [e42] at hw
  by_cases e : j = k
  · rw [if_pos e, if_pos e]
  · rw [if_neg e] at hw ⊢
    rw [if_neg e]; exact R.2 j hj hw⟩
theorem RIv.wait {W Tn : Nat} {h g : am_H} (R : RIv W Tn h) (e40 : ∀ j, m_gi g 40 0 j = m_gi h 40 0 j) (e41 : ∀ j, m_gi g 41 0 j = m_gi h 41 0 j) (e42 : ∀ k, k < W → m_gi g 42 0 k = 0 → m_gi h 42 0 k = 0 ∧ m_gi h 40 0 k = 0) (ac : ∀ t, t < 30 → bt (m_gi g 13 0 t) t = false) : RIv W Tn g := ⟨ac, fun k hk hw => by
  obtain ⟨h1, h2⟩ := e42 k hk hw
  rw [e41, e40, R.2 k hk h1, h2, blg_0, blg_0]⟩
theorem RIv.wave {W Tn : Nat} {h g : am_H} (R : RIv W Tn h) (e11 : m_gi g 11 = m_gi h 11) (e13 : m_gi g 13 = m_gi h 13) (e40 : ∀ j, m_gi g 40 0 j = m_gi h 40 0 j) (e : ∀ k, k < W → m_gi g 41 0 k = blg h (m_gi h 40 0 k) Tn ∨ (m_gi g 41 0 k = m_gi h 41 0 k ∧ m_gi g 42 0 k = m_gi h 42 0 k)) : RIv W Tn g := ⟨fun u hu => by rw [e13]; exact R.1 u hu, fun j hj hw => by
  rw [e40, blg_eq e11 e13]
  rcases e j hj with q | ⟨q1, q2⟩
  · exact q
  · rw [q1]; rw [q2] at hw; exact R.2 j hj hw⟩
theorem ac_parent {P N : Nat → Nat → Prop} {t p : Nat} (hN : ∀ a c, N a c → P a c ∨ (a = t ∧ c = p)) {a c : Nat} (h : Relation.TransGen N a c) : Relation.TransGen P a c ∨ ((a = t ∨ Relation.TransGen P a t) ∧ (c = p ∨ Relation.TransGen P p c)) := by
  induction h with
  | single s =>
    rcases hN _ _ s with q | ⟨q1, q2⟩
    · exact Or.inl (Relation.TransGen.single q)
    · exact Or.inr ⟨Or.inl q1, Or.inl q2⟩
  | tail _ s ih =>
    rcases ih with x | ⟨x, y⟩
    · rcases hN _ _ s with q | ⟨q1, q2⟩
      · exact Or.inl (Relation.TransGen.tail x q)
      · subst q1; exact Or.inr ⟨Or.inr x, Or.inl q2⟩
    · rcases hN _ _ s with q | ⟨q1, q2⟩
      · refine Or.inr ⟨x, Or.inr ?_⟩
        rcases y with rfl | y
        · exact Relation.TransGen.single q
        · exact Relation.TransGen.tail y q
      · exact Or.inr ⟨x, Or.inl q2⟩
theorem ac_merge {P N : Nat → Nat → Prop} {t m : Nat} (hN : ∀ a c, N a c → P a c ∨ (P a t ∧ c = m)) {a c : Nat} (h : Relation.TransGen N a c) : Relation.TransGen P a c ∨ (Relation.TransGen P a t ∧ (c = m ∨ Relation.TransGen P m c)) := by
  induction h with
  | single s =>
    rcases hN _ _ s with q | ⟨q1, q2⟩
    · exact Or.inl (Relation.TransGen.single q)
    · exact Or.inr ⟨Relation.TransGen.single q1, Or.inl q2⟩
  | tail _ s ih =>
    rcases ih with x | ⟨x, y⟩
    · rcases hN _ _ s with q | ⟨q1, q2⟩
      · exact Or.inl (Relation.TransGen.tail x q)
      · exact Or.inr ⟨Relation.TransGen.tail x q1, Or.inl q2⟩
    · rcases hN _ _ s with q | ⟨q1, q2⟩
      · refine Or.inr ⟨x, Or.inr ?_⟩
        rcases y with rfl | y
        · exact Relation.TransGen.single q
        · exact Relation.TransGen.tail y q
      · exact Or.inr ⟨x, Or.inl q2⟩
theorem tg_mono {P N : Nat → Nat → Prop} (hN : ∀ a c, N a c → P a c) {a c : Nat} (h : Relation.TransGen N a c) : Relation.TransGen P a c := by
  induction h with
  | single s => exact Relation.TransGen.single (hN _ _ s)
  | tail _ s ih => exact Relation.TransGen.tail ih (hN _ _ s)
