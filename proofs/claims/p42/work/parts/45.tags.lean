/-! ## a loop's frame -/
theorem pX_mono {L L' : List (Nat × Nat)} {A A' : List Nat} (h1 : ∀ x ∈ L, x ∈ L') (h2 : ∀ a ∈ A, a ∈ A') (a j : Nat) (h : pX L' A' a j = true) : pX L A a j = true := by
  unfold pX at h ⊢
  rw [Bool.and_eq_true, Bool.not_eq_true', Bool.not_eq_true'] at h ⊢
  obtain ⟨p, q⟩ := h
  constructor
  · cases e : ((70, 0) :: L).contains (a, j)
    · rfl
    · exfalso
      rw [List.contains_iff_mem] at e
      have : (a, j) ∈ ((70, 0) :: L') := by
        rcases List.mem_cons.mp e with e | e
        · rw [e]; exact List.mem_cons_self
        · exact List.mem_cons_of_mem _ (h1 _ e)
      rw [List.contains_iff_mem.mpr this] at p; cases p
  · cases e : (1000 :: A).contains a
    · rfl
    · exfalso
      rw [List.contains_iff_mem] at e
      have : a ∈ (1000 :: A') := by
        rcases List.mem_cons.mp e with e | e
        · rw [e]; exact List.mem_cons_self
        · exact List.mem_cons_of_mem _ (h2 _ e)
      rw [List.contains_iff_mem.mpr this] at q; cases q
theorem Frm.up {L L' : List (Nat × Nat)} {A A' : List Nat} {h g : am_H} (F : Frm (pX L A) h g) (h1 : ∀ x ∈ L, x ∈ L' := by decide) (h2 : ∀ a ∈ A, a ∈ A' := by decide) : Frm (pX L' A') h g := F.mono (pX_mono h1 h2)
theorem Frm.g1 {P : Nat → Nat → Bool} {h g : am_H} (F : Frm P h g) (p : ∀ j, P 1 j = true := by intro _; rfl) : m_gi g 1 = m_gi h 1 := by
  funext k j; exact F.1 1 k j (p j)
def Lp (P : Nat → Nat → Bool) (h g : am_H) : Prop := Frm P h g ∧ m_gl g = m_gl h ∧ m_nc g = m_nc h ∧ m_ns g = m_ns h ∧ m_gi g 70 0 0 = m_gi h 70 0 0
theorem Lp.refl (P : Nat → Nat → Bool) (h : am_H) : Lp P h h := ⟨Frm.refl P h, rfl, rfl, rfl, rfl⟩
theorem Lp.si {P : Nat → Nat → Bool} {h g : am_H} (F : Lp P h g) {s k j : Nat} {v : Int32} (p : P s j = false) (hs : 70 ≠ s := by decide) : Lp P h (m_si g s k j v) := ⟨F.1.si p, F.2.1, F.2.2.1, F.2.2.2.1, by rw [gi_ne hs]; exact F.2.2.2.2⟩
theorem Lp.cp {P : Nat → Nat → Bool} {h g : am_H} (F : Lp P h g) {s k sp t w dp n : Nat} (p : ∀ j, P t j = false) (hs : 70 ≠ t := by decide) : Lp P h (m_cp g s k sp t w dp n) := ⟨F.1.cp p, F.2.1, F.2.2.1, F.2.2.2.1, by
  show (if 70 = t ∧ 0 = w then _ else m_gi g 70 0 0) = _
  rw [if_neg (fun z => hs z.1)]; exact F.2.2.2.2⟩
theorem Lp.trans {P : Nat → Nat → Bool} {a b c : am_H} (h1 : Lp P a b) (h2 : Lp P b c) : Lp P a c := ⟨h1.1.trans h2.1, h2.2.1.trans h1.2.1, h2.2.2.1.trans h1.2.2.1, h2.2.2.2.1.trans h1.2.2.2.1, h2.2.2.2.2.trans h1.2.2.2.2⟩
theorem Lp.up {L L' : List (Nat × Nat)} {A A' : List Nat} {h g : am_H} (F : Lp (pX L A) h g) (h1 : ∀ x ∈ L, x ∈ L' := by decide) (h2 : ∀ a ∈ A, a ∈ A' := by decide) : Lp (pX L' A') h g := ⟨F.1.up h1 h2, F.2⟩
/-! ## ways up -/
def Pth (R : Nat → Nat → Prop) : Nat → Nat → Nat → Prop
  | 0, t, u => R t u
  | n + 1, t, u => Pth R n t u ∨ (Pth R n t n ∧ Pth R n n u)
theorem Pth.tg {R : Nat → Nat → Prop} : ∀ {n t u : Nat}, Pth R n t u → Relation.TransGen R t u
  | 0, _, _, h => Relation.TransGen.single h
  | _ + 1, _, _, h => by
    rcases h with h | ⟨h1, h2⟩
    · exact Pth.tg h
    · exact Relation.TransGen.trans (Pth.tg h1) (Pth.tg h2)
theorem Pth.tr {R : Nat → Nat → Prop} : ∀ {n m t u : Nat}, m < n → Pth R n t m → Pth R n m u → Pth R n t u
  | 0, m, _, _, hm, _, _ => absurd hm (Nat.not_lt_zero _)
  | n + 1, m, t, u, hm, h1, h2 => by
    rcases Nat.lt_or_ge m n with hn | hn
    · rcases h1 with h1 | ⟨a1, a2⟩ <;> rcases h2 with h2 | ⟨b1, b2⟩
      · exact Or.inl (Pth.tr hn h1 h2)
      · exact Or.inr ⟨Pth.tr hn h1 b1, b2⟩
      · exact Or.inr ⟨a1, Pth.tr hn a2 h2⟩
      · exact Or.inr ⟨a1, b2⟩
    · have e : m = n := by omega
      subst e
      have k1 : Pth R m t m := by rcases h1 with h1 | h1
                                  · exact h1
                                  · exact h1.1
      have k2 : Pth R m m u := by rcases h2 with h2 | h2
                                  · exact h2
                                  · exact h2.2
      exact Or.inr ⟨k1, k2⟩
theorem Pth.le {R : Nat → Nat → Prop} {t u : Nat} : ∀ {n : Nat}, R t u → Pth R n t u
  | 0, h => h
  | _ + 1, h => Or.inl (Pth.le h)
theorem Pth.of_tg {R : Nat → Nat → Prop} {N : Nat} (hR : ∀ a b, R a b → a < N) {t u : Nat} (h : Relation.TransGen R t u) : Pth R N t u := by
  induction h with
  | single h => exact Pth.le h
  | tail _ h2 ih => exact Pth.tr (hR _ _ h2) ih (Pth.le h2)
theorem Pth.self {R : Nat → Nat → Prop} {n u : Nat} : Pth R (n + 1) n u ↔ Pth R n n u := by
  constructor
  · rintro (h | h)
    · exact h
    · exact h.2
  · exact Or.inl
theorem m_gi_cp {h : am_H} {s k sp t w dp n a b c : Nat} : m_gi (m_cp h s k sp t w dp n) a b c = if a = t ∧ b = w then (if dp ≤ c ∧ c < dp + n then m_gi h s k (sp + (c - dp)) else m_gi h t w c) else m_gi h a b c := rfl
theorem cpy_12 {h : am_H} {K : am_H → am_R} : m_cpy (some (12, 0)) 0 (some (13, 0)) 0 30 h K = K (m_cp h 12 0 0 13 0 0 30) := rfl
section Above
variable {Tn : Nat} {h : am_H}
theorem c_fa27 (hT : Tn ≤ 30) {R : Nat → Nat → Prop} {b : Nat} (hb : b < Tn) (rc : Nat × Nat → Int32 → am_H → am_R) (H : ShC h) (e0 : m_gi h 21 0 0 = nI Tn) : ∀ (n k : Nat) (g : am_H), k ≤ Tn → Tn < k + n → Lp (pX [] [13]) h g →
    (∀ t u, t < k → u < 32 → (bt (m_gi g 13 0 t) u = true ↔ Pth R (b + 1) t u)) → (∀ t u, k ≤ t → t < 30 → u < 32 → (bt (m_gi g 13 0 t) u = true ↔ Pth R b t u)) →
    (∀ t u, Tn ≤ t → t < 30 → u < 32 → ¬ Pth R (b + 1) t u) →
    ∃ g', f_X7_findAbove_27 rc n (21, 0) (nI b) (nI k) g = rc (21, 0) (nI (b + 1)) g' ∧ Lp (pX [] [13]) h g' ∧ ∀ t u, t < 30 → u < 32 → (bt (m_gi g' 13 0 t) u = true ↔ Pth R (b + 1) t u)
  | 0, k, g, h1, h2, _, _, _, _ => by omega
  | n + 1, k, g, h1, h2, F, i1, i2, i3 => by
    have e1 : m_gi g 21 0 0 = nI Tn := by rw [F.1.1 21 0 0 rfl, e0]
    have p3 : m_gr g 21 0 3 = some (13, 0) := by rw [F.1.2.1 21 0 3 rfl, pc_abv H]
    rw [f_X7_findAbove_27]
    simp only [gI_21, e1, gR_21, p3, i_le (show Tn < 10000 by omega) (show k < 10000 by omega), nI_1]
    by_cases hk : Tn ≤ k
    · have : k = Tn := by omega
      subst this
      rw [if_pos (Nat.le_refl _)]
      refine ⟨g, rfl, F, fun t u ht hu => ?_⟩
      rcases Nat.lt_or_ge t k with q | q
      · exact i1 t u q hu
      · rw [i2 t u q ht hu]
        exact ⟨fun z => Or.inl z, fun z => absurd z (i3 t u q ht hu)⟩
    · rw [if_neg hk]
      have hk2 : k < Tn := by omega
      have hb32 : b < 32 := by omega
      simp only [aI_13 (show k < 30 by omega), aI_13 (show b < 30 by omega), sI_13 (show k < 30 by omega), c_has hb32, bJ_ri, bI_eq0, f_X7_findAbove_63, nI_1, gR_21, p3]
      have rowb : ∀ u, u < 32 → (bt (m_gi g 13 0 b) u = true ↔ Pth R b b u) := fun u hu => by
        rcases Nat.lt_or_ge b k with q | q
        · rw [i1 b u q hu, Pth.self]
        · exact i2 b u q (by omega) hu
      by_cases hkb : bt (m_gi g 13 0 k) b = true
      · rw [if_neg (by rw [hkb]; simp)]
        refine c_fa27 hT hb rc H e0 n (k + 1) _ hk2 (by omega) (F.si (s := 13) (k := 0) (j := k) rfl) (fun t u ht hu => ?_) (fun t u ht ht2 hu => ?_) i3
        · rw [gi_upJ]
          by_cases e : t = k
          · subst e
            rw [if_pos rfl, b_or, Bool.or_eq_true, i2 t u (Nat.le_refl _) (by omega) hu, rowb u hu]
            exact ⟨fun z => z.elim Or.inl (fun z => Or.inr ⟨(i2 t b (Nat.le_refl _) (by omega) hb32).mp hkb, z⟩), fun z => z.elim Or.inl (fun z => Or.inr z.2)⟩
          · rw [if_neg e]; exact i1 t u (by omega) hu
        · rw [gi_upJ, if_neg (by omega)]; exact i2 t u (by omega) ht2 hu
      · rw [if_pos (by simpa using hkb)]
        refine c_fa27 hT hb rc H e0 n (k + 1) g hk2 (by omega) F (fun t u ht hu => ?_) (fun t u ht ht2 hu => i2 t u (by omega) ht2 hu) i3
        by_cases e : t = k
        · subst e
          rw [i2 t u (Nat.le_refl _) (by omega) hu]
          exact ⟨fun z => Or.inl z, fun z => z.elim id (fun z => absurd ((i2 t b (Nat.le_refl _) (by omega) hb32).mpr z.1) hkb)⟩
        · exact i1 t u (by omega) hu
theorem c_fa17 (hT : Tn ≤ 30) {R : Nat → Nat → Prop} (H : ShC h) (e0 : m_gi h 21 0 0 = nI Tn) (hR : ∀ a b, R a b → a < Tn) : ∀ (n b : Nat) (g : am_H), b ≤ Tn → Tn < b + n → Lp (pX [] [13]) h g →
    (∀ t u, t < 30 → u < 32 → (bt (m_gi g 13 0 t) u = true ↔ Pth R b t u)) →
    ∃ g', f_X7_findAbove_17 n (21, 0) (nI b) g = m_rt g' none ∧ Lp (pX [] [13]) h g' ∧ ∀ t u, t < 30 → u < 32 → (bt (m_gi g' 13 0 t) u = true ↔ Pth R Tn t u)
  | 0, b, g, h1, h2, _, _ => by omega
  | n + 1, b, g, h1, h2, F, i1 => by
    have e1 : m_gi g 21 0 0 = nI Tn := by rw [F.1.1 21 0 0 rfl, e0]
    rw [f_X7_findAbove_17]
    simp only [gI_21, e1, i_le (show Tn < 10000 by omega) (show b < 10000 by omega)]
    by_cases hk : Tn ≤ b
    · have : b = Tn := by omega
      subst this
      rw [if_pos (Nat.le_refl _)]
      exact ⟨g, rfl, F, i1⟩
    · rw [if_neg hk]
      have np : ∀ m t u, Tn ≤ t → ¬ Pth R m t u := fun m t u ht z => by
        have q : ∀ {a c : Nat}, Relation.TransGen R a c → a < Tn := fun {a c} w => by
          induction w with
          | single h => exact hR _ _ h
          | tail _ _ ih => exact ih
        have := q (Pth.tg z)
        omega
      obtain ⟨g1, r1, F1, j1⟩ := c_fa27 (h := h) hT (R := R) (b := b) (by omega) (f_X7_findAbove_17 n) H e0 5000 0 g (by omega) (by omega) F (fun t u ht => absurd ht (by omega)) (fun t u _ ht hu => i1 t u ht hu) (fun t u ht _ _ => np _ t u ht)
      obtain ⟨g2, r2, F2, j2⟩ := c_fa17 hT H e0 hR n (b + 1) g1 (by omega) (by omega) F1 j1
      exact ⟨g2, by rw [show (0 : Int32) = nI 0 from nI_0.symm, r1, r2], F2, j2⟩
theorem c_findAbove0 (hT : Tn ≤ 30) (H : ShC h) (e0 : m_gi h 21 0 0 = nI Tn) (hR : ∀ a b, a < 30 → bt (m_gi h 12 0 a) b = true → a < Tn) (n : Nat) (hn : 100 ≤ n) :
    ∃ g, f_X7_findAbove_17 n (21, 0) 0 (m_cp h 12 0 0 13 0 0 30) = m_rt g none ∧ Lp (pX [] [13]) h g ∧ ∀ t u, t < 30 → u < 32 → (bt (m_gi g 13 0 t) u = true ↔ Relation.TransGen (fun a b => a < 30 ∧ bt (m_gi h 12 0 a) b = true) t u) := by
  have F0 : Lp (pX [] [13]) h (m_cp h 12 0 0 13 0 0 30) := (Lp.refl _ h).cp (fun _ => rfl)
  have i0 : ∀ t u, t < 30 → u < 32 → (bt (m_gi (m_cp h 12 0 0 13 0 0 30) 13 0 t) u = true ↔ Pth (fun a b => a < 30 ∧ bt (m_gi h 12 0 a) b = true) 0 t u) := fun t u ht hu => by
    rw [m_gi_cp, if_pos ⟨rfl, rfl⟩, if_pos (by omega)]
    have e : 0 + (t - 0) = t := by omega
    rw [e]
    exact ⟨fun z => ⟨ht, z⟩, fun z => z.2⟩
  obtain ⟨g, r, F, j⟩ := c_fa17 (h := h) hT (R := fun a b => a < 30 ∧ bt (m_gi h 12 0 a) b = true) H e0 (fun a b z => hR a b z.1 z.2) n 0 _ (by omega) (by omega) F0 i0
  rw [nI_0] at r
  exact ⟨g, r, F, fun t u ht hu => (j t u ht hu).trans ⟨Pth.tg, fun z => Pth.of_tg (fun a b q => hR a b q.1 q.2) z⟩⟩
theorem c_fa_end (H : ShC h) {g : am_H} (r : f_X7_findAbove_17 5000 (21, 0) 0 (m_cp h 12 0 0 13 0 0 30) = m_rt g none) : f_X7_findAbove (21, 0) h = m_rt g none := by
  rw [f_X7_findAbove, gR_21, pc_par H, gR_21, pc_abv H, cpy_12]
  exact r
theorem c_findAbove (hT : Tn ≤ 30) (H : ShC h) (e0 : m_gi h 21 0 0 = nI Tn) (hR : ∀ a b, a < 30 → bt (m_gi h 12 0 a) b = true → a < Tn) :
    ∃ g, f_X7_findAbove (21, 0) h = m_rt g none ∧ Lp (pX [] [13]) h g ∧ ∀ t u, t < 30 → u < 32 → (bt (m_gi g 13 0 t) u = true ↔ Relation.TransGen (fun a b => a < 30 ∧ bt (m_gi h 12 0 a) b = true) t u) := by
  obtain ⟨g, r, F, j⟩ := c_findAbove0 hT H e0 hR 5000 (by decide)
  exact ⟨g, c_fa_end H r, F, j⟩
end Above
/-! ## tags: kinds, meanings, what is above -/
theorem cnt_mono {P Q : Nat → Bool} : ∀ {n : Nat}, (∀ i, i < n → P i = true → Q i = true) → cnt P n ≤ cnt Q n
  | 0, _ => Nat.le_refl _
  | n + 1, h => by
    have ih := cnt_mono (P := P) (Q := Q) (n := n) (fun i hi => h i (by omega))
    rw [cnt, cnt]
    have := h n (by omega)
    cases hp : P n
    · simp; omega
    · rw [this hp]; simp; exact ih
theorem cnt_lt {P Q : Nat → Bool} : ∀ {n i : Nat}, i < n → (∀ i, i < n → P i = true → Q i = true) → P i = false → Q i = true → cnt P n < cnt Q n
  | 0, _, hi, _, _, _ => absurd hi (by omega)
  | n + 1, i, hi, h, hp, hq => by
    rw [cnt, cnt]
    by_cases e : i = n
    · subst e
      have := cnt_mono (P := P) (Q := Q) (n := i) (fun j hj => h j (by omega))
      rw [hp, hq]; simp; omega
    · have ih := cnt_lt (P := P) (Q := Q) (n := n) (i := i) (by omega) (fun j hj => h j (by omega)) hp hq
      have := h n (by omega)
      cases hpn : P n
      · simp; omega
      · rw [this hpn]; simp; omega
theorem pcn_lt {s t : Int32} (hst : ∀ i, i < 32 → bt s i = true → bt t i = true) (hne : s ≠ t) : pcn s 32 < pcn t 32 := by
  rw [pcn_cnt, pcn_cnt]
  have : ∃ i, i < 32 ∧ bt s i = false ∧ bt t i = true := by
    apply Classical.byContradiction
    intro hn
    apply hne
    apply b_ext
    intro i hi
    cases hs : bt s i
    · cases ht : bt t i
      · rfl
      · exact absurd ⟨i, hi, hs, ht⟩ hn
    · rw [hst i hi hs]
  obtain ⟨i, hi, h1, h2⟩ := this
  exact cnt_lt hi hst h1 h2
/-- x with the f k of all k below n that c holds of -/
def orS (f : Nat → Int32) (c : Nat → Bool) (x : Int32) : Nat → Int32
  | 0 => x
  | n + 1 => orS f c x n ||| (if c n then f n else 0)
theorem bt_orS {f : Nat → Int32} {c : Nat → Bool} {x : Int32} {i : Nat} : ∀ {n : Nat}, bt (orS f c x n) i = true ↔ bt x i = true ∨ ∃ k, k < n ∧ c k = true ∧ bt (f k) i = true
  | 0 => ⟨Or.inl, fun h => h.elim id (fun ⟨k, hk, _⟩ => absurd hk (by omega))⟩
  | n + 1 => by
    rw [orS, b_or, Bool.or_eq_true, bt_orS (n := n)]
    constructor
    · rintro ((h | ⟨k, hk, h1, h2⟩) | h)
      · exact Or.inl h
      · exact Or.inr ⟨k, by omega, h1, h2⟩
      · cases hc : c n
        · rw [hc] at h; simp [b_0] at h
        · rw [hc] at h; exact Or.inr ⟨n, by omega, hc, by simpa using h⟩
    · rintro (h | ⟨k, hk, h1, h2⟩)
      · exact Or.inl (Or.inl h)
      · by_cases e : k = n
        · subst e; right; rw [h1]; simpa using h2
        · exact Or.inl (Or.inr ⟨k, by omega, h1, h2⟩)
section Tags
variable {W Tn : Nat} {h : am_H} {t : Nat}
theorem c_kindOf (H : ShC h) (T : RTg Tn h) (ht : t < Tn) : f_X7_kindOf (21, 0) (nI t) h = m_ri h (m_gi h 47 0 t) := by
  have hT := T.1
  simp only [f_X7_kindOf_27, f_X7_kindOf, gR_21, pc_mean H, aI_11 (show t < 30 by omega)]
  rcases T.2.2.2.1 t ht with ⟨a, b⟩ | ⟨a, b⟩ | ⟨a, m, hm, hne, b, _, _⟩
  · rw [b, if_pos rfl, a]
  · rw [b, if_neg (nI_m1 (by omega)), if_pos rfl, a]
  · rw [b, if_neg (nI_m1 (by omega)), if_neg (by rw [i_eq (by omega) (by omega)]; exact hne), a]
theorem r_meaning (G : ShM h) (T : RTg Tn h) (ht : t < Tn) : f_X11_meaning (70, 0) (nI t) h = m_ri h (m_gi h 11 0 t) := by
  have hT := T.1
  simp only [f_X11_meaning_34, f_X11_meaning, gR_70, pm_21 G, aI_47 (show t < 30 by omega), pm_22 G, aI_48 (show t < 30 by omega)]
  rcases T.2.2.2.1 t ht with ⟨a, b⟩ | ⟨a, b⟩ | ⟨a, m, hm, hne, b, b2, _⟩
  · rw [a, b]; rfl
  · rw [a, b]; rfl
  · rw [a, b, b2]; rfl
theorem c_isAbove (H : ShC h) (ht : t < 30) {u : Nat} (hu : u < 32) : f_X7_isAbove (21, 0) (nI u) (nI t) h = m_ri h (bI (bt (m_gi h 13 0 t) u)) := by
  simp only [f_X7_isAbove, gR_21, pc_abv H, aI_13 ht, c_has hu, bJ_ri, rz_bI]
theorem c_isParent (H : ShC h) (ht : t < 30) {u : Nat} (hu : u < 32) : f_X7_isParent (21, 0) (nI u) (nI t) h = m_ri h (bI (bt (m_gi h 12 0 t) u)) := by
  simp only [f_X7_isParent, gR_21, pc_par H, aI_12 ht, c_has hu, bJ_ri, rz_bI]
theorem or_0 (x : Int32) : x ||| 0 = x := by
  apply b_ext; intro i _; rw [b_or, b_0, Bool.or_false]
theorem r_abv19 (G : ShM h) (e : m_gi h 70 0 20 = nI Tn) (hT : Tn ≤ 30) (rc : Nat × Nat → Int32 → Int32 → am_H → am_R) (s : Int32) : ∀ (n k : Nat), k ≤ Tn → Tn < k + n →
    f_X11_aboveOf_19 rc n (70, 0) (orS (fun j => m_gi h 49 0 j) (bt s) s k) s (nI k) h = rc (70, 0) (orS (fun j => m_gi h 49 0 j) (bt s) s Tn) s h
  | 0, k, h1, h2 => by omega
  | n + 1, k, h1, h2 => by
    rw [f_X11_aboveOf_19]
    simp only [gI_70, e, i_le (show Tn < 10000 by omega) (show k < 10000 by omega)]
    by_cases hk : Tn ≤ k
    · rw [if_pos hk, show k = Tn by omega]
    · rw [if_neg hk]
      have ih := r_abv19 G e hT rc s n (k + 1) (by omega) (by omega)
      rw [orS] at ih
      simp only [r_has (show k < 32 by omega), bI_ri, gR_70, pm_23 G, aI_49 (show k < 30 by omega), f_X11_aboveOf_49, nI_1, bI_eq0]
      cases hb : bt s k
      · rw [hb] at ih
        simpa using ih
      · rw [hb] at ih
        simpa using ih
theorem r_abv9 (G : ShM h) (e20 : m_gi h 70 0 20 = nI Tn) (hT : Tn ≤ 30) (A2 : ∀ t u : Nat, t < 30 → bt (m_gi h 49 0 t) u = true → t < Tn ∧ u < Tn) (ht : t < 30) (va : Int32) (A3 : ∀ u, u < 32 → (bt va u = true ↔ Relation.TransGen (fun a b => a < 30 ∧ bt (m_gi h 49 0 a) b = true) t u)) : ∀ (n : Nat) (s b : Int32), (∀ u, u < 32 → bt s u = true → bt va u = true) → (∀ u, bt (m_gi h 49 0 t) u = true → bt s u = true) →
    (b = -1 ∨ s = orS (fun j => m_gi h 49 0 j) (bt b) b Tn) → (34 ≤ n + pcn s 32 ∨ (s = b ∧ 1 ≤ n)) → f_X11_aboveOf_9 n (70, 0) s b h = m_ri h va
  | 0, s, b, _, _, _, h4 => by
    have := pcn_le s 32
    omega
  | n + 1, s, b, h1, h2, h3, h4 => by
    have hi : ∀ {u v : Nat}, v < 32 → Relation.TransGen (fun a b => a < 30 ∧ bt (m_gi h 49 0 a) b = true) u v → v < Tn := fun {u v} _ w => by
      cases w with
      | single q => exact (A2 _ _ q.1 q.2).2
      | tail _ q => exact (A2 _ _ q.1 q.2).2
    rw [f_X11_aboveOf_9]
    by_cases e : s = b
    · rw [if_pos e]
      rcases h3 with h3 | h3
      · exfalso
        have q := h1 31 (by omega) (by rw [e, h3]; exact b_m1 31 (by omega))
        have := hi (by omega) ((A3 31 (by omega)).mp q)
        omega
      · rw [← e] at h3
        have hc : ∀ k, k < Tn → bt s k = true → ∀ u, bt (m_gi h 49 0 k) u = true → bt s u = true := fun k hk hb u hu => by
          rw [h3]; exact bt_orS.mpr (Or.inr ⟨k, hk, hb, hu⟩)
        congr 1
        apply b_ext
        intro u hu
        cases hs : bt s u
        · cases ha : bt va u
          · rfl
          · exfalso
            have w := (A3 u hu).mp ha
            have : bt s u = true := by
              clear hs ha hu
              induction w with
              | single q => exact h2 _ q.2
              | tail w q ih => exact hc _ (A2 _ _ q.1 q.2).1 ih _ q.2
            rw [this] at hs; cases hs
        · exact (h1 u hu hs).symm
    · rw [if_neg e]
      replace h4 : 34 ≤ n + 1 + pcn s 32 := h4.elim id (fun z => absurd z.1 e)
      have e0 : orS (fun j => m_gi h 49 0 j) (bt s) s 0 = s := rfl
      have key := r_abv19 G e20 hT (f_X11_aboveOf_9 n) s 5000 0 (by omega) (by omega)
      rw [e0, nI_0] at key
      rw [key]
      apply r_abv9 G e20 hT A2 ht va A3 n
      · intro u hu hb
        rcases bt_orS.mp hb with q | ⟨k, hk, q1, q2⟩
        · exact h1 u hu q
        · exact (A3 u hu).mpr (Relation.TransGen.tail ((A3 k (by omega)).mp (h1 k (by omega) q1)) ⟨by omega, q2⟩)
      · intro u hu
        exact bt_orS.mpr (Or.inl (h2 u hu))
      · exact Or.inr rfl
      · by_cases e2 : s = orS (fun j => m_gi h 49 0 j) (bt s) s Tn
        · have := pcn_le s 32
          exact Or.inr ⟨e2.symm, by omega⟩
        · have := pcn_lt (fun u _ hu => bt_orS.mpr (Or.inl hu)) e2
          left
          omega
theorem r_aboveOf' (G : ShM h) (e20 : m_gi h 70 0 20 = nI Tn) (hT : Tn ≤ 30) (A2 : ∀ t u : Nat, t < 30 → bt (m_gi h 49 0 t) u = true → t < Tn ∧ u < Tn) (ht : t < 30) (va : Int32) (A3 : ∀ u, u < 32 → (bt va u = true ↔ Relation.TransGen (fun a b => a < 30 ∧ bt (m_gi h 49 0 a) b = true) t u)) : f_X11_aboveOf (70, 0) (nI t) h = m_ri h va := by
  simp only [f_X11_aboveOf, gR_70, pm_23 G, aI_49 ht]
  exact r_abv9 G e20 hT A2 ht va A3 5000 _ _ (fun u hu hb => (A3 u hu).mpr (Relation.TransGen.single ⟨ht, hb⟩)) (fun u hu => hu) (Or.inl rfl) (Or.inl (by omega))
theorem r_aboveOf (G : ShM h) (T : RTg Tn h) (A : RPa Tn h) (ht : t < 30) : f_X11_aboveOf (70, 0) (nI t) h = m_ri h (m_gi h 13 0 t) :=
  r_aboveOf' G T.2.2.1 T.1 (fun t u ht hb => ⟨(A.2.1 t u ht hb).1, (A.2.1 t u ht hb).2.1⟩) ht _ (fun u hu => A.2.2 t u ht hu)
/-- on a heap with the same parents -/
theorem r_abvF {P : Nat → Nat → Bool} {g : am_H} (F : Frm P h g) (G : ShM h) (T : RTg Tn h) (A : RPa Tn h) (ht : t < 30) (p0 : ∀ j, P 70 j = true ∨ j = 0 := by intro j; cases j with | zero => exact Or.inr rfl | succ j => exact Or.inl rfl) (p1 : ∀ j, P 49 j = true := by intro _; rfl) : f_X11_aboveOf (70, 0) (nI t) g = m_ri g (m_gi h 13 0 t) := by
  have e : ∀ j, m_gi g 49 0 j = m_gi h 49 0 j := fun j => F.1 49 0 j (p1 j)
  have pp : ∀ j, j ≠ 0 → P 70 j = true := fun j hj => (p0 j).resolve_right hj
  refine r_aboveOf' (Tn := Tn) (G.frm F (pp _ (by decide)) (pp _ (by decide)) (pp _ (by decide)) (pp _ (by decide)) (pp _ (by decide)) (pp _ (by decide)) (pp _ (by decide)) (pp _ (by decide)) (pp _ (by decide)) (pp _ (by decide)) (pp _ (by decide)) (pp _ (by decide)) (pp _ (by decide)) (pp _ (by decide)) (pp _ (by decide)) (pp _ (by decide)) (pp _ (by decide)) (pp _ (by decide)) (pp _ (by decide)) (pp _ (by decide)) (pp _ (by decide)) (pp _ (by decide)) (pp _ (by decide)) (pp _ (by decide)) (pp _ (by decide)) (pp _ (by decide)) (pp _ (by decide)) (pp _ (by decide)) (pp _ (by decide)) (pp _ (by decide)) (pp _ (by decide)) (pp _ (by decide)) (pp _ (by decide)) (pp _ (by decide)) (pp _ (by decide)) (pp _ (by decide)) (pp _ (by decide)) (pp _ (by decide))) ((F.1 70 0 20 (pp _ (by decide))).trans T.2.2.1) T.1 (fun t u ht hb => ?_) ht _ (fun u hu => ?_)
  · rw [e] at hb; exact ⟨(A.2.1 t u ht hb).1, (A.2.1 t u ht hb).2.1⟩
  · simp only [e]; exact A.2.2 t u ht hu
/-- where a set of tags belongs -/
def mns (h : am_H) (s : Int32) : Nat → Int32
  | 0 => 0
  | n + 1 => mns h s n ||| (if bt s n && !decide (m_gi h 11 0 n = -1) then one (m_gi h 11 0 n).toNatClampNeg else 0)
theorem t_mean (T : RTg Tn h) (ht : t < Tn) : m_gi h 11 0 t = -1 ∨ ∃ m, m < Tn ∧ m_gi h 11 0 t = nI m := by
  rcases T.2.2.2.1 t ht with ⟨_, b⟩ | ⟨_, b⟩ | ⟨_, m, hm, _, b, _⟩
  · exact Or.inl b
  · exact Or.inr ⟨t, ht, b⟩
  · exact Or.inr ⟨m, hm, b⟩
theorem c_belongUnder4 (H : ShC h) (T : RTg Tn h) (s : Int32) : ∀ (n k : Nat), k ≤ Tn → Tn < k + n → f_X7_belongUnder_4 n (21, 0) s (blg h s k) (nI k) h = m_ri h (blg h s Tn)
  | 0, k, h1, h2 => by omega
  | n + 1, k, h1, h2 => by
    have hT := T.1
    rw [f_X7_belongUnder_4]
    simp only [gI_21, T.2.1, i_le (show Tn < 10000 by omega) (show k < 10000 by omega)]
    by_cases hk : Tn ≤ k
    · rw [if_pos hk, show k = Tn by omega]
    · rw [if_neg hk]
      have ih := c_belongUnder4 H T s n (k + 1) (by omega) (by omega)
      rw [blg] at ih
      simp only [c_has (show k < 32 by omega), bJ_ri, gR_21, pc_mean H, pc_abv H, aI_11 (show k < 30 by omega), f_X7_belongUnder_53, nI_1, bI_eq0]
      cases hb : bt s k
      · rw [hb] at ih; simpa [or_0] using ih
      · rw [hb] at ih
        rcases t_mean T (show k < Tn by omega) with q | ⟨m, hm, q⟩
        · rw [q] at ih ⊢; simpa [or_0] using ih
        · rw [q, nI_clamp (show m < 2 ^ 31 by omega)] at ih
          rw [q]
          simp only [aI_13 (show m < 30 by omega), eq_false (nI_m1 (show m < 10000 by omega)), if_false, one_eq] at ih ⊢
          simpa using ih
theorem c_belongUnder (H : ShC h) (T : RTg Tn h) (s : Int32) : f_X7_belongUnder (21, 0) s h = m_ri h (blg h s Tn) := by
  rw [f_X7_belongUnder]
  have := c_belongUnder4 H T s 5000 0 (by omega) (by have := T.1; omega)
  rw [nI_0] at this
  exact this
theorem c_meaningsOf4 (H : ShC h) (T : RTg Tn h) (s : Int32) : ∀ (n k : Nat), k ≤ Tn → Tn < k + n → f_X7_meaningsOf_4 n (21, 0) s (mns h s k) (nI k) h = m_ri h (mns h s Tn)
  | 0, k, h1, h2 => by omega
  | n + 1, k, h1, h2 => by
    have hT := T.1
    rw [f_X7_meaningsOf_4]
    simp only [gI_21, T.2.1, i_le (show Tn < 10000 by omega) (show k < 10000 by omega)]
    by_cases hk : Tn ≤ k
    · rw [if_pos hk, show k = Tn by omega]
    · rw [if_neg hk]
      have ih := c_meaningsOf4 H T s n (k + 1) (by omega) (by omega)
      rw [mns] at ih
      simp only [c_has (show k < 32 by omega), bJ_ri, gR_21, pc_mean H, aI_11 (show k < 30 by omega), f_X7_meaningsOf_41, nI_1, bI_eq0]
      cases hb : bt s k
      · rw [hb] at ih; simpa [or_0] using ih
      · rw [hb] at ih
        rcases t_mean T (show k < Tn by omega) with q | ⟨m, hm, q⟩
        · rw [q] at ih ⊢; simpa [or_0] using ih
        · rw [q, nI_clamp (show m < 2 ^ 31 by omega)] at ih
          rw [q]
          simp only [eq_false (nI_m1 (show m < 10000 by omega)), if_false, one_eq] at ih ⊢
          simpa using ih
theorem c_meaningsOf (H : ShC h) (T : RTg Tn h) (s : Int32) : f_X7_meaningsOf (21, 0) s h = m_ri h (mns h s Tn) := by
  rw [f_X7_meaningsOf]
  have := c_meaningsOf4 H T s 5000 0 (by omega) (by have := T.1; omega)
  rw [nI_0] at this
  exact this
theorem r_belongs4 (G : ShM h) (T : RTg Tn h) (A : RPa Tn h) {w : Nat} (hw : w < 20) : ∀ (n k : Nat), k ≤ Tn → Tn < k + n → f_X11_belongs_4 n (70, 0) (nI w) (blg h (m_gi h 40 0 w) k) (nI k) h = m_ri h (blg h (m_gi h 40 0 w) Tn)
  | 0, k, h1, h2 => by omega
  | n + 1, k, h1, h2 => by
    have hT := T.1
    rw [f_X11_belongs_4]
    simp only [gI_70, T.2.2.1, i_le (show Tn < 10000 by omega) (show k < 10000 by omega)]
    by_cases hk : Tn ≤ k
    · rw [if_pos hk, show k = Tn by omega]
    · rw [if_neg hk]
      have ih := r_belongs4 G T A hw n (k + 1) (by omega) (by omega)
      rw [blg] at ih
      simp only [gR_70, pm_12 G, aI_40 hw, r_has (show k < 32 by omega), bI_ri, ao_70, r_meaning G T (show k < Tn by omega), f_X11_belongs_34, f_X11_belongs_58, nI_1, bI_eq0]
      cases hb : bt (m_gi h 40 0 w) k
      · rw [hb] at ih; simpa [or_0] using ih
      · rw [hb] at ih
        rcases t_mean T (show k < Tn by omega) with q | ⟨m, hm, q⟩
        · rw [q] at ih ⊢; simpa [or_0] using ih
        · rw [q, nI_clamp (show m < 2 ^ 31 by omega)] at ih
          rw [q]
          simp only [r_aboveOf G T A (show m < 30 by omega), bI_ri, eq_false (nI_m1 (show m < 10000 by omega)), if_false, one_eq] at ih ⊢
          simpa using ih
theorem r_belongs (G : ShM h) (T : RTg Tn h) (A : RPa Tn h) {w : Nat} (hw : w < 20) : f_X11_belongs (70, 0) (nI w) h = m_ri h (blg h (m_gi h 40 0 w) Tn) := by
  rw [f_X11_belongs]
  have := r_belongs4 G T A hw 5000 0 (by omega) (by have := T.1; omega)
  rw [nI_0] at this
  exact this
theorem blg_hi (T : RTg Tn h) (A : RPa Tn h) (s : Int32) : ∀ n, n ≤ Tn → ∀ i, Tn ≤ i → bt (blg h s n) i = false
  | 0, _, i, _ => b_0 i
  | n + 1, hn, i, hi => by
    have hT := T.1
    rw [blg, b_or, blg_hi T A s n (by omega) i hi, Bool.false_or]
    split
    · rename_i hc
      rcases t_mean T (show n < Tn by omega) with q | ⟨m, hm, q⟩
      · rw [q] at hc; simp at hc
      · rw [q, nI_clamp (show m < 2 ^ 31 by omega)]
        rcases Nat.lt_or_ge i 32 with h32 | h32
        · rw [b_or, bt_one (by omega) h32, decide_eq_false (by omega), Bool.false_or]
          cases ha : bt (m_gi h 13 0 m) i
          · rfl
          · exfalso
            have w := (A.2.2 m i (by omega) h32).mp ha
            have : i < Tn := by
              cases w with
              | single q => exact (A.2.1 _ _ q.1 q.2).2.1
              | tail _ q => exact (A.2.1 _ _ q.1 q.2).2.1
            omega
        · exact b_big h32
    · exact b_0 i
end Tags
