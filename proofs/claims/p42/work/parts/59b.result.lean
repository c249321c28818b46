/-! ## the order of results -/
def ltD (h : am_H) (k : Nat) : Int32 := if m_gi h 37 0 k = -1 then -1 else outD h k (Cw h k - 1)
/-- j stands ahead of k -/
def ahd (h : am_H) (k j : Nat) : Bool := decide (ltD h k < ltD h j) || (decide (ltD h j = ltD h k) && decide (j < k))
theorem ahd_irr {h : am_H} {k : Nat} : ahd h k k = false := by
  unfold ahd
  rw [decide_eq_false (show ¬ ltD h k < ltD h k from Int32.lt_irrefl), decide_eq_false (Nat.lt_irrefl k), Bool.and_false]; rfl
theorem ahd_iff {h : am_H} {k j : Nat} : ahd h k j = true ↔ ltD h k < ltD h j ∨ (ltD h j = ltD h k ∧ j < k) := by
  unfold ahd
  rw [Bool.or_eq_true, Bool.and_eq_true, decide_eq_true_eq, decide_eq_true_eq, decide_eq_true_eq]
theorem ahd_asym {h : am_H} {k j : Nat} (a : ahd h k j = true) : ahd h j k = false := by
  rw [Bool.eq_false_iff]
  intro b
  rw [ahd_iff] at a b
  rcases a with a | ⟨a1, a2⟩ <;> rcases b with b | ⟨b1, b2⟩
  · exact Int32.lt_irrefl (Int32.lt_trans a b)
  · rw [b1] at a; exact Int32.lt_irrefl a
  · rw [a1] at b; exact Int32.lt_irrefl b
  · omega
theorem ahd_trans {h : am_H} {a b c : Nat} (h1 : ahd h a b = true) (h2 : ahd h b c = true) : ahd h a c = true := by
  rw [ahd_iff] at h1 h2 ⊢
  rcases h1 with h1 | ⟨h1, p1⟩ <;> rcases h2 with h2 | ⟨h2, p2⟩
  · exact Or.inl (Int32.lt_trans h1 h2)
  · rw [h2]; exact Or.inl h1
  · rw [h1] at h2; exact Or.inl h2
  · exact Or.inr ⟨h2.trans h1, by omega⟩
theorem ahd_total {h : am_H} {a b : Nat} (hab : a ≠ b) : ahd h a b = true ∨ ahd h b a = true := by
  rw [ahd_iff, ahd_iff]
  by_cases q : ltD h a < ltD h b
  · exact Or.inl (Or.inl q)
  · by_cases q2 : ltD h b < ltD h a
    · exact Or.inr (Or.inl q2)
    · have e : ltD h a = ltD h b := Int32.le_antisymm (Int32.not_lt.mp q2) (Int32.not_lt.mp q)
      rcases Nat.lt_or_gt_of_ne hab with z | z
      · exact Or.inr (Or.inr ⟨e, z⟩)
      · exact Or.inl (Or.inr ⟨e.symm, z⟩)
def rkN (h : am_H) (S : Nat → Bool) (W k : Nat) : Nat := cnt (fun j => ahd h k j && S j) W
theorem rk_lt {h : am_H} {S : Nat → Bool} {W a b : Nat} (hb : b < W) (sb : S b = true) (ab : ahd h a b = true) : rkN h S W b < rkN h S W a := by
  unfold rkN
  refine cnt_lt (i := b) hb (fun i hi q => ?_) ?_ ?_
  · rw [Bool.and_eq_true] at q ⊢
    exact ⟨ahd_trans ab q.1, q.2⟩
  · show (ahd h b b && S b) = false
    rw [ahd_irr]; rfl
  · show (ahd h a b && S b) = true
    rw [ab, sb]; rfl
theorem rk_inj {h : am_H} {S : Nat → Bool} {W a b : Nat} (ha : a < W) (hb : b < W) (sa : S a = true) (sb : S b = true) (e : rkN h S W a = rkN h S W b) : a = b := by
  by_cases q : a = b
  · exact q
  · exfalso
    rcases ahd_total (h := h) q with z | z
    · have := rk_lt hb sb z; omega
    · have := rk_lt ha sa z; omega
/-- the first one of a set -/
def fsR (P : Nat → Bool) : Nat → Nat → Int32
  | 0, _ => -1
  | n + 1, j => if P j then nI j else fsR P n (j + 1)
theorem fsR_no {P : Nat → Bool} : ∀ {n j : Nat}, (∀ i, j ≤ i → i < j + n → P i = false) → fsR P n j = -1
  | 0, _, _ => rfl
  | n + 1, j, h => by
    rw [fsR, h j (Nat.le_refl j) (by omega), if_neg (by decide)]
    exact fsR_no (fun i a b => h i (by omega) (by omega))
theorem fsR_at {P : Nat → Bool} {f : Nat} : ∀ {n j : Nat}, j ≤ f → f < j + n → P f = true → (∀ i, j ≤ i → i < j + n → P i = true → i = f) → fsR P n j = nI f
  | 0, j, a, b, _, _ => by omega
  | n + 1, j, a, b, c, d => by
    rw [fsR]
    by_cases q : P j = true
    · rw [if_pos q, d j (Nat.le_refl j) (by omega) q]
    · rw [if_neg q]
      have : j ≠ f := fun z => q (z ▸ c)
      exact fsR_at (by omega) (by omega) c (fun i a b => d i (by omega) (by omega))
def bst (h : am_H) (L : Nat → Bool) : Nat → Option Nat
  | 0 => none
  | k + 1 => if L k = true then (match bst h L k with
      | none => some k
      | some f => if ltD h k ≤ ltD h f then some f else some k) else bst h L k
def oI : Option Nat → Int32
  | none => -1
  | some f => nI f
theorem bst_no {h : am_H} {L : Nat → Bool} : ∀ {k : Nat}, bst h L k = none → ∀ j, j < k → L j = false
  | 0, _, j, hj => by omega
  | k + 1, e, j, hj => by
    rw [bst] at e
    by_cases q : L k = true
    · rw [if_pos q] at e
      cases hb : bst h L k with
      | none => rw [hb] at e; cases e
      | some f =>
        rw [hb] at e
        simp only at e
        split at e <;> cases e
    · rw [if_neg q] at e
      by_cases ej : j = k
      · rw [ej]; simpa using q
      · exact bst_no e j (by omega)
theorem bst_some {h : am_H} {L : Nat → Bool} : ∀ {k f : Nat}, bst h L k = some f → f < k ∧ L f = true ∧ ∀ j, j < k → L j = true → j ≠ f → ahd h j f = true
  | 0, f, e => by cases e
  | k + 1, f, e => by
    rw [bst] at e
    by_cases q : L k = true
    · rw [if_pos q] at e
      cases hb : bst h L k with
      | none =>
        rw [hb] at e
        simp only [Option.some.injEq] at e
        subst e
        refine ⟨by omega, q, fun j hj lj nj => ?_⟩
        have := bst_no hb j (by omega)
        rw [this] at lj; cases lj
      | some g =>
        rw [hb] at e
        simp only at e
        obtain ⟨g1, g2, g3⟩ := bst_some hb
        by_cases c : ltD h k ≤ ltD h g
        · rw [if_pos c] at e
          simp only [Option.some.injEq] at e
          subst e
          refine ⟨by omega, g2, fun j hj lj nj => ?_⟩
          by_cases ej : j = k
          · subst ej
            rw [ahd_iff]
            by_cases z : ltD h j < ltD h g
            · exact Or.inl z
            · exact Or.inr ⟨Int32.le_antisymm (Int32.not_lt.mp z) c, g1⟩
          · exact g3 j (by omega) lj nj
        · rw [if_neg c] at e
          simp only [Option.some.injEq] at e
          subst e
          have c' : ltD h g < ltD h k := Int32.not_le.mp c
          refine ⟨by omega, q, fun j hj lj nj => ?_⟩
          rw [ahd_iff]
          by_cases ej : j = g
          · subst ej; exact Or.inl c'
          · have := g3 j (by omega) lj ej
            rw [ahd_iff] at this
            rcases this with z | ⟨z, _⟩
            · exact Or.inl (Int32.lt_trans z c')
            · rw [z] at c'; exact Or.inl c'
    · rw [if_neg q] at e
      obtain ⟨g1, g2, g3⟩ := bst_some e
      refine ⟨by omega, g2, fun j hj lj nj => g3 j ?_ lj nj⟩
      by_cases ej : j = k
      · rw [ej] at lj; exact absurd lj q
      · omega
section Result
variable {W Cn : Nat} {h : am_H}
theorem c_latest (N : RWn W h) (pp : RWp W h) (c : RWc W h) {k : Nat} (hk : k < W) : f_X9_latest (27, k) h = m_ri h (ltD h k) := by
  obtain ⟨c1, c2⟩ := Cw_of c hk
  obtain ⟨n', a1, a2, a3, a4⟩ := c.1 k hk
  have hn : n' = Cw h k := (nI_eq (show n' < 2 ^ 31 by omega) (show Cw h k < 2 ^ 31 by omega)).mp (a3.symm.trans c2)
  subst hn
  have zc : (nI (Cw h k) ≤ (0 : Int32)) = (Cw h k ≤ 0) := i_le (b := 0) (by omega) (by omega)
  rw [f_X9_latest, ao_27, c_isPosted pp hk, bI_ri]
  unfold ltD
  by_cases np : m_gi h 37 0 k = -1
  · rw [decide_eq_true np, Bool.not_true, bI_f, if_pos rfl, if_pos np, f_X9_latest_27, f_X9_latest_28]
  · rw [decide_eq_false np, Bool.not_false, bI_t, if_neg (by decide), if_neg np, gI_27, a2]
    have c0 : Cw h k ≠ 0 := fun z => by
      rcases (pp k hk).2 with q | ⟨_, _, _, q⟩
      · exact np q
      · rw [c2, z] at q; exact q rfl
    obtain ⟨m, em⟩ : ∃ m, Cw h k = m + 1 := ⟨Cw h k - 1, by omega⟩
    rw [if_neg (show ¬ nI (Cw h k) ≤ (0 : Int32) by rw [zc]; omega), gI_27, a2, ao_27, em, nI_pred, f_X9_outDay, gR_27, (N.2.2.2.2.2 k hk).2, aI_16 (show m < 8 by omega), gI_27, (pp k hk).1, bI_ri, f_X9_latest_28, max_eq, (a4 m (by omega)).1]
    rfl
theorem r_latest (G : ShM h) (N : RWn W h) (pp : RWp W h) (c : RWc W h) {k : Nat} (hk : k < W) : f_X11_latest (70, 0) (nI k) h = m_ri h (ltD h k) := by
  obtain ⟨c1, c2⟩ := Cw_of c hk
  have h20 : k < 20 := Nat.lt_of_lt_of_le hk N.1
  rw [f_X11_latest, gR_70, pm_9 G, aI_37 h20]
  unfold ltD
  by_cases np : m_gi h 37 0 k = -1
  · rw [if_pos np, if_pos np, f_X11_latest_27]
  · have c0 : Cw h k ≠ 0 := fun z => by
      rcases (pp k hk).2 with q | ⟨_, _, _, q⟩
      · exact np q
      · rw [c2, z] at q; exact q rfl
    obtain ⟨m, em⟩ : ∃ m, Cw h k = m + 1 := ⟨Cw h k - 1, by omega⟩
    rw [if_neg np, if_neg np, gR_70, pm_7 G, aI_35 h20, c2, ao_70, em, nI_pred, r_outDay G h20 (show m < 8 by omega), bI_ri, f_X11_latest_27]
    rfl
theorem c_cao16 (H : ShC h) (N : RWn W h) (pp : RWp W h) (c : RWc W h) {S : Nat → Bool} {set : Int32} (hS : ∀ i, i < W → bt set i = S i) {w : Nat} (hw : w < W) : ∀ (n k : Nat), k ≤ W → W < k + n →
    f_X10_countAheadOf_16 n (69, 0) (nI w) set (ltD h w) (nI (cnt (fun j => ahd h w j && S j) k)) (nI k) h = m_ri h (nI (rkN h S W w))
  | 0, k, h1, h2 => by omega
  | n + 1, k, h1, h2 => by
    have hW := N.1
    rw [f_X10_countAheadOf_16]
    simp only [gI_69, N.2.1, i_le (show W < 10000 by omega) (show k < 10000 by omega)]
    by_cases hk : W ≤ k
    · rw [if_pos hk, show k = W by omega]; rfl
    · rw [if_neg hk]
      have hkW : k < W := by omega
      have ih := c_cao16 H N pp c hS hw n (k + 1) (by omega) (by omega)
      rw [cnt] at ih
      simp only [gR_69, pc_works H, aR_19 (show k < 20 by omega), (N.2.2.2.2.2 k hkW).1, ao_27, c_latest N pp c hkW, bI_ri, i_le (show w < 10000 by omega) (show k < 10000 by omega), f_X10_countAheadOf_55, f_X10_countAheadOf_59, f_X10_countAheadOf_60, f_X10_countAheadOf_79, n10, n00, if_true, if_false, c_has (show k < 32 by omega), hS k hkW, bI_eq0, nI_1]
      have key : (if ltD h w < ltD h k then (if S k = false then f_X10_countAheadOf_16 n (69, 0) (nI w) set (ltD h w) (nI (cnt (fun j => ahd h w j && S j) k)) (nI (k + 1)) h else f_X10_countAheadOf_16 n (69, 0) (nI w) set (ltD h w) (nI (cnt (fun j => ahd h w j && S j) k + 1)) (nI (k + 1)) h) else if ltD h k = ltD h w then (if w ≤ k then f_X10_countAheadOf_16 n (69, 0) (nI w) set (ltD h w) (nI (cnt (fun j => ahd h w j && S j) k)) (nI (k + 1)) h else (if S k = false then f_X10_countAheadOf_16 n (69, 0) (nI w) set (ltD h w) (nI (cnt (fun j => ahd h w j && S j) k)) (nI (k + 1)) h else f_X10_countAheadOf_16 n (69, 0) (nI w) set (ltD h w) (nI (cnt (fun j => ahd h w j && S j) k + 1)) (nI (k + 1)) h)) else f_X10_countAheadOf_16 n (69, 0) (nI w) set (ltD h w) (nI (cnt (fun j => ahd h w j && S j) k)) (nI (k + 1)) h) = f_X10_countAheadOf_16 n (69, 0) (nI w) set (ltD h w) (nI (cnt (fun j => ahd h w j && S j) k + if (ahd h w k && S k) = true then 1 else 0)) (nI (k + 1)) h := by
        by_cases q1 : ltD h w < ltD h k
        · have : ahd h w k = true := ahd_iff.mpr (Or.inl q1)
          rw [if_pos q1, this, Bool.true_and]
          cases hs : S k
          · rw [if_pos rfl, if_neg (by decide)]; simp only [Nat.add_zero]
          · rw [if_neg (by decide), if_pos rfl]
        · rw [if_neg q1]
          by_cases q2 : ltD h k = ltD h w
          · rw [if_pos q2]
            by_cases q3 : w ≤ k
            · have : ahd h w k = false := by
                rw [Bool.eq_false_iff]; intro z; rw [ahd_iff] at z
                rcases z with z | z
                · exact q1 z
                · omega
              rw [if_pos q3, this, Bool.false_and, if_neg (by decide)]; simp only [Nat.add_zero]
            · have : ahd h w k = true := ahd_iff.mpr (Or.inr ⟨q2, by omega⟩)
              rw [if_neg q3, this, Bool.true_and]
              cases hs : S k
              · rw [if_pos rfl, if_neg (by decide)]; simp only [Nat.add_zero]
              · rw [if_neg (by decide), if_pos rfl]
          · have : ahd h w k = false := by
              rw [Bool.eq_false_iff]; intro z; rw [ahd_iff] at z
              rcases z with z | z
              · exact q1 z
              · exact q2 z.1
            rw [if_neg q2, this, Bool.false_and, if_neg (by decide)]; simp only [Nat.add_zero]
      exact key.trans ih
theorem c_countAheadOf (H : ShC h) (N : RWn W h) (pp : RWp W h) (c : RWc W h) {S : Nat → Bool} {set : Int32} (hS : ∀ i, i < W → bt set i = S i) {w : Nat} (hw : w < W) : f_X10_countAheadOf (69, 0) (nI w) set h = m_ri h (nI (rkN h S W w)) := by
  have := c_cao16 H N pp c hS hw 5000 0 (by omega) (by have := N.1; omega)
  rw [cnt, nI_0] at this
  rw [f_X10_countAheadOf, gR_69, pc_works H, aR_19 (Nat.lt_of_lt_of_le hw N.1), (N.2.2.2.2.2 w hw).1, ao_27, c_latest N pp c hw, bI_ri]
  exact this
def anR (h : am_H) (S : Nat → Bool) (W : Nat) (x : Int32) : Int32 := fsR (fun j => S j && decide (nI (rkN h S W j) = x)) W 0
theorem c_res33 (H : ShC h) (N : RWn W h) (pp : RWp W h) (c : RWc W h) {S : Nat → Bool} {set : Int32} (hS : ∀ i, i < W → bt set i = S i) (x : Int32) : ∀ (n k d : Nat), k + d = W → W < k + n →
    f_X10_result_33 n (69, 0) x set (nI k) h = m_ri h (fsR (fun j => S j && decide (nI (rkN h S W j) = x)) d k)
  | 0, k, d, h1, h2 => by omega
  | n + 1, k, d, h1, h2 => by
    have hW := N.1
    rw [f_X10_result_33]
    simp only [gI_69, N.2.1, i_le (show W < 10000 by omega) (show k < 10000 by omega)]
    cases d with
    | zero => rw [if_pos (show W ≤ k by omega), fsR]
    | succ d =>
      rw [if_neg (show ¬ W ≤ k by omega), fsR]
      have hkW : k < W := by omega
      have ih := c_res33 H N pp c hS x n (k + 1) d (by omega) (by omega)
      simp only [c_has (show k < 32 by omega), hS k hkW, bI_ri, bI_eq0, ao_69, c_countAheadOf H N pp c hS hkW, f_X10_result_65, nI_1]
      cases hs : S k
      · rw [if_pos rfl, Bool.false_and, if_neg (by decide)]; exact ih
      · rw [if_neg (by decide), Bool.true_and]
        by_cases q : nI (rkN h S W k) = x
        · rw [if_pos q, decide_eq_true q, if_pos rfl]
        · rw [if_neg q, decide_eq_false q, if_neg (by decide)]; exact ih
theorem c_res (H : ShC h) (N : RWn W h) (pp : RWp W h) (c : RWc W h) {S : Nat → Bool} {set : Int32} (hS : ∀ i, i < W → bt set i = S i) (x : Int32) : f_X10_result_33 5000 (69, 0) x set 0 h = m_ri h (anR h S W x) := by
  have := c_res33 H N pp c hS x 5000 0 W (by omega) (by have := N.1; omega)
  rw [nI_0] at this
  exact this
theorem r_res66 (G : ShM h) (N : RWn W h) (pp : RWp W h) (c : RWc W h) {L : Nat → Bool} {left : Int32} (hL : ∀ i, i < W → bt left i = L i) (rc : Nat × Nat → Int32 → Int32 → Int32 → Int32 → am_H → am_R) (x y : Int32) : ∀ (n k : Nat), k ≤ W → W < k + n →
    f_X11_result_66 rc n (70, 0) x left (oI (bst h L k)) y (nI k) h = if y = x then rc (70, 0) x (left &&& (((1 : Int32) <<< (oI (bst h L W) &&& 31)) ^^^ (-1))) (oI (bst h L W)) (y + 1) h else rc (70, 0) x (left &&& (((1 : Int32) <<< (oI (bst h L W) &&& 31)) ^^^ (-1))) (-1) (y + 1) h
  | 0, k, h1, h2 => by omega
  | n + 1, k, h1, h2 => by
    have hW := N.1
    rw [f_X11_result_66]
    simp only [gI_70, N.2.2.1, i_le (show W < 10000 by omega) (show k < 10000 by omega), f_X11_result_141]
    by_cases hk : W ≤ k
    · rw [if_pos hk, show k = W by omega]
    · rw [if_neg hk]
      have hkW : k < W := by omega
      have ih := r_res66 G N pp c hL rc x y n (k + 1) (by omega) (by omega)
      rw [bst] at ih
      simp only [r_has (show k < 32 by omega), hL k hkW, bI_ri, bI_eq0, f_X11_result_110, f_X11_result_105, f_X11_result_112, nI_1, ao_70, r_latest G N pp c hkW]
      cases hl : L k
      · rw [if_pos rfl]
        rw [hl, if_neg (by decide)] at ih
        exact ih
      · rw [if_neg (by decide)]
        rw [hl, if_pos rfl] at ih
        cases hb : bst h L k with
        | none =>
          rw [hb] at ih
          rw [oI, if_pos rfl]
          exact ih
        | some f =>
          rw [hb] at ih
          obtain ⟨f1, f2, _⟩ := bst_some hb
          rw [oI, if_neg (nI_m1 (show f < 10000 by omega)), r_latest G N pp c (show f < W by omega), bI_ri]
          simp only at ih
          by_cases q : ltD h k ≤ ltD h f
          · rw [if_pos q]
            rw [if_pos q] at ih
            exact ih
          · rw [if_neg q]
            rw [if_neg q] at ih
            exact ih
theorem lt_succ {x : Int32} {n : Nat} (hn : n < 10000) (h1 : ¬ x < nI n) (h2 : ¬ nI n = x) : ¬ x < nI (n + 1) := by
  intro h3
  have a : ¬ x.toInt < (n : Int) := fun z => h1 (Int32.lt_iff_toInt_lt.mpr (by rw [nI_toInt (by omega)]; exact z))
  have b := Int32.lt_iff_toInt_lt.mp h3
  rw [nI_toInt (by omega)] at b
  refine h2 (Int32.toInt_inj.mp ?_)
  rw [nI_toInt (by omega)]
  omega
theorem r_res50 (G : ShM h) (N : RWn W h) (pp : RWp W h) (c : RWc W h) {S : Nat → Bool} (x : Int32) (fu : Nat) (hfu : 100 ≤ fu) : ∀ (m n : Nat) (left x4 : Int32), W + 1 < n + m →
    (∀ m, f_X11_result_66 (f_X11_result_50 m) 5000 = f_X11_result_66 (f_X11_result_50 m) fu) →
    (∀ i, bt left i = true → i < W ∧ S i = true) → n = cnt (fun i => S i && !bt left i) W → (∀ i j, i < W → S i = true → bt left i = false → bt left j = true → ahd h j i = true) → (x < nI n → x4 = anR h S W x) → (¬ x < nI n → x4 = -1) →
    f_X11_result_50 m (70, 0) x left x4 (nI n) h = m_ri h (anR h S W x)
  | 0, n, left, x4, h1, _, i1, i2, i3, i4, i5 => by
    have := cnt_le (fun i => S i && !bt left i) W
    omega
  | m + 1, n, left, x4, h1, hf, i1, i2, i3, i4, i5 => by
    have hW := N.1
    have hnW : n ≤ W := by rw [i2]; exact cnt_le _ W
    rw [f_X11_result_50, hf]
    by_cases q : x < nI n
    · rw [if_pos q, f_X11_result_149, i4 q]
    · rw [if_neg q]
      by_cases q0 : left = 0
      · rw [if_pos q0, f_X11_result_149, i5 q]
        congr 1
        refine (fsR_no (fun i _ hi => ?_)).symm
        show (S i && decide (nI (rkN h S W i) = x)) = false
        cases hs : S i
        · rfl
        · rw [Bool.true_and]
          refine decide_eq_false (fun z => q ?_)
          rw [← z]
          refine nI_lt ?_ (by omega)
          rw [i2]
          unfold rkN
          refine cnt_lt (i := i) (by omega) (fun j hj r => ?_) ?_ ?_
          · rw [Bool.and_eq_true] at r
            show (S j && !bt left j) = true
            rw [r.2, q0, b_0]; rfl
          · show (ahd h i i && S i) = false
            rw [ahd_irr]; rfl
          · show (S i && !bt left i) = true
            rw [hs, q0, b_0]; rfl
      · rw [if_neg q0]
        have e := r_res66 G N pp c (L := bt left) (left := left) (fun _ _ => rfl) (f_X11_result_50 m) x (nI n) fu 0 (by omega) (by omega)
        rw [bst, oI, nI_0] at e
        rw [e]
        cases hb : bst h (bt left) W with
        | none =>
          exfalso
          refine q0 (b_ext (fun i hi => ?_))
          rw [b_0]
          cases hbi : bt left i
          · rfl
          · have := bst_no hb i (i1 i hbi).1
            rw [hbi] at this; cases this
        | some f =>
          obtain ⟨f1, f2, f3⟩ := bst_some hb
          have sf := (i1 f f2).2
          rw [oI, one_eq, wi_f, nI_1]
          have bw : ∀ i, i < W → bt (wi left f false) i = if i = f then false else bt left i := fun i hi => bt_wi left (by omega) false (by omega)
          have rkf : rkN h S W f = n := by
            rw [i2]
            unfold rkN
            refine cnt_congr (fun j hj => ?_)
            cases hs : S j
            · rw [Bool.and_false, Bool.false_and]
            · rw [Bool.and_true, Bool.true_and]
              cases hl : bt left j
              · exact i3 j f hj hs hl f2
              · by_cases ej : j = f
                · rw [ej, ahd_irr]; rfl
                · exact ahd_asym (f3 j hj hl ej)
          have an : nI n = x → anR h S W x = nI f := fun ex => by
            refine fsR_at (by omega) (by omega) ?_ (fun i _ hi r => ?_)
            · show (S f && decide (nI (rkN h S W f) = x)) = true
              rw [sf, rkf, decide_eq_true ex]; rfl
            · have r' : (S i && decide (nI (rkN h S W i) = x)) = true := r
              rw [Bool.and_eq_true, decide_eq_true_eq] at r'
              have rl : rkN h S W i ≤ W := cnt_le _ W
              have : rkN h S W i = n := (nI_eq (show rkN h S W i < 2 ^ 31 by omega) (show n < 2 ^ 31 by omega)).mp (r'.2.trans ex.symm)
              exact rk_inj (show i < W by omega) f1 r'.1 sf (this.trans rkf.symm)
          have j1 : ∀ i, bt (wi left f false) i = true → i < W ∧ S i = true := fun i hi => by
            by_cases h32 : i < 32
            · rw [bt_wi left (by omega) false h32] at hi
              by_cases ei : i = f
              · rw [if_pos ei] at hi; cases hi
              · rw [if_neg ei] at hi; exact i1 i hi
            · rw [b_big (by omega)] at hi; cases hi
          have j2 : n + 1 = cnt (fun i => S i && !bt (wi left f false) i) W := by
            have g : ∀ m, m ≤ W → cnt (fun i => S i && !bt (wi left f false) i) m = cnt (fun i => S i && !bt left i) m + if f < m then 1 else 0 := fun m => by
              induction m with
              | zero => intro _; rfl
              | succ m ih =>
                intro hm
                rw [cnt, cnt, ih (by omega), bw m (by omega)]
                by_cases em : m = f
                · subst em
                  rw [if_pos rfl, sf, f2, if_neg (show ¬ m < m by omega), if_pos (show m < m + 1 by omega)]
                  rfl
                · rw [if_neg em]
                  by_cases hlt : f < m
                  · rw [if_pos hlt, if_pos (show f < m + 1 by omega)]; omega
                  · rw [if_neg hlt, if_neg (show ¬ f < m + 1 by omega)]; omega
            rw [g W (Nat.le_refl W), if_pos f1, ← i2]
          have j3 : ∀ i j, i < W → S i = true → bt (wi left f false) i = false → bt (wi left f false) j = true → ahd h j i = true := fun i j hi si bi bj => by
            have hj := (j1 j bj).1
            rw [bw i hi] at bi
            rw [bw j hj] at bj
            by_cases ej : j = f
            · rw [if_pos ej] at bj; cases bj
            · rw [if_neg ej] at bj
              by_cases ei : i = f
              · rw [ei]; exact f3 j hj bj ej
              · rw [if_neg ei] at bi
                exact i3 i j hi si bi bj
          by_cases ex : nI n = x
          · rw [if_pos ex]
            exact r_res50 G N pp c x fu hfu m (n + 1) _ _ (by omega) hf j1 j2 j3 (fun _ => (an ex).symm) (fun z => absurd (by rw [← ex]; exact nI_lt (by omega) (by omega)) z)
          · rw [if_neg ex]
            exact r_res50 G N pp c x fu hfu m (n + 1) _ _ (by omega) hf j1 j2 j3 (fun z => absurd z (lt_succ (by omega) q ex)) (fun _ => rfl)
theorem r_res (G : ShM h) (N : RWn W h) (pp : RWp W h) (c : RWc W h) {S : Nat → Bool} {x : Int32} (hx : ¬ x < 0) : f_X11_result_50 5000 (70, 0) x (setOf S W) (-1) 0 h = m_ri h (anR h S W x) := by
  have hW := N.1
  have := r_res50 G N pp c (S := S) x 5000 (by omega) 5000 0 (setOf S W) (-1) (by omega) (fun _ => rfl) (fun i hi => by
    by_cases h32 : i < 32
    · rw [bt_setOf S (by omega) h32, Bool.and_eq_true, decide_eq_true_eq] at hi; exact hi
    · rw [b_big (by omega)] at hi; cases hi) (by
    have g : ∀ m, m ≤ W → cnt (fun i => S i && !bt (setOf S W) i) m = 0 := fun m => by
      induction m with
      | zero => intro _; rfl
      | succ m ih =>
        intro hm
        rw [cnt, ih (by omega), bt_setOf S (by omega) (by omega), decide_eq_true (show m < W by omega), Bool.true_and]
        cases S m <;> rfl
    exact (g W (Nat.le_refl W)).symm) (fun i j hi si bi bj => by
    rw [bt_setOf S (by omega) (by omega), decide_eq_true hi, si] at bi; cases bi) (fun z => absurd (by rw [nI_0] at z; exact z) hx) (fun _ => rfl)
  rw [nI_0] at this
  exact this
end Result
theorem ltD_S {h g : am_H} (F : Frm PS h g) : ltD g = ltD h := by
  funext k
  have e : Cw g k = Cw h k := by unfold Cw; rw [F.1 35 0 k rfl]
  unfold ltD outD
  rw [e, F.1 37 0 k rfl, F.1 36 0 _ rfl]
theorem anR_S {h g : am_H} (F : Frm PS h g) (S : Nat → Bool) (W : Nat) (x : Int32) : anR g S W x = anR h S W x := by
  have e : ahd g = ahd h := by
    funext a b
    unfold ahd
    rw [ltD_S F]
  unfold anR rkN
  rw [e]
theorem fsR_ne21 {P : Nat → Bool} : ∀ {n j : Nat}, j + n < 10000 → fsR P n j ≠ -2100000000
  | 0, _, _ => by show (-1 : Int32) ≠ _; decide
  | n + 1, j, hj => by
    rw [fsR]
    split
    · exact nI_ne21 (by omega)
    · exact fsR_ne21 (by omega)
theorem op_result {W Cn Tn Sn Qn : Nat} {h : am_H} (R : RR W Cn Tn Sn Qn h) (x y : Int32) : OpOK h (f_G_result (some (69, 0)) x y (some (71, 0)) h) (f_X11_result (70, 0) x y) vI := by
  have R0 := R
  obtain ⟨H, G, rDay, rBlk, rSam, N, rWa, rWc, rWp, rWl, rWo, rWt, rWf, rWw, rWs, rWk, rCo, rTg, rPa, rTp, rSg, rCm, rSb, rDg, rIv⟩ := R
  have hW := N.1
  obtain ⟨D, hD, d1, d2⟩ := id rDay
  obtain ⟨len, t⟩ := tp_of rTp
  have B0 : BB W Cn Tn len h := ⟨H, G, N, d1.trans d2.symm, rWa, rWp, rWl, rWo, rCo, rTg, rPa, rWt, rWf, t⟩
  have hl := t.1
  rcases ix_cases x (n := 32) (by omega) with ⟨f, hf, rfl⟩ | hx
  · have iy := isIx_ok (show 32 < 10000 by omega) hf
    by_cases hy : (0 : Int32) ≤ y
    · have hy' : ¬ y < 0 := Int32.not_lt.mpr hy
      obtain ⟨g1, a1, a2⟩ := c_checkQuery H t
      have L1 : Lp PS h g1 := a2.up
      have eT1 : tC g1 = tC h := tC_S L1.1
      by_cases hv : vd (tC h) len 0 0 0 = true
      · rw [if_pos hv] at a1
        obtain ⟨g2, c1, c2⟩ := c_found (b := false) (B0.frm L1.1) hf (by rw [eT1]; exact hv)
        have e2 : ∀ w, (fnd g1 Tn len f false w && seenP g1 f w) = (fnd h Tn len f false w && seenP h f w) := fun w => by
          rw [fnd_S L1.1, seenP_S L1.1]
        rw [setOf_congr (fun w _ => e2 w)] at c1
        have L2 : Lp PS h g2 := L1.trans c2
        have c3 := c_res (S := ((fun w => fnd h Tn len f false w && seenP h f w))) (set := setOf ((fun w => fnd h Tn len f false w && seenP h f w)) W) (H.frm L2.1) (N.frm L2.1) (rWp.frm L2.1) (rWc.frm L2.1) (fun i hi => by rw [bt_setOf _ (by omega) (by omega), decide_eq_true hi, Bool.true_and]) y
        rw [anR_S L2.1] at c3
        have Fc : Frm PS h (m_sl g2 71 0 0 (vI (anR h ((fun w => fnd h Tn len f false w && seenP h f w)) W y))) := L2.1.sl
        have Fs : Frm PS h (m_si (m_sl g2 71 0 0 (vI (anR h ((fun w => fnd h Tn len f false w && seenP h f w)) W y))) 70 0 0 0) := Fc.si rfl
        have eTc : tC (m_sl g2 71 0 0 (vI (anR h ((fun w => fnd h Tn len f false w && seenP h f w)) W y))) = tC h := tC_S Fc
        have eTs : tC (m_si (m_sl g2 71 0 0 (vI (anR h ((fun w => fnd h Tn len f false w && seenP h f w)) W y))) 70 0 0 0) = tC h := tC_S Fs
        have r1 := r_faultOf (G.frm Fc) (t.frm Fc)
        rw [eTc] at r1
        have fv : ft (tC h) len 0 0 0 = -1 := by rw [ft_vd (by omega)]; exact hv
        obtain ⟨h2, s1, s2⟩ := r_searchOf (b := false) (B0.frm Fs) hf (by rw [eTs]; exact hv) (m_si (m_sl g2 71 0 0 (vI (anR h ((fun w => fnd h Tn len f false w && seenP h f w)) W y))) 70 0 0 0) (Lp.refl _ _)
        have e3 : ∀ w, (fnd (m_si (m_sl g2 71 0 0 (vI (anR h ((fun w => fnd h Tn len f false w && seenP h f w)) W y))) 70 0 0 0) Tn len f false w && seenP (m_si (m_sl g2 71 0 0 (vI (anR h ((fun w => fnd h Tn len f false w && seenP h f w)) W y))) 70 0 0 0) f w) = (fnd h Tn len f false w && seenP h f w) := fun w => by
          rw [fnd_S Fs, seenP_S Fs]
        rw [setOf_congr (fun w _ => e3 w)] at s1
        have F2 : Frm PS h h2 := Fs.trans s2.1
        have r3 := r_res (S := ((fun w => fnd h Tn len f false w && seenP h f w))) (x := y) (G.frm F2) (N.frm F2) (rWp.frm F2) (rWc.frm F2) hy'
        rw [anR_S F2] at r3
        rw [bI_f] at c1 s1
        refine ok_u (hv := fun _ => fsR_ne21 (by omega)) (h1 := g2) (b := (anR h ((fun w => fnd h Tn len f false w && seenP h f w)) W y)) (h2 := h2) (L_result_ret _ _ ?_) ?_ ?_ ?_ ?_ ?_ ?_ ?_ ?_
        · rw [f_X10_result, c_checkFace hf, bV_rt, if_pos hy, ao_69, a1, bV_rt, ao_69, c1, bI_ri, c3]
        · rw [f_X11_result, r_isFace, iy, bI_ri, bI_t, if_neg (by decide), if_pos hy, ao_70, r1, bI_ri, if_pos fv, f_X11_result_29, ao_70, r_h0, bI_ri, if_neg (by decide), ao_70, s1, bI_ri, r3]
        · rw [s2.2.2.2.2]; rfl
        · rw [s2.2.1]; exact gl_eq
        · exact L2.1.g1
        · exact F2.g1
        · rw [s2.2.2.1]; show m_nc g2 ≤ _; rw [L2.2.2.1]; omega
        · rw [s2.2.2.2.1]; show m_ns g2 ≤ _; rw [L2.2.2.2.1]; omega
        · exact ⟨W, Cn, Tn, Sn, Qn, ⟨H.frm F2, G.frm F2, rDay.frm F2, rBlk.frm F2, rSam.frm F2, N.frm F2, rWa.frm F2, rWc.frm F2, rWp.frm F2, rWl.frm F2, rWo.frm F2, rWt.frm F2, rWf.frm F2, rWw.frm F2, rWs.frm F2, rWk.frm F2, rCo.frm F2, rTg.frm F2, rPa.frm F2, rTp.frm F2, rSg.frm F2, rCm.frm F2, rSb.frm F2, rDg.frm F2, rIv.frm F2⟩⟩
      · rw [if_neg hv] at a1
        have R1 : RR W Cn Tn Sn Qn g1 := by
          have F1 := L1.1
          exact ⟨H.frm F1, G.frm F1, rDay.frm F1, rBlk.frm F1, rSam.frm F1, N.frm F1, rWa.frm F1, rWc.frm F1, rWp.frm F1, rWl.frm F1, rWo.frm F1, rWt.frm F1, rWf.frm F1, rWw.frm F1, rWs.frm F1, rWk.frm F1, rCo.frm F1, rTg.frm F1, rPa.frm F1, rTp.frm F1, rSg.frm F1, rCm.frm F1, rSb.frm F1, rDg.frm F1, rIv.frm F1⟩
        have Fe : Frm (pX [] []) g1 (m_op (m_th g1)) := (Frm.refl _ g1).th.op rfl
        have r1 := r_faultOf (R1.G.frm Fe) ((t.frm L1.1).frm Fe)
        rw [tC_cong (g := m_op (m_th g1)) (h := g1) rfl, eT1] at r1
        have fv : ¬ ft (tC h) len 0 0 0 = -1 := by rw [ft_vd (by omega)]; exact hv
        obtain ⟨h1, k, h2, b', o1, o2, o3, o4, o5, o6, o7, o8, o9, o10⟩ := ok_ex (r := f_G_result (some (69, 0)) (nI f) y (some (71, 0)) h) (mf := f_X11_result (70, 0) (nI f) y) (V := vI) R1 (c := 2) (b := 0) (by decide) (L_result_x1 _ _ (by rw [f_X10_result, c_checkFace hf, bV_rt, if_pos hy, ao_69, a1, bV_ex])) (by rw [f_X11_result, r_isFace, iy, bI_ri, bI_t, if_neg (by decide), if_pos hy, ao_70, r1, bI_ri, if_neg fv, f_X11_result_29, ao_70, r_h2, bI_ri, if_pos rfl])
        exact ⟨h1, k, h2, b', o1, o2, o3, o4, o5.trans a2.1.g1, o6.trans a2.1.g1, by rw [a2.2.2.1] at o7; exact o7, by rw [a2.2.2.2.1] at o8; exact o8, fun z => a2.1.trans (o9 z), o10⟩
    · exact ok_ex R0 (c := 1) (b := 0) (by decide) (L_result_x0 _ _ (by rw [f_X10_result, c_checkFace hf, bV_rt, if_neg hy])) (by rw [f_X11_result, r_isFace, iy, bI_ri, bI_t, if_neg (by decide), if_neg hy, f_X11_result_12, f_X11_result_29, ao_70, r_h1, bI_ri, if_pos rfl])
  · exact ok_ex R0 (c := 1) (b := 0) (by decide) (L_result_x0 _ _ (by rw [f_X10_result, c_checkFace_bad hx, bV_ex])) (by rw [f_X11_result, r_isFace, isIx_bad (show 32 < 10000 by omega) hx, bI_ri, bI_f, if_pos rfl, f_X11_result_12, f_X11_result_29, ao_70, r_h1, bI_ri, if_pos rfl])
