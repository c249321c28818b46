/-! ## whom a SIGN gives to -/
def mtQ (F : Nat → Nat → Bool) (n k t r : Nat) : Bool := F k r && !t.testBit r && decide (0 < WY F n (n - pcN (t ||| 2 ^ r)) (t ||| 2 ^ r))
def mtR (F : Nat → Nat → Bool) (n : Nat) : Nat → Nat → Nat → Int32 → Int32
  | 0, _, _, x => x
  | d + 1, k, t, _ => mtR F n d (k + 1) (t ||| 2 ^ (fsR (mtQ F n k t) n 0).toNatClampNeg) (fsR (mtQ F n k t) n 0)
theorem fsR_ex {P : Nat → Bool} : ∀ {n j r : Nat}, j ≤ r → r < j + n → P r = true → ∃ m, fsR P n j = nI m ∧ j ≤ m ∧ m < j + n ∧ P m = true
  | 0, j, r, a, b, _ => by omega
  | n + 1, j, r, a, b, c => by
    rw [fsR]
    by_cases q : P j = true
    · rw [if_pos q]
      exact ⟨j, rfl, Nat.le_refl j, by omega, q⟩
    · rw [if_neg q]
      have : j ≠ r := fun z => q (z ▸ c)
      obtain ⟨m, e1, e2, e3, e4⟩ := fsR_ex (P := P) (n := n) (j := j + 1) (r := r) (by omega) (by omega) c
      exact ⟨m, e1, by omega, by omega, e4⟩
theorem mt_next {F : Nat → Nat → Bool} {n k t : Nat} (hn : n ≤ 8) (hk : pcN t = k) (hkn : k < n) (ht : t < 2 ^ n) (hp : 0 < WY F n (n - k) t) :
    ∃ m, m < n ∧ fsR (mtQ F n k t) n 0 = nI m ∧ mtQ F n k t m = true ∧ pcN (t ||| 2 ^ m) = k + 1 ∧ t ||| 2 ^ m < 2 ^ n ∧ 0 < WY F n (n - (k + 1)) (t ||| 2 ^ m) := by
  subst hk
  rw [WY_step hkn] at hp
  obtain ⟨r, r1, r2⟩ := sumN_pos hp
  have q : mtQ F n (pcN t) t r = true := by
    unfold mtQ
    cases hb : t.testBit r
    · cases hf : F (pcN t) r
      · rw [wyF_0 (by rw [hf, Bool.and_false])] at r2; omega
      · rw [wyF_v hb (by omega) hf] at r2
        rw [decide_eq_true r2]; rfl
    · rw [wyF_0 (by rw [hb]; rfl)] at r2; omega
  obtain ⟨m, e1, e2, e3, e4⟩ := fsR_ex (P := mtQ F n (pcN t) t) (n := n) (j := 0) (r := r) (Nat.zero_le r) (by omega) q
  have e5 := e4
  unfold mtQ at e5
  rw [Bool.and_eq_true, Bool.and_eq_true, Bool.not_eq_true', decide_eq_true_eq] at e5
  have pc := su_pc (t := t) (r := m) (by omega) e5.1.2
  refine ⟨m, by omega, e1, e4, pc, su_lt ht (by omega), ?_⟩
  rw [← pc]
  exact e5.2
theorem nI_le0 {w : Nat} (hw : w < 2 ^ 31) : (nI w ≤ (0 : Int32)) = (w = 0) := by
  have : (nI w ≤ nI 0) ↔ (w ≤ 0) := nI_leI hw (by decide)
  rw [show (0 : Int32) = nI 0 from rfl]
  exact propext ⟨fun z => by have := this.mp z; omega, fun z => this.mpr (by omega)⟩
section Match
variable {Sn Tn : Nat} {g : am_H} {F : Nat → Nat → Bool}
theorem c_lw14 (B : GBd Sn Tn g) {k t : Nat} (hk : k < Sn) (ht : t < 2 ^ Sn) (V3 : ∀ j, j < Sn → m_gi g 3 0 j = setOf (F j) Sn) (V4 : ∀ u, u < 2 ^ Sn → m_gi g 4 0 u = nI (WY F Sn (Sn - pcN u) u)) : ∀ (n j d : Nat), j + d = Sn → Sn < j + n →
    f_X2_lowestReceiver_14 n (24, 0) (nI t) (m_gi g 3 0 k &&& (nI t ^^^ (-1))) (nI j) g = m_ri g (fsR (mtQ F Sn k t) d j)
  | 0, j, d, h1, h2 => by omega
  | n + 1, j, d, h1, h2 => by
    obtain ⟨H, G, s, T, A⟩ := id B
    have hS := s.1
    have p8 := pow_le8 hS
    have ik : (nI Sn ≤ nI j) = (Sn ≤ j) := i_le (by omega) (by omega)
    have w1 : ∀ {x : Int32} {i : Nat} {g2 : am_H}, f_X10_with x (nI i) 1 g2 = m_ri g2 (wi x i true) := c_with (b := true)
    rw [f_X2_lowestReceiver_14, gI_24, s.2.1]
    cases d with
    | zero => rw [if_pos (show nI Sn ≤ nI j by rw [ik]; omega), fsR]
    | succ d =>
      have hj : j < Sn := by omega
      have ih := c_lw14 B hk ht V3 V4 n (j + 1) d (by omega) (by omega)
      rw [if_neg (show ¬ nI Sn ≤ nI j by rw [ik]; omega), c_has (show j < 32 by omega), bJ_ri, b_and, bt_not _ (show j < 32 by omega), V3 k hk, bt_setOf _ (by omega) (by omega), decide_eq_true hj, Bool.true_and, bt_nat _ _ (show j < 32 by omega), fsR]
      rw [V3 k hk] at ih
      unfold mtQ at ih ⊢
      cases hb : F k j && !t.testBit j
      · rw [Bool.false_and, if_neg (show ¬ false = true by decide), bI_f, if_pos rfl, f_X2_lowestReceiver_50, nI_1]
        exact ih
      · have l2 := su_lt ht hj
        have wl : WY F Sn (Sn - pcN (t ||| 2 ^ j)) (t ||| 2 ^ j) < 2 ^ 31 := WY_lt hS (by omega)
        rw [Bool.true_and, bI_t, if_neg (by decide), gR_24, pc_ways H, w1, bJ_ri, su_eq (show j < 8 by omega), aI_4 (show t ||| 2 ^ j < 256 by omega), V4 _ l2]
        by_cases q : WY F Sn (Sn - pcN (t ||| 2 ^ j)) (t ||| 2 ^ j) = 0
        · rw [if_pos (show nI (WY F Sn (Sn - pcN (t ||| 2 ^ j)) (t ||| 2 ^ j)) ≤ (0 : Int32) by rw [nI_le0 wl]; exact q), decide_eq_false (show ¬ 0 < WY F Sn (Sn - pcN (t ||| 2 ^ j)) (t ||| 2 ^ j) by omega), if_neg (by decide), f_X2_lowestReceiver_50, nI_1]
          exact ih
        · rw [if_neg (show ¬ nI (WY F Sn (Sn - pcN (t ||| 2 ^ j)) (t ||| 2 ^ j)) ≤ (0 : Int32) by rw [nI_le0 wl]; exact q), decide_eq_true (show 0 < WY F Sn (Sn - pcN (t ||| 2 ^ j)) (t ||| 2 ^ j) by omega), if_pos rfl]
theorem c_lowest (B : GBd Sn Tn g) {k t : Nat} (hk : k < Sn) (ht : t < 2 ^ Sn) (V3 : ∀ j, j < Sn → m_gi g 3 0 j = setOf (F j) Sn) (V4 : ∀ u, u < 2 ^ Sn → m_gi g 4 0 u = nI (WY F Sn (Sn - pcN u) u)) : f_X2_lowestReceiver (24, 0) (nI k) (nI t) g = m_ri g (fsR (mtQ F Sn k t) Sn 0) := by
  have hS := B.2.2.1.1
  have := c_lw14 B hk ht V3 V4 5000 0 Sn (by omega) (by omega)
  rw [nI_0] at this
  rw [f_X2_lowestReceiver, gR_24, pc_recv B.1, aI_3 (show k < 8 by omega)]
  exact this
theorem c_ro13 (B : GBd Sn Tn g) {K : Nat} (hK : K < Sn) (V3 : ∀ j, j < Sn → m_gi g 3 0 j = setOf (F j) Sn) (V4 : ∀ u, u < 2 ^ Sn → m_gi g 4 0 u = nI (WY F Sn (Sn - pcN u) u)) : ∀ (d m k t : Nat) (x : Int32), k + d = K + 1 → d < m → pcN t = k → t < 2 ^ Sn → 0 < WY F Sn (Sn - k) t →
    f_X2_receiverOf_13 m (24, 0) (nI K) x (nI t) (nI k) g = m_ri g (mtR F Sn d k t x)
  | 0, m, k, t, x, h1, h2, h3, h4, h5 => by
    have hS := B.2.2.1.1
    obtain ⟨m, rfl⟩ : ∃ m', m = m' + 1 := ⟨m - 1, by omega⟩
    rw [f_X2_receiverOf_13, if_pos (show nI K < nI k from nI_lt (by omega) (by omega)), f_X2_receiverOf_63, mtR]
  | d + 1, m, k, t, x, h1, h2, h3, h4, h5 => by
    obtain ⟨H, G, s, T, A⟩ := id B
    have hS := s.1
    have p8 := pow_le8 hS
    have iK : (nI K < nI k) = (K < k) := i_lt (by omega) (by omega)
    have w1 : ∀ {x : Int32} {i : Nat} {g2 : am_H}, f_X10_with x (nI i) 1 g2 = m_ri g2 (wi x i true) := c_with (b := true)
    obtain ⟨m, rfl⟩ : ∃ m', m = m' + 1 := ⟨m - 1, by omega⟩
    obtain ⟨r, r1, r2, r3, r4, r5, r6⟩ := mt_next hS h3 (show k < Sn by omega) h4 h5
    have wl : WY F Sn (Sn - k) t < 2 ^ 31 := WY_lt hS (by omega)
    have ih := c_ro13 B hK V3 V4 d m (k + 1) (t ||| 2 ^ r) (nI r) (by omega) (by omega) r4 r5 r6
    rw [f_X2_receiverOf_13, if_neg (show ¬ nI K < nI k by rw [iK]; omega), gR_24, pc_ways H, aI_4 (show t < 256 by omega), V4 t h4, h3, if_neg (show ¬ nI (WY F Sn (Sn - k) t) ≤ (0 : Int32) by rw [nI_le0 wl]; omega), ao_24, c_lowest B (show k < Sn by omega) h4 V3 V4, bI_ri, r2, if_neg (nI_m1 (show r < 10000 by omega)), w1, bJ_ri, su_eq (show r < 8 by omega), f_X2_receiverOf_55, nI_1, mtR, r2, nI_clamp (show r < 2 ^ 31 by omega)]
    exact ih
theorem r_mt64 (B : GBd Sn Tn g) {k t : Nat} (hk : k < Sn) (ht : t < 2 ^ Sn) (V1 : ∀ a r, a < Sn → r < Sn → m_gi g 58 0 (8 * a + r) = bI (F a r)) (V2 : ∀ u, u < 2 ^ Sn → m_gi g 59 0 u = nI (WY F Sn (Sn - pcN u) u)) (rc : Nat × Nat → Int32 → Int32 → Int32 → Int32 → am_H → am_R) (y : Int32) : ∀ (n j d : Nat), j + d = Sn → j < n →
    f_X11_match_64 rc n (70, 0) y (nI t) (fsR (mtQ F Sn k t) d j) (nI k) (nI j + (-1)) g = rc (70, 0) y (nI t ||| ((1 : Int32) <<< (fsR (mtQ F Sn k t) Sn 0 &&& 31))) (fsR (mtQ F Sn k t) Sn 0) (nI (k + 1)) g
  | 0, j, d, h1, h2 => by omega
  | n + 1, j, d, h1, h2 => by
    obtain ⟨H, G, s, T, A⟩ := id B
    have hS := s.1
    have p8 := pow_le8 hS
    rw [f_X11_match_64]
    cases j with
    | zero => rw [if_pos m1_0, nI_1, show d = Sn by omega]
    | succ j =>
      have hj : j < Sn := by omega
      have ih := r_mt64 B hk ht V1 V2 rc y n j (d + 1) (by omega) (by omega)
      rw [fsR] at ih
      have ix : (8 : Int32) * nI k + nI j = nI (8 * k + j) := by
        show nI 8 * nI k + nI j = _
        rw [pk_mul, nI_add]
      rw [m1_s, if_neg (nI_pos (show j < 2 ^ 31 by omega)), r_has (show j < 32 by omega), bI_ri, bt_nat _ _ (show j < 32 by omega)]
      have stay : mtQ F Sn k t j = false → f_X11_match_113 rc (f_X11_match_64 rc n) (70, 0) y (nI t) (fsR (mtQ F Sn k t) d (j + 1)) (nI k) (nI j) g = rc (70, 0) y (nI t ||| ((1 : Int32) <<< (fsR (mtQ F Sn k t) Sn 0 &&& 31))) (fsR (mtQ F Sn k t) Sn 0) (nI (k + 1)) g := fun e => by
        rw [e, if_neg (by decide)] at ih
        rw [f_X11_match_113, f_X11_match_114]
        exact ih
      cases hb : t.testBit j
      · rw [bI_f, if_pos rfl, gR_70, pm_35 G, ix, aI_58 (show 8 * k + j < 64 by omega), V1 k j hk hj]
        cases hF : F k j
        · rw [bI_f, if_pos rfl]
          exact stay (by unfold mtQ; rw [hF]; rfl)
        · have l2 := su_lt ht hj
          have wl : WY F Sn (Sn - pcN (t ||| 2 ^ j)) (t ||| 2 ^ j) < 2 ^ 31 := WY_lt hS (by omega)
          rw [bI_t, if_neg (by decide), gR_70, pm_36 G, one_eq, wi_t, su_eq (show j < 8 by omega), aI_59 (show t ||| 2 ^ j < 256 by omega), V2 _ l2]
          by_cases q : WY F Sn (Sn - pcN (t ||| 2 ^ j)) (t ||| 2 ^ j) = 0
          · rw [if_pos (show nI (WY F Sn (Sn - pcN (t ||| 2 ^ j)) (t ||| 2 ^ j)) ≤ (0 : Int32) by rw [nI_le0 wl]; exact q)]
            exact stay (by unfold mtQ; rw [decide_eq_false (show ¬ 0 < WY F Sn (Sn - pcN (t ||| 2 ^ j)) (t ||| 2 ^ j) by omega), Bool.and_false])
          · rw [if_neg (show ¬ nI (WY F Sn (Sn - pcN (t ||| 2 ^ j)) (t ||| 2 ^ j)) ≤ (0 : Int32) by rw [nI_le0 wl]; exact q)]
            have e : mtQ F Sn k t j = true := by unfold mtQ; rw [hF, hb, decide_eq_true (show 0 < WY F Sn (Sn - pcN (t ||| 2 ^ j)) (t ||| 2 ^ j) by omega)]; rfl
            rw [e, if_pos rfl] at ih
            rw [f_X11_match_114]
            exact ih
      · rw [bI_t, if_neg (by decide)]
        exact stay (by unfold mtQ; rw [hb, Bool.not_true, Bool.and_false, Bool.false_and])
theorem r_mt39 (B : GBd Sn Tn g) {K : Nat} (hK : K < Sn) (V1 : ∀ a r, a < Sn → r < Sn → m_gi g 58 0 (8 * a + r) = bI (F a r)) (V2 : ∀ u, u < 2 ^ Sn → m_gi g 59 0 u = nI (WY F Sn (Sn - pcN u) u)) (h0 : 0 < WY F Sn (Sn - pcN 0) 0) (fu : Nat) (hfu : 100 ≤ fu) (hf : ∀ m, f_X11_match_64 (f_X11_match_39 m) 5000 = f_X11_match_64 (f_X11_match_39 m) fu) : ∀ (d m k t : Nat) (x : Int32), k + d = K + 1 → d < m → pcN t = k → t < 2 ^ Sn → 0 < WY F Sn (Sn - k) t →
    f_X11_match_39 m (70, 0) (nI K) (nI t) x (nI k) g = m_ri g (mtR F Sn d k t x)
  | 0, m, k, t, x, h1, h2, h3, h4, h5 => by
    have hS := B.2.2.1.1
    obtain ⟨m, rfl⟩ : ∃ m', m = m' + 1 := ⟨m - 1, by omega⟩
    rw [f_X11_match_39, if_pos (show nI K < nI k from nI_lt (by omega) (by omega)), f_X11_match_133, mtR]
  | d + 1, m, k, t, x, h1, h2, h3, h4, h5 => by
    obtain ⟨H, G, s, T, A⟩ := id B
    have hS := s.1
    have p8 := pow_le8 hS
    have p0 : 0 < 2 ^ Sn := Nat.two_pow_pos Sn
    have iK : (nI K < nI k) = (K < k) := i_lt (by omega) (by omega)
    have z59 : ∀ {K : Int32 → am_R}, m_aI (some (59, 0)) 0 0 g K = K (m_gi g 59 0 0) := fun {K} => aI_59 (k := 0) (by decide)
    obtain ⟨m, rfl⟩ : ∃ m', m = m' + 1 := ⟨m - 1, by omega⟩
    obtain ⟨r, r1, r2, r3, r4, r5, r6⟩ := mt_next hS h3 (show k < Sn by omega) h4 h5
    have wl : WY F Sn (Sn - pcN 0) 0 < 2 ^ 31 := WY_lt hS (by omega)
    have ih := r_mt39 B hK V1 V2 h0 fu hfu hf d m (k + 1) (t ||| 2 ^ r) (nI r) (by omega) (by omega) r4 r5 r6
    have e := r_mt64 B (show k < Sn by omega) h4 V1 V2 (f_X11_match_39 m) (nI K) fu Sn 0 (by omega) (by omega)
    rw [fsR, r2, one_eq, wi_t, su_eq (show r < 8 by omega)] at e
    rw [f_X11_match_39, hf, if_neg (show ¬ nI K < nI k by rw [iK]; omega), gR_70, pm_36 G, z59, V2 0 p0, if_neg (show ¬ nI (WY F Sn (Sn - pcN 0) 0) ≤ (0 : Int32) by rw [nI_le0 wl]; omega), gI_70, s.2.2.1, Int32.sub_eq_add_neg, mtR, r2, nI_clamp (show r < 2 ^ 31 by omega)]
    exact e.trans ih
theorem c_ro5 (B : GBd Sn Tn g) {K : Nat} (hK : K < Sn) (V3 : ∀ j, j < Sn → m_gi g 3 0 j = setOf (F j) Sn) (V4 : ∀ u, u < 2 ^ Sn → m_gi g 4 0 u = nI (WY F Sn (Sn - pcN u) u)) (h0 : 0 < WY F Sn (Sn - pcN 0) 0) : f_X2_receiverOf_13 5000 (24, 0) (nI K) (-1) 0 0 g = m_ri g (mtR F Sn (K + 1) 0 0 (-1)) := by
  have hS := B.2.2.1.1
  have := c_ro13 B hK V3 V4 (K + 1) 5000 0 0 (-1) (by omega) (by omega) (by decide +kernel) (Nat.two_pow_pos Sn) (by rw [show pcN 0 = 0 by decide +kernel] at h0; exact h0)
  rw [nI_0] at this
  exact this
theorem r_mt5 (B : GBd Sn Tn g) {K : Nat} (hK : K < Sn) (V1 : ∀ a r, a < Sn → r < Sn → m_gi g 58 0 (8 * a + r) = bI (F a r)) (V2 : ∀ u, u < 2 ^ Sn → m_gi g 59 0 u = nI (WY F Sn (Sn - pcN u) u)) (h0 : 0 < WY F Sn (Sn - pcN 0) 0) : f_X11_match_39 5000 (70, 0) (nI K) 0 (-1) 0 g = m_ri g (mtR F Sn (K + 1) 0 0 (-1)) := by
  have hS := B.2.2.1.1
  have := r_mt39 B hK V1 V2 h0 5000 (by omega) (fun _ => rfl) (K + 1) 5000 0 0 (-1) (by omega) (by omega) (by decide +kernel) (Nat.two_pow_pos Sn) (by rw [show pcN 0 = 0 by decide +kernel] at h0; exact h0)
  rw [nI_0] at this
  exact this
theorem c_ro0 (B : GBd Sn Tn g) {K : Nat} (hK : K < Sn) (V4 : ∀ u, u < 2 ^ Sn → m_gi g 4 0 u = nI (WY F Sn (Sn - pcN u) u)) (h0 : WY F Sn (Sn - pcN 0) 0 = 0) : ∀ n, f_X2_receiverOf_13 (n + 1) (24, 0) (nI K) (-1) 0 0 g = m_ri g (-1) := fun n => by
  have hS := B.2.2.1.1
  have z4 : ∀ {K : Int32 → am_R}, m_aI (some (4, 0)) 0 0 g K = K (m_gi g 4 0 0) := fun {K} => aI_4 (k := 0) (by decide)
  rw [f_X2_receiverOf_13, if_neg (nI_pos (show K < 2 ^ 31 by omega)), gR_24, pc_ways B.1, z4, V4 0 (Nat.two_pow_pos Sn), h0, if_pos (show nI 0 ≤ (0 : Int32) by decide +kernel), f_X2_receiverOf_63]
theorem r_mt0 (B : GBd Sn Tn g) {K : Nat} (hK : K < Sn) (V2 : ∀ u, u < 2 ^ Sn → m_gi g 59 0 u = nI (WY F Sn (Sn - pcN u) u)) (h0 : WY F Sn (Sn - pcN 0) 0 = 0) : ∀ n, f_X11_match_39 (n + 1) (70, 0) (nI K) 0 (-1) 0 g = m_ri g (-1) := fun n => by
  have hS := B.2.2.1.1
  have z59 : ∀ {K : Int32 → am_R}, m_aI (some (59, 0)) 0 0 g K = K (m_gi g 59 0 0) := fun {K} => aI_59 (k := 0) (by decide)
  rw [f_X11_match_39, if_neg (nI_pos (show K < 2 ^ 31 by omega)), gR_70, pm_36 B.2.1, z59, V2 0 (Nat.two_pow_pos Sn), h0, if_pos (show nI 0 ≤ (0 : Int32) by decide +kernel), f_X11_match_133]
def mtA (F : Nat → Nat → Bool) (n K : Nat) : Int32 := if WY F n (n - pcN 0) 0 = 0 then -1 else mtR F n (K + 1) 0 0 (-1)
theorem c_roA (B : GBd Sn Tn g) {K : Nat} (hK : K < Sn) (V3 : ∀ j, j < Sn → m_gi g 3 0 j = setOf (F j) Sn) (V4 : ∀ u, u < 2 ^ Sn → m_gi g 4 0 u = nI (WY F Sn (Sn - pcN u) u)) : f_X2_receiverOf_13 5000 (24, 0) (nI K) (-1) 0 0 g = m_ri g (mtA F Sn K) := by
  unfold mtA
  by_cases h0 : WY F Sn (Sn - pcN 0) 0 = 0
  · rw [if_pos h0]; exact c_ro0 B hK V4 h0 4999
  · rw [if_neg h0]; exact c_ro5 B hK V3 V4 (by omega)
theorem r_mtA (B : GBd Sn Tn g) {K : Nat} (hK : K < Sn) (V1 : ∀ a r, a < Sn → r < Sn → m_gi g 58 0 (8 * a + r) = bI (F a r)) (V2 : ∀ u, u < 2 ^ Sn → m_gi g 59 0 u = nI (WY F Sn (Sn - pcN u) u)) : f_X11_match_39 5000 (70, 0) (nI K) 0 (-1) 0 g = m_ri g (mtA F Sn K) := by
  unfold mtA
  by_cases h0 : WY F Sn (Sn - pcN 0) 0 = 0
  · rw [if_pos h0]; exact r_mt0 B hK V2 h0 4999
  · rw [if_neg h0]; exact r_mt5 B hK V1 V2 (by omega)
end Match
theorem mtR_ne21 {F : Nat → Nat → Bool} {n : Nat} (hn : n < 1000) : ∀ (d k t : Nat) (x : Int32), x ≠ -2100000000 → mtR F n d k t x ≠ -2100000000
  | 0, _, _, _, hx => hx
  | d + 1, k, t, x, _ => by rw [mtR]; exact mtR_ne21 hn d _ _ _ (fsR_ne21 (by omega))
theorem mtA_ne21 {F : Nat → Nat → Bool} {n K : Nat} (hn : n < 1000) : mtA F n K ≠ -2100000000 := by
  unfold mtA
  split
  · decide
  · exact mtR_ne21 hn _ _ _ _ (by decide)
theorem op_match {W Cn Tn Sn Qn : Nat} {h : am_H} (R : RR W Cn Tn Sn Qn h) (x : Int32) : OpOK h (f_G_match (some (69, 0)) x (some (71, 0)) h) (f_X11_match (70, 0) x) vI := by
  have R0 := R
  obtain ⟨H, G, rDay, rBlk, rSam, N, rWa, rWc, rWp, rWl, rWo, rWt, rWf, rWw, rWs, rWk, rCo, rTg, rPa, rTp, rSg, rCm, rSb, rDg, rIv⟩ := R
  have hS := rSg.1
  have k1 := rSg.2.1
  have k2 := rSg.2.2.1
  have B0 : GBd Sn Tn h := ⟨H, G, rSg, rTg, rPa⟩
  rcases ix_cases x (n := Sn) (by omega) with ⟨K, hK, rfl⟩ | hx
  · have dd : decide (¬ nI K < 0 ∧ ¬ nI Sn - 1 < nI K) = true := isIx_ok (show Sn < 10000 by omega) hK
    obtain ⟨g1, a1, a2, a3, a4⟩ := c_findWays B0
    have Fc : Frm PG h (m_sl g1 71 0 0 (vI (mtA (fitP h Tn) Sn K))) := a2.1.sl
    have Fs : Frm PG h (m_si (m_sl g1 71 0 0 (vI (mtA (fitP h Tn) Sn K))) 70 0 0 0) := Fc.si rfl
    obtain ⟨h2, b1, b2, b3, b4⟩ := r_counts (B0.frm Fs)
    rw [fitP_G Fs] at b3 b4
    have F2 : Frm PG h h2 := Fs.trans b2.1
    have kc : m_gi (m_sl g1 71 0 0 (vI (mtA (fitP h Tn) Sn K))) 70 0 30 = nI Sn := (Fc.1 70 0 30 rfl).trans k2
    refine ok_u (hv := fun _ => mtA_ne21 (by have := rSg.1; omega)) (h1 := g1) (b := (mtA (fitP h Tn) Sn K)) (h2 := h2) (L_match_ret _ ?_) ?_ ?_ ?_ ?_ ?_ ?_ ?_ ?_
    · rw [f_X10_match, if_neg (nI_pos (show K < 2 ^ 31 by omega)), gR_69, pc_gifts H, gI_24, k1, if_pos (nI_lt hK (by omega)), gR_69, pc_gifts H, gR_69, pc_tags H, ao_24, f_X2_receiverOf, ao_24, a1, bV_rt, c_roA (B0.frm a2.1) hK a3 a4, bI_ri]
    · rw [f_X11_match, gI_70, kc, r_in, dd, bI_ri, bI_t, if_neg (by decide), f_X11_match_20, ao_70, r_h0, bI_ri, if_neg (by decide), ao_70, b1, bV_rt, r_mtA (B0.frm F2) hK b3 b4]
    · rw [b2.2.2.2.2]; rfl
    · rw [b2.2.1]; exact gl_eq
    · exact a2.1.g1
    · exact F2.g1
    · rw [b2.2.2.1]; show m_nc g1 ≤ _; rw [a2.2.2.1]; omega
    · rw [b2.2.2.2.1]; show m_ns g1 ≤ _; rw [a2.2.2.2.1]; omega
    · exact ⟨W, Cn, Tn, Sn, Qn, ⟨H.frm F2, G.frm F2, rDay.frm F2, rBlk.frm F2, rSam.frm F2, N.frm F2, rWa.frm F2, rWc.frm F2, rWp.frm F2, rWl.frm F2, rWo.frm F2, rWt.frm F2, rWf.frm F2, rWw.frm F2, rWs.frm F2, rWk.frm F2, rCo.frm F2, rTg.frm F2, rPa.frm F2, rTp.frm F2, rSg.frm F2, rCm.frm F2, rSb.frm F2, rDg.frm F2, rIv.frm F2⟩⟩
  · have dd : decide (¬ x < 0 ∧ ¬ nI Sn - 1 < x) = false := isIx_bad (show Sn < 10000 by omega) hx
    have ke : m_gi (m_op (m_th h)) 70 0 30 = nI Sn := k2
    refine ok_ex R0 (c := 1) (b := 0) (by decide) (L_match_x0 _ ?_) (by rw [f_X11_match, gI_70, ke, r_in, dd, bI_ri, bI_f, if_pos rfl, f_X11_match_20, ao_70, r_h1, bI_ri, if_pos rfl])
    rw [f_X10_match]
    by_cases hx0 : x < 0
    · rw [if_pos hx0, f_X10_match_15]
    · rw [if_neg hx0, gR_69, pc_gifts H, gI_24, k1, if_neg (i_nlt (by rcases hx with q | q; exact absurd q hx0; exact q)), f_X10_match_15]
