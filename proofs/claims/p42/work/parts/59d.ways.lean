/-! ## in how many ways SIGNS can have receivers -/
def pcN (t : Nat) : Nat := pcn (nI t) 32
set_option maxRecDepth 100000 in
theorem pcN_lt : ∀ n, n < 9 → ∀ t, t < 256 → t + 1 < 2 ^ n → pcn (nI t) 32 < n := by decide +kernel
theorem pcN_full : ∀ n, n < 9 → pcn (nI (2 ^ n - 1)) 32 = n := by decide +kernel
theorem full_eq : ∀ n, n < 9 → ((1 : Int32) <<< (nI n &&& 31)) - 1 = nI (2 ^ n - 1) := by decide +kernel
theorem pow_le8 {n : Nat} (hn : n ≤ 8) : 2 ^ n ≤ 256 := Nat.pow_le_pow_right (by decide) hn
theorem su_eq {t r : Nat} (hr : r < 8) : wi (nI t) r true = nI (t ||| 2 ^ r) := by
  apply b_ext
  intro i hi
  rw [bt_wi _ (by omega) _ hi, bt_nat _ _ hi, bt_nat _ _ hi, Nat.testBit_or, Nat.testBit_two_pow]
  by_cases e : i = r
  · rw [if_pos e, decide_eq_true e.symm, Bool.or_true]
  · rw [if_neg e, decide_eq_false (fun z => e z.symm), Bool.or_false]
theorem su_lt {n t r : Nat} (ht : t < 2 ^ n) (hr : r < n) : t ||| 2 ^ r < 2 ^ n := Nat.or_lt_two_pow ht (Nat.pow_lt_pow_right (by decide) hr)
theorem su_gt {t r : Nat} (h : t.testBit r = false) : t < t ||| 2 ^ r := by
  have : t ≤ t ||| 2 ^ r := Nat.left_le_or
  rcases Nat.lt_or_eq_of_le this with z | z
  · exact z
  · exfalso
    have q : (t ||| 2 ^ r).testBit r = true := by rw [Nat.testBit_or, Nat.testBit_two_pow_self, Bool.or_true]
    rw [← z, h] at q
    cases q
theorem su_pc {t r : Nat} (hr : r < 8) (h : t.testBit r = false) : pcN (t ||| 2 ^ r) = pcN t + 1 := by
  unfold pcN
  rw [← su_eq hr, pcn_wi_t (by omega) (by rw [bt_nat _ _ (by omega)]; exact h)]
def sumN (f : Nat → Nat) : Nat → Nat
  | 0 => 0
  | k + 1 => sumN f k + f k
theorem sumN_le {f : Nat → Nat} {B : Nat} : ∀ {n : Nat}, (∀ r, r < n → f r ≤ B) → sumN f n ≤ n * B
  | 0, _ => by simp [sumN]
  | n + 1, h => by
    have a := sumN_le (f := f) (n := n) (fun r hr => h r (by omega))
    have b := h n (by omega)
    rw [sumN, Nat.add_mul]
    omega
theorem sumN_pos {f : Nat → Nat} : ∀ {n : Nat}, 0 < sumN f n → ∃ r, r < n ∧ 0 < f r
  | 0, h => by simp [sumN] at h
  | n + 1, h => by
    rw [sumN] at h
    by_cases q : 0 < f n
    · exact ⟨n, by omega, q⟩
    · obtain ⟨r, a, b⟩ := sumN_pos (f := f) (n := n) (by omega)
      exact ⟨r, by omega, b⟩
def WY (F : Nat → Nat → Bool) (n : Nat) : Nat → Nat → Nat
  | 0, _ => 1
  | d + 1, t => sumN (fun r => if (!t.testBit r && F (n - (d + 1)) r) = true then WY F n d (t ||| 2 ^ r) else 0) n
theorem WY_le {F : Nat → Nat → Bool} {n : Nat} (hn : n ≤ 8) : ∀ (d t : Nat), WY F n d t ≤ 8 ^ d
  | 0, _ => Nat.le_refl 1
  | d + 1, t => by
    rw [WY]
    refine Nat.le_trans (sumN_le (B := 8 ^ d) (fun r _ => ?_)) ?_
    · split
      · exact WY_le hn d _
      · exact Nat.zero_le _
    · rw [Nat.pow_succ, Nat.mul_comm]
      exact Nat.mul_le_mul_left _ hn
theorem WY_lt {F : Nat → Nat → Bool} {n d t : Nat} (hn : n ≤ 8) (hd : d ≤ 8) : WY F n d t < 2 ^ 31 := Nat.lt_of_le_of_lt (WY_le hn d t) (Nat.lt_of_le_of_lt (Nat.pow_le_pow_right (by decide) hd) (by decide))
/-- the sum behind a set that isn't full -/
def wyF (F : Nat → Nat → Bool) (n t : Nat) (r : Nat) : Nat := if (!t.testBit r && F (pcN t) r) = true then WY F n (n - pcN t - 1) (t ||| 2 ^ r) else 0
theorem WY_step {F : Nat → Nat → Bool} {n t : Nat} (h : pcN t < n) : WY F n (n - pcN t) t = sumN (wyF F n t) n := by
  obtain ⟨d, e⟩ : ∃ d, n - pcN t = d + 1 := ⟨n - pcN t - 1, by omega⟩
  unfold wyF
  rw [e, WY, show n - (d + 1) = pcN t by omega, show d + 1 - 1 = d by omega]
theorem wyF_v {F : Nat → Nat → Bool} {n t r : Nat} (h : t.testBit r = false) (hr : r < 8) (f : F (pcN t) r = true) : wyF F n t r = WY F n (n - pcN (t ||| 2 ^ r)) (t ||| 2 ^ r) := by
  unfold wyF
  rw [h, f, if_pos (by decide), su_pc hr h, Nat.sub_sub]
theorem wyF_0 {F : Nat → Nat → Bool} {n t r : Nat} (h : (!t.testBit r && F (pcN t) r) = false) : wyF F n t r = 0 := by
  unfold wyF
  rw [h, if_neg (by decide)]
abbrev PG : Nat → Nat → Bool := pX [] [3, 4, 58, 59]
def sgN (h : am_H) (k : Nat) : Nat := (m_gi h 54 0 k).toNatClampNeg
def stP (h : am_H) (Tn a b : Nat) : Bool := !bt (m_gi h 57 0 a) (sgN h b) && !bt (m_gi h 57 0 b) (sgN h a) && !decide (mns h (m_gi h 55 0 b) Tn &&& blg h (m_gi h 56 0 a) Tn = 0)
def fitP (h : am_H) (Tn a b : Nat) : Bool := !decide (a = b) && stP h Tn a b
theorem mns_eq {g h : am_H} (e1 : m_gi g 11 = m_gi h 11) (s : Int32) : ∀ n, mns g s n = mns h s n
  | 0 => rfl
  | n + 1 => by rw [mns, mns, mns_eq e1 s n, e1]
theorem fitP_G {h g : am_H} (F : Frm PG h g) (Tn : Nat) : fitP g Tn = fitP h Tn := by
  funext a b
  unfold fitP stP sgN
  rw [F.1 57 0 a rfl, F.1 57 0 b rfl, F.1 54 0 a rfl, F.1 54 0 b rfl, F.1 55 0 b rfl, F.1 56 0 a rfl, mns_eq (g := g) (h := h) F.e11, blg_eq (g := g) (h := h) F.e11 F.e13]
section Gifts
variable {Sn Tn : Nat} {g : am_H} {a b : Nat}
theorem sg_of (s : RSg Sn Tn g) (ha : a < Sn) : sgN g a < 12 ∧ m_gi g 54 0 a = nI (sgN g a) := by
  obtain ⟨_, _, ⟨p, p1, p2⟩, _⟩ := s.2.2.2.2 a ha
  unfold sgN
  rw [p2, nI_clamp (by omega)]
  exact ⟨p1, rfl⟩
theorem c_suits (H : ShC g) (s : RSg Sn Tn g) (T : RTg Tn g) (ha : a < Sn) (hb : b < Sn) : f_X6_suits (29, a) (some (29, b)) (some (21, 0)) g = m_ri g (bI (stP g Tn a b)) := by
  obtain ⟨_, a0, _, a1, a2, a3, _⟩ := s.2.2.2.2 a ha
  obtain ⟨_, b0, _, b1, b2, b3, _⟩ := s.2.2.2.2 b hb
  obtain ⟨pa, ea⟩ := sg_of s ha
  obtain ⟨pb, eb⟩ := sg_of s hb
  unfold stP
  rw [f_X6_suits, gI_29, a3, gI_29, b0, eb, c_has (show sgN g b < 32 by omega), bJ_ri]
  cases h1 : bt (m_gi g 57 0 a) (sgN g b)
  · rw [bI_f, if_pos rfl, gI_29, b3, gI_29, a0, ea, c_has (show sgN g a < 32 by omega), bJ_ri]
    cases h2 : bt (m_gi g 57 0 b) (sgN g a)
    · rw [bI_f, if_pos rfl, gI_29, b1, ao_21, c_meaningsOf H T, bI_ri, gI_29, a2, ao_21, c_belongUnder H T, bI_ri]
      by_cases h3 : mns g (m_gi g 55 0 b) Tn &&& blg g (m_gi g 56 0 a) Tn = 0
      · rw [if_pos h3, decide_eq_true h3, f_X6_suits_55, rz_0]; rfl
      · rw [if_neg h3, decide_eq_false h3, f_X6_suits_55, rz_1]; rfl
    · rw [bI_t, if_neg (by decide), f_X6_suits_28, rz_0]; rfl
  · rw [bI_t, if_neg (by decide), f_X6_suits_28, rz_0]; rfl
theorem r_su51 (G : ShM g) (T : RTg Tn g) (A : RPa Tn g) (ha : a < 8) (hb : b < 8) : ∀ (n k : Nat), k ≤ Tn → Tn < k + n →
    f_X11_suits_51 n (70, 0) (nI a) (nI b) (mns g (m_gi g 55 0 b) k) (blg g (m_gi g 56 0 a) k) (nI k) g = m_ri g (bI (!decide (mns g (m_gi g 55 0 b) Tn &&& blg g (m_gi g 56 0 a) Tn = 0)))
  | 0, k, h1, h2 => by omega
  | n + 1, k, h1, h2 => by
    have hT := T.1
    have ik : (nI Tn ≤ nI k) = (Tn ≤ k) := i_le (by omega) (by omega)
    rw [f_X11_suits_51, gI_70, T.2.2.1]
    by_cases hk : Tn ≤ k
    · rw [if_pos (show nI Tn ≤ nI k by rw [ik]; exact hk), show k = Tn by omega]
      by_cases h3 : mns g (m_gi g 55 0 b) Tn &&& blg g (m_gi g 56 0 a) Tn = 0
      · rw [if_pos h3, decide_eq_true h3, f_X11_suits_157, rz_0]; rfl
      · rw [if_neg h3, decide_eq_false h3, f_X11_suits_157, rz_1]; rfl
    · have hkT : k < Tn := by omega
      rw [if_neg (show ¬ nI Tn ≤ nI k by rw [ik]; exact hk), ao_70, r_meaning G T hkT, bI_ri, gR_70, pm_32 G, aI_55 hb, r_has (show k < 32 by omega), bI_ri]
      have ih := r_su51 G T A ha hb n (k + 1) (by omega) (by omega)
      rw [blg] at ih
      have z97 : ∀ (s0 s1 x4 : Int32), f_X11_suits_97 (f_X11_suits_51 n) (70, 0) (nI a) (nI b) x4 (nI k) (m_gi g 11 0 k) s0 s1 g = f_X11_suits_51 n (70, 0) (nI a) (nI b) (s1 ||| s0) (x4 ||| (if bt (m_gi g 56 0 a) k && !decide (m_gi g 11 0 k = -1) then one (m_gi g 11 0 k).toNatClampNeg ||| m_gi g 13 0 (m_gi g 11 0 k).toNatClampNeg else 0)) (nI (k + 1)) g := fun s0 s1 x4 => by
        rw [f_X11_suits_97, gR_70, pm_33 G, aI_56 ha, r_has (show k < 32 by omega), bI_ri]
        cases hb2 : bt (m_gi g 56 0 a) k
        · rw [bI_f, if_pos rfl, f_X11_suits_135, f_X11_suits_136, nI_1, Bool.false_and, if_neg (by decide)]
        · rw [bI_t, if_neg (by decide), Bool.true_and]
          rcases t_mean T hkT with e | ⟨m, hm, e⟩
          · rw [if_pos e, decide_eq_true e, f_X11_suits_135, f_X11_suits_136, nI_1, Bool.not_true, if_neg (by decide)]
          · have ne : ¬ m_gi g 11 0 k = -1 := by rw [e]; exact nI_m1 (by omega)
            rw [if_neg ne, decide_eq_false ne, e, nI_clamp (by omega), ao_70, r_aboveOf G T A (show m < 30 by omega), bI_ri, f_X11_suits_136, nI_1, one_eq, Bool.not_false, if_pos rfl]
      cases hw : bt (m_gi g 55 0 b) k
      · have em : mns g (m_gi g 55 0 b) (k + 1) = mns g (m_gi g 55 0 b) k ||| 0 := by rw [mns, hw, Bool.false_and, if_neg (by decide)]
        rw [em] at ih
        rw [bI_f, if_pos rfl, f_X11_suits_96, z97]
        exact ih
      · rw [bI_t, if_neg (by decide)]
        rcases t_mean T hkT with e | ⟨m, hm, e⟩
        · have em : mns g (m_gi g 55 0 b) (k + 1) = mns g (m_gi g 55 0 b) k ||| 0 := by rw [mns, hw, decide_eq_true e, Bool.true_and, Bool.not_true, if_neg (by decide)]
          rw [em] at ih
          rw [if_pos e, f_X11_suits_96, z97]
          exact ih
        · have ne : ¬ m_gi g 11 0 k = -1 := by rw [e]; exact nI_m1 (by omega)
          have em : mns g (m_gi g 55 0 b) (k + 1) = mns g (m_gi g 55 0 b) k ||| one (m_gi g 11 0 k).toNatClampNeg := by rw [mns, hw, decide_eq_false ne, Bool.true_and, Bool.not_false, if_pos rfl]
          rw [em] at ih
          rw [if_neg ne, z97]
          have e2 : (1 : Int32) <<< (m_gi g 11 0 k &&& 31) = one (m_gi g 11 0 k).toNatClampNeg := by rw [e, nI_clamp (by omega)]; rfl
          rw [e2]
          exact ih
theorem r_su5 (G : ShM g) (T : RTg Tn g) (A : RPa Tn g) (ha : a < 8) (hb : b < 8) : f_X11_suits_51 5000 (70, 0) (nI a) (nI b) 0 0 0 g = m_ri g (bI (!decide (mns g (m_gi g 55 0 b) Tn &&& blg g (m_gi g 56 0 a) Tn = 0))) := by
  have := r_su51 G T A ha hb 5000 0 (by omega) (by have := T.1; omega)
  rw [mns, blg, nI_0] at this
  exact this
theorem r_suits (G : ShM g) (s : RSg Sn Tn g) (T : RTg Tn g) (A : RPa Tn g) (ha : a < Sn) (hb : b < Sn) : f_X11_suits (70, 0) (nI a) (nI b) g = m_ri g (bI (fitP g Tn a b)) := by
  have hS := s.1
  obtain ⟨pa, ea⟩ := sg_of s ha
  obtain ⟨pb, eb⟩ := sg_of s hb
  have iab : (nI a = nI b) = (a = b) := i_eq (by omega) (by omega)
  unfold fitP stP
  rw [f_X11_suits]
  by_cases e : a = b
  · rw [if_pos (show nI a = nI b by rw [iab]; exact e), decide_eq_true e, f_X11_suits_41, rz_0]; rfl
  · rw [if_neg (show ¬ nI a = nI b by rw [iab]; exact e), decide_eq_false e, gR_70, pm_34 G, aI_57 (show a < 8 by omega), gR_70, pm_31 G, aI_54 (show b < 8 by omega), eb, r_has (show sgN g b < 32 by omega), bI_ri, Bool.not_false, Bool.true_and]
    cases h1 : bt (m_gi g 57 0 a) (sgN g b)
    · rw [bI_f, if_pos rfl, gR_70, pm_34 G, aI_57 (show b < 8 by omega), gR_70, pm_31 G, aI_54 (show a < 8 by omega), ea, r_has (show sgN g a < 32 by omega), bI_ri]
      cases h2 : bt (m_gi g 57 0 b) (sgN g a)
      · rw [bI_f, if_pos rfl, r_su5 G T A (by omega) (by omega)]; rfl
      · rw [bI_t, if_neg (by decide), f_X11_suits_41, rz_0]; rfl
    · rw [bI_t, if_neg (by decide), f_X11_suits_41, rz_0]; rfl
end Gifts
/-! ## the table of ways, in both -/
def GBd (Sn Tn : Nat) (h : am_H) : Prop := ShC h ∧ ShM h ∧ RSg Sn Tn h ∧ RTg Tn h ∧ RPa Tn h
theorem GBd.frm {Sn Tn : Nat} {h g : am_H} (F : Frm PG h g) (B : GBd Sn Tn h) : GBd Sn Tn g := ⟨B.1.frm F, B.2.1.frm F, B.2.2.1.frm F, B.2.2.2.1.frm F, B.2.2.2.2.frm F⟩
theorem m1_0 : nI 0 + (-1 : Int32) < 0 := by decide +kernel
theorem m1_s (t : Nat) : nI (t + 1) + (-1 : Int32) = nI t := by
  have := nI_pred t
  rw [← this, Int32.sub_eq_add_neg]
section Ways
variable {Sn Tn : Nat} {h : am_H}
theorem c_fr15 {g : am_H} (B : GBd Sn Tn g) {a : Nat} (ha : a < Sn) (rc : Nat × Nat → Option (Nat × Nat) → Int32 → am_H → am_R) : ∀ (n k : Nat), k ≤ Sn → Sn < k + n →
    f_X2_findReceivers_15 rc n (24, 0) (some (21, 0)) (nI a) (setOf (fitP g Tn a) k) (nI k) g = rc (24, 0) (some (21, 0)) (nI (a + 1)) (m_si g 3 0 a (setOf (fitP g Tn a) Sn))
  | 0, k, h1, h2 => by omega
  | n + 1, k, h1, h2 => by
    obtain ⟨H, G, s, T, A⟩ := id B
    have hS := s.1
    have ik : (nI Sn ≤ nI k) = (Sn ≤ k) := i_le (by omega) (by omega)
    have iak : (nI a = nI k) = (a = k) := i_eq (by omega) (by omega)
    have w0 : ∀ {x : Int32} {i : Nat} {g2 : am_H}, f_X10_with x (nI i) 0 g2 = m_ri g2 (wi x i false) := c_with (b := false)
    have w1 : ∀ {x : Int32} {i : Nat} {g2 : am_H}, f_X10_with x (nI i) 1 g2 = m_ri g2 (wi x i true) := c_with (b := true)
    rw [f_X2_findReceivers_15, gI_24, s.2.1]
    by_cases hk : Sn ≤ k
    · rw [if_pos (show nI Sn ≤ nI k by rw [ik]; exact hk), gR_24, pc_recv H, sI_3 (show a < 8 by omega), nI_1, show k = Sn by omega]
    · have hkS : k < Sn := by omega
      rw [if_neg (show ¬ nI Sn ≤ nI k by rw [ik]; exact hk)]
      have ih := c_fr15 B ha rc n (k + 1) (by omega) (by omega)
      rw [setOf] at ih
      by_cases e : a = k
      · have f0 : fitP g Tn a k = false := by unfold fitP; rw [decide_eq_true e]; rfl
        rw [f0] at ih
        rw [if_pos (show nI a = nI k by rw [iak]; exact e), f_X2_findReceivers_54, f_X2_findReceivers_55, w0, bJ_ri, nI_1]
        exact ih
      · have f0 : fitP g Tn a k = stP g Tn a k := by unfold fitP; rw [decide_eq_false e]; rfl
        rw [f0] at ih
        rw [if_neg (show ¬ nI a = nI k by rw [iak]; exact e), gR_24, pc_signs H, aR_2 (show a < 8 by omega), (s.2.2.2.2 a ha).1, gR_24, pc_signs H, aR_2 (show k < 8 by omega), (s.2.2.2.2 k hkS).1, ao_29, c_suits H s T ha hkS, bI_ri]
        cases hs : stP g Tn a k
        · rw [hs] at ih
          rw [bI_f, if_pos rfl, f_X2_findReceivers_54, f_X2_findReceivers_55, w0, bJ_ri, nI_1]
          exact ih
        · rw [hs] at ih
          rw [bI_t, if_neg (by decide), f_X2_findReceivers_55, w1, bJ_ri, nI_1]
          exact ih
theorem c_fr2 (B0 : GBd Sn Tn h) (fu : Nat) (hfu : 100 ≤ fu) : ∀ (n k : Nat) (g : am_H), k ≤ Sn → Sn < k + n →
    (∀ m, f_X2_findReceivers_15 (f_X2_findReceivers_2 m) 5000 = f_X2_findReceivers_15 (f_X2_findReceivers_2 m) fu) → Lp PG h g → (∀ j, j < k → m_gi g 3 0 j = setOf (fitP h Tn j) Sn) →
    ∃ g', f_X2_findReceivers_2 n (24, 0) (some (21, 0)) (nI k) g = m_rt g' none ∧ Lp PG h g' ∧ ∀ j, j < Sn → m_gi g' 3 0 j = setOf (fitP h Tn j) Sn
  | 0, k, g, h1, h2, _, _, _ => by omega
  | n + 1, k, g, h1, h2, hf, L, V => by
    have B := B0.frm L.1
    have hS := B.2.2.1.1
    have ik : (nI Sn ≤ nI k) = (Sn ≤ k) := i_le (by omega) (by omega)
    rw [f_X2_findReceivers_2, hf, gI_24, B.2.2.1.2.1]
    by_cases hk : Sn ≤ k
    · rw [if_pos (show nI Sn ≤ nI k by rw [ik]; exact hk)]
      exact ⟨g, rfl, L, fun j hj => V j (by omega)⟩
    · have hkS : k < Sn := by omega
      rw [if_neg (show ¬ nI Sn ≤ nI k by rw [ik]; exact hk)]
      have e := c_fr15 B hkS (f_X2_findReceivers_2 n) fu 0 (by omega) (by omega)
      rw [setOf, nI_0, fitP_G L.1] at e
      rw [e]
      refine c_fr2 B0 fu hfu n (k + 1) _ (by omega) (by omega) hf (L.si rfl) (fun j hj => ?_)
      rw [gi_upJ]
      by_cases ej : j = k
      · rw [if_pos ej, ej]
      · rw [if_neg ej]; exact V j (by omega)
theorem c_findReceivers (B0 : GBd Sn Tn h) : ∃ g', f_X2_findReceivers (24, 0) (some (21, 0)) h = m_rt g' none ∧ Lp PG h g' ∧ ∀ j, j < Sn → m_gi g' 3 0 j = setOf (fitP h Tn j) Sn := by
  have := c_fr2 B0 5000 (by omega) 5000 0 h (by omega) (by have := B0.2.2.1.1; omega) (fun _ => rfl) (Lp.refl _ h) (fun j hj => by omega)
  rw [nI_0] at this
  rw [f_X2_findReceivers]
  exact this
theorem c_fw50 {g : am_H} (B : GBd Sn Tn g) (F : Nat → Nat → Bool) {t : Nat} (ht : t + 1 < 2 ^ Sn) (hR : ∀ r, r < Sn → bt (m_gi g 3 0 (pcN t)) r = F (pcN t) r) (hW : ∀ u, t < u → u < 2 ^ Sn → m_gi g 4 0 u = nI (WY F Sn (Sn - pcN u) u)) (rc : Nat × Nat → Int32 → am_H → am_R) : ∀ (n k : Nat), k ≤ Sn → Sn < k + n →
    f_X2_findWays_50 rc n (24, 0) (nI t) (m_gi g 3 0 (pcN t) &&& (nI t ^^^ (-1))) (nI (sumN (wyF F Sn t) k)) (nI k) g = rc (24, 0) (nI t + (-1)) (m_si g 4 0 t (nI (sumN (wyF F Sn t) Sn)))
  | 0, k, h1, h2 => by omega
  | n + 1, k, h1, h2 => by
    obtain ⟨H, G, s, T, A⟩ := id B
    have hS := s.1
    have p8 := pow_le8 hS
    have ik : (nI Sn ≤ nI k) = (Sn ≤ k) := i_le (by omega) (by omega)
    have w1 : ∀ {x : Int32} {i : Nat} {g2 : am_H}, f_X10_with x (nI i) 1 g2 = m_ri g2 (wi x i true) := c_with (b := true)
    rw [f_X2_findWays_50, gI_24, s.2.1]
    by_cases hk : Sn ≤ k
    · rw [if_pos (show nI Sn ≤ nI k by rw [ik]; exact hk), gR_24, pc_ways H, sI_4 (show t < 256 by omega), show k = Sn by omega]
    · have hkS : k < Sn := by omega
      rw [if_neg (show ¬ nI Sn ≤ nI k by rw [ik]; exact hk), c_has (show k < 32 by omega), bJ_ri, b_and, bt_not _ (show k < 32 by omega), hR k hkS, bt_nat _ _ (show k < 32 by omega)]
      have ih := c_fw50 B F ht hR hW rc n (k + 1) (by omega) (by omega)
      rw [sumN] at ih
      cases hb : F (pcN t) k && !t.testBit k
      · rw [wyF_0 (by rw [Bool.and_comm]; exact hb), Nat.add_zero] at ih
        rw [bI_f, if_pos rfl, f_X2_findWays_87, nI_1, show nI (sumN (wyF F Sn t) k) + (0 : Int32) = nI (sumN (wyF F Sn t) k) from nI_add _ 0]
        exact ih
      · rw [Bool.and_eq_true, Bool.not_eq_true'] at hb
        have l2 := su_lt (n := Sn) (t := t) (r := k) (by omega) hkS
        rw [wyF_v hb.2 (by omega) hb.1] at ih
        rw [bI_t, if_neg (by decide), gR_24, pc_ways H, w1, bJ_ri, su_eq (show k < 8 by omega), aI_4 (show t ||| 2 ^ k < 256 by omega), hW _ (su_gt hb.2) l2, f_X2_findWays_87, nI_add, nI_1]
        exact ih
theorem bits8 {t : Nat} (ht : t < 256) : ∀ i, 12 ≤ i → bt (nI t) i = false := fun i hi => by
  by_cases h32 : i < 32
  · rw [bt_nat _ _ h32]
    exact Nat.testBit_lt_two_pow (Nat.lt_of_lt_of_le ht (Nat.pow_le_pow_right (n := 2) (i := 8) (by decide) (by omega)))
  · exact b_big (by omega)
theorem c_fw25 (B0 : GBd Sn Tn h) (F : Nat → Nat → Bool) (fu : Nat) (hfu : 100 ≤ fu) : ∀ (m t : Nat) (g : am_H), t < 2 ^ Sn → t < m →
    (∀ m, f_X2_findWays_50 (f_X2_findWays_25 m) 5000 = f_X2_findWays_50 (f_X2_findWays_25 m) fu) → Lp PG h g → (∀ j, j < Sn → m_gi g 3 0 j = setOf (F j) Sn) → (∀ u, t ≤ u → u < 2 ^ Sn → m_gi g 4 0 u = nI (WY F Sn (Sn - pcN u) u)) →
    ∃ g', f_X2_findWays_25 m (24, 0) (nI t + (-1)) g = m_rt g' none ∧ Lp PG h g' ∧ (∀ j, j < Sn → m_gi g' 3 0 j = setOf (F j) Sn) ∧ ∀ u, u < 2 ^ Sn → m_gi g' 4 0 u = nI (WY F Sn (Sn - pcN u) u)
  | 0, t, g, h1, h2, _, _, _, _ => by omega
  | m + 1, t, g, h1, h2, hf, L, V3, V4 => by
    have B := B0.frm L.1
    obtain ⟨H, G, s, T, A⟩ := id B
    have hS := s.1
    have p8 := pow_le8 hS
    rw [f_X2_findWays_25, hf]
    cases t with
    | zero =>
      rw [if_pos m1_0]
      exact ⟨g, rfl, L, V3, fun u hu => V4 u (Nat.zero_le u) hu⟩
    | succ t =>
      have hp : pcN t < Sn := pcN_lt Sn (by omega) t (by omega) h1
      rw [m1_s, if_neg (nI_pos (by omega)), gR_24, pc_recv H, c_bits12 (bits8 (show t < 256 by omega)), bI_ri, show nI (pcn (nI t) 32) = nI (pcN t) from rfl, aI_3 (show pcN t < 8 by omega)]
      have e := c_fw50 B F h1 (fun r hr => by rw [V3 _ hp, bt_setOf _ (by omega) (by omega), decide_eq_true hr, Bool.true_and]) (fun u hu1 hu2 => V4 u (by omega) hu2) (f_X2_findWays_25 m) fu 0 (by omega) (by omega)
      rw [sumN, nI_0] at e
      rw [e, ← WY_step hp]
      refine c_fw25 B0 F fu hfu m t _ (by omega) (by omega) hf (L.si rfl) (fun j hj => ?_) (fun u hu1 hu2 => ?_)
      · rw [gi_ne (by decide)]; exact V3 j hj
      · rw [gi_upJ]
        by_cases eu : u = t
        · rw [if_pos eu, eu]
        · rw [if_neg eu]; exact V4 u (by omega) hu2
theorem c_fw25' (B0 : GBd Sn Tn h) (F : Nat → Nat → Bool) {t : Nat} (g : am_H) (h1 : t < 2 ^ Sn) (L : Lp PG h g) (V3 : ∀ j, j < Sn → m_gi g 3 0 j = setOf (F j) Sn) (V4 : ∀ u, t ≤ u → u < 2 ^ Sn → m_gi g 4 0 u = nI (WY F Sn (Sn - pcN u) u)) :
    ∃ g', f_X2_findWays_25 5000 (24, 0) (nI t + (-1)) g = m_rt g' none ∧ Lp PG h g' ∧ (∀ j, j < Sn → m_gi g' 3 0 j = setOf (F j) Sn) ∧ ∀ u, u < 2 ^ Sn → m_gi g' 4 0 u = nI (WY F Sn (Sn - pcN u) u) :=
  c_fw25 B0 F 5000 (by omega) 5000 t g h1 (by have := pow_le8 B0.2.2.1.1; omega) (fun _ => rfl) L V3 V4
theorem c_findWays (B0 : GBd Sn Tn h) : ∃ g', f_X2_findWays (24, 0) (some (21, 0)) h = m_rt g' none ∧ Lp PG h g' ∧ (∀ j, j < Sn → m_gi g' 3 0 j = setOf (fitP h Tn j) Sn) ∧ ∀ u, u < 2 ^ Sn → m_gi g' 4 0 u = nI (WY (fitP h Tn) Sn (Sn - pcN u) u) := by
  obtain ⟨g1, a1, a2, a3⟩ := c_findReceivers B0
  have B1 := B0.frm a2.1
  obtain ⟨H, G, s, T, A⟩ := id B1
  have hS := s.1
  have p8 := pow_le8 hS
  have p0 : 0 < 2 ^ Sn := Nat.two_pow_pos Sn
  obtain ⟨g2, b1, b2, b3, b4⟩ := c_fw25' B0 (fitP h Tn) (t := 2 ^ Sn - 1) (m_si g1 4 0 (2 ^ Sn - 1) 1) (by omega) (a2.si rfl) (fun j hj => by rw [gi_ne (by decide)]; exact a3 j hj) (fun u hu1 hu2 => by
    have eu : u = 2 ^ Sn - 1 := by omega
    rw [eu, gi_eq, show pcN (2 ^ Sn - 1) = Sn from pcN_full Sn (by omega), Nat.sub_self]; rfl)
  refine ⟨g2, ?_, b2, b3, b4⟩
  rw [f_X2_findWays, ao_24, a1, bV_rt, gI_24, s.2.1, gR_24, pc_ways H, full_eq Sn (by omega), sI_4 (show 2 ^ Sn - 1 < 256 by omega), Int32.sub_eq_add_neg]
  exact b1
/-! the reference's -/
def fmP (h : am_H) (Sn Tn i : Nat) : Bool := decide (i / 8 < Sn) && decide (i % 8 < Sn) && fitP h Tn (i / 8) (i % 8)
theorem dv8 {r : am_R} : m_dv 8 r = r := by
  show m_ck (!((8 : Int32) == 0)) r = r
  rw [show ((8 : Int32) == 0) = false from by decide]
  rfl
theorem q8 : ∀ k, k < 64 → nI k / 8 = nI (k / 8) ∧ nI k - nI k / 8 * 8 = nI (k % 8) := by decide +kernel
theorem r_ct2 (B0 : GBd Sn Tn h) : ∀ (n k : Nat) (g : am_H), k ≤ 64 → 64 < k + n → Lp PG h g → (∀ i, i < k → m_gi g 58 0 i = bI (fmP h Sn Tn i)) →
    ∃ g' m, f_X11_counts_2 n (70, 0) (nI k) g = f_X11_counts_2 (m + 1) (70, 0) (nI 64) g' ∧ Lp PG h g' ∧ ∀ i, i < 64 → m_gi g' 58 0 i = bI (fmP h Sn Tn i)
  | 0, k, g, h1, h2, _, _ => by omega
  | n + 1, k, g, h1, h2, L, V => by
    by_cases hk : k = 64
    · subst hk
      exact ⟨g, n, rfl, L, V⟩
    · have hk64 : k < 64 := by omega
      have B := B0.frm L.1
      obtain ⟨H, G, s, T, A⟩ := id B
      have hS := s.1
      have i64 : ((64 : Int32) ≤ nI k) = (64 ≤ k) := i_le (a := 64) (by omega) (by omega)
      obtain ⟨q1, q2⟩ := q8 k hk64
      have i1 : (nI Sn ≤ nI (k / 8)) = (Sn ≤ k / 8) := i_le (by omega) (by omega)
      have i2 : (nI Sn ≤ nI (k % 8)) = (Sn ≤ k % 8) := i_le (by omega) (by omega)
      rw [f_X11_counts_2, if_neg (show ¬ (64 : Int32) ≤ nI k by rw [i64]; omega), gR_70, pm_35 G, dv8, gI_70, s.2.2.1, q2, q1]
      have fin : ∀ b : Bool, fmP h Sn Tn k = b → ∃ g' m, f_X11_counts_55 (f_X11_counts_2 n) (70, 0) (nI k) (bI b) (nI k) (some (58, 0)) g = f_X11_counts_2 (m + 1) (70, 0) (nI 64) g' ∧ Lp PG h g' ∧ ∀ i, i < 64 → m_gi g' 58 0 i = bI (fmP h Sn Tn i) := fun b hb => by
        rw [f_X11_counts_55, sZ_58 (nz_bI b) hk64, nI_1]
        refine r_ct2 B0 n (k + 1) _ (by omega) (by omega) (L.si rfl) (fun i hi => ?_)
        rw [gi_upJ]
        by_cases ei : i = k
        · rw [if_pos ei, ei, hb]
        · rw [if_neg ei]; exact V i (by omega)
      by_cases c1 : Sn ≤ k / 8
      · have f := fin false (by unfold fmP; rw [decide_eq_false (by omega)]; rfl)
        rw [bI_f] at f
        rw [if_pos (show nI Sn ≤ nI (k / 8) by rw [i1]; exact c1), f_X11_counts_54]
        exact f
      · rw [if_neg (show ¬ nI Sn ≤ nI (k / 8) by rw [i1]; exact c1), dv8, gI_70, s.2.2.1]
        by_cases c2 : Sn ≤ k % 8
        · have f := fin false (by unfold fmP; rw [decide_eq_false (show ¬ k % 8 < Sn by omega), Bool.and_false]; rfl)
          rw [bI_f] at f
          rw [if_pos (show nI Sn ≤ nI (k % 8) by rw [i2]; exact c2), f_X11_counts_54]
          exact f
        · rw [if_neg (show ¬ nI Sn ≤ nI (k % 8) by rw [i2]; exact c2), dv8, dv8, ao_70, r_suits G s T A (show k / 8 < Sn by omega) (show k % 8 < Sn by omega), bI_ri, fitP_G L.1]
          have fe : fmP h Sn Tn k = fitP h Tn (k / 8) (k % 8) := by unfold fmP; rw [decide_eq_true (by omega), decide_eq_true (by omega)]; rfl
          cases hb : fitP h Tn (k / 8) (k % 8)
          · have f := fin false (fe.trans hb)
            rw [bI_f] at f
            rw [bI_f, if_pos rfl, f_X11_counts_54]
            exact f
          · have f := fin true (fe.trans hb)
            rw [bI_t] at f
            rw [bI_t, if_neg (by decide)]
            exact f
theorem r_ct95 (B0 : GBd Sn Tn h) (F : Nat → Nat → Bool) {t : Nat} (ht : t + 1 < 2 ^ Sn) (rc : Nat × Nat → Int32 → am_H → am_R) : ∀ (n k : Nat) (g : am_H), k ≤ Sn → Sn < k + n → Lp PG h g →
    (∀ r, r < Sn → m_gi g 58 0 (8 * pcN t + r) = bI (F (pcN t) r)) → (∀ u, t < u → u < 2 ^ Sn → m_gi g 59 0 u = nI (WY F Sn (Sn - pcN u) u)) → m_gi g 59 0 t = nI (sumN (wyF F Sn t) k) →
    ∃ g', f_X11_counts_95 rc n (70, 0) (nI t) (nI k) g = rc (70, 0) (nI t + (-1)) g' ∧ Lp PG h g' ∧ (∀ i, m_gi g' 58 0 i = m_gi g 58 0 i) ∧ m_gi g' 59 0 t = nI (sumN (wyF F Sn t) Sn) ∧ ∀ u, u ≠ t → m_gi g' 59 0 u = m_gi g 59 0 u
  | 0, k, g, h1, h2, _, _, _, _ => by omega
  | n + 1, k, g, h1, h2, L, V1, V2, V3 => by
    have B := B0.frm L.1
    obtain ⟨H, G, s, T, A⟩ := id B
    have hS := s.1
    have p8 := pow_le8 hS
    have hp : pcN t < Sn := pcN_lt Sn (by omega) t (by omega) ht
    have ik : (nI Sn ≤ nI k) = (Sn ≤ k) := i_le (by omega) (by omega)
    rw [f_X11_counts_95, gI_70, s.2.2.1]
    by_cases hk : Sn ≤ k
    · rw [if_pos (show nI Sn ≤ nI k by rw [ik]; exact hk)]
      exact ⟨g, rfl, L, fun _ => rfl, by rw [V3, show k = Sn by omega], fun _ _ => rfl⟩
    · have hkS : k < Sn := by omega
      rw [if_neg (show ¬ nI Sn ≤ nI k by rw [ik]; exact hk), gR_70, pm_36 G, aI_59 (show t < 256 by omega), V3, r_has (show k < 32 by omega), bI_ri, bt_nat _ _ (show k < 32 by omega)]
      have stay : sumN (wyF F Sn t) (k + 1) = sumN (wyF F Sn t) k → ∃ g', f_X11_counts_148 rc (f_X11_counts_95 rc n) (70, 0) (nI t) (nI k) (nI (sumN (wyF F Sn t) k)) (nI t) (some (59, 0)) g = rc (70, 0) (nI t + (-1)) g' ∧ Lp PG h g' ∧ (∀ i, m_gi g' 58 0 i = m_gi g 58 0 i) ∧ m_gi g' 59 0 t = nI (sumN (wyF F Sn t) Sn) ∧ ∀ u, u ≠ t → m_gi g' 59 0 u = m_gi g 59 0 u := fun es => by
        rw [f_X11_counts_148, f_X11_counts_149, sI_59 (show t < 256 by omega), nI_1, show nI (sumN (wyF F Sn t) k) + (0 : Int32) = nI (sumN (wyF F Sn t) k) from nI_add _ 0]
        obtain ⟨g', c1, c2, c3, c4, c5⟩ := r_ct95 B0 F ht rc n (k + 1) (m_si g 59 0 t (nI (sumN (wyF F Sn t) k))) (by omega) (by omega) (L.si rfl) (fun r hr => by rw [gi_ne (by decide)]; exact V1 r hr) (fun u hu1 hu2 => by rw [gi_neI (by omega)]; exact V2 u hu1 hu2) (by rw [gi_eq, es])
        exact ⟨g', c1, c2, fun i => by rw [c3, gi_ne (by decide)], c4, fun u hu => by rw [c5 u hu, gi_neI hu]⟩
      cases hb : t.testBit k
      · rw [bI_f, if_pos rfl, gR_70, pm_35 G, r_bits, bI_ri, show nI (pcn (nI t) 32) = nI (pcN t) from rfl]
        have ix : (8 : Int32) * nI (pcN t) + nI k = nI (8 * pcN t + k) := by
          show nI 8 * nI (pcN t) + nI k = _
          rw [pk_mul, nI_add]
        rw [ix, aI_58 (show 8 * pcN t + k < 64 by omega), V1 k hkS]
        cases hF : F (pcN t) k
        · rw [bI_f, if_pos rfl]
          exact stay (by rw [sumN, wyF_0 (by rw [hF, Bool.and_false]), Nat.add_zero])
        · have l2 := su_lt (n := Sn) (t := t) (r := k) (by omega) hkS
          have es : sumN (wyF F Sn t) (k + 1) = sumN (wyF F Sn t) k + WY F Sn (Sn - pcN (t ||| 2 ^ k)) (t ||| 2 ^ k) := by rw [sumN, wyF_v hb (by omega) hF]
          rw [bI_t, if_neg (by decide), gR_70, pm_36 G, one_eq, wi_t, su_eq (show k < 8 by omega), aI_59 (show t ||| 2 ^ k < 256 by omega), V2 _ (su_gt hb) l2, f_X11_counts_149, sI_59 (show t < 256 by omega), nI_1, nI_add, ← es]
          obtain ⟨g', c1, c2, c3, c4, c5⟩ := r_ct95 B0 F ht rc n (k + 1) (m_si g 59 0 t (nI (sumN (wyF F Sn t) (k + 1)))) (by omega) (by omega) (L.si rfl) (fun r hr => by rw [gi_ne (by decide)]; exact V1 r hr) (fun u hu1 hu2 => by rw [gi_neI (by omega)]; exact V2 u hu1 hu2) (by rw [gi_eq])
          exact ⟨g', c1, c2, fun i => by rw [c3, gi_ne (by decide)], c4, fun u hu => by rw [c5 u hu, gi_neI hu]⟩
      · rw [bI_t, if_neg (by decide)]
        exact stay (by rw [sumN, wyF_0 (by rw [hb]; rfl), Nat.add_zero])
theorem r_ct82 (B0 : GBd Sn Tn h) (F : Nat → Nat → Bool) (fu : Nat) (hfu : 100 ≤ fu) : ∀ (m t : Nat) (g : am_H), t < 2 ^ Sn → t < m →
    (∀ m, f_X11_counts_95 (f_X11_counts_82 m) 5000 = f_X11_counts_95 (f_X11_counts_82 m) fu) → Lp PG h g → (∀ a r, a < Sn → r < Sn → m_gi g 58 0 (8 * a + r) = bI (F a r)) → (∀ u, t ≤ u → u < 2 ^ Sn → m_gi g 59 0 u = nI (WY F Sn (Sn - pcN u) u)) →
    ∃ g', f_X11_counts_82 m (70, 0) (nI t + (-1)) g = m_rt g' none ∧ Lp PG h g' ∧ (∀ a r, a < Sn → r < Sn → m_gi g' 58 0 (8 * a + r) = bI (F a r)) ∧ ∀ u, u < 2 ^ Sn → m_gi g' 59 0 u = nI (WY F Sn (Sn - pcN u) u)
  | 0, t, g, h1, h2, _, _, _, _ => by omega
  | m + 1, t, g, h1, h2, hf, L, V1, V2 => by
    have B := B0.frm L.1
    obtain ⟨H, G, s, T, A⟩ := id B
    have hS := s.1
    have p8 := pow_le8 hS
    rw [f_X11_counts_82, hf]
    cases t with
    | zero =>
      rw [if_pos m1_0]
      exact ⟨g, rfl, L, V1, fun u hu => V2 u (Nat.zero_le u) hu⟩
    | succ t =>
      have hp : pcN t < Sn := pcN_lt Sn (by omega) t (by omega) h1
      rw [m1_s, if_neg (nI_pos (by omega)), gR_70, pm_36 G, sI_59 (show t < 256 by omega)]
      obtain ⟨g1, c1, c2, c3, c4, c5⟩ := r_ct95 B0 F h1 (f_X11_counts_82 m) fu 0 (m_si g 59 0 t 0) (by omega) (by omega) (L.si rfl) (fun r hr => by rw [gi_ne (by decide)]; exact V1 _ r hp hr) (fun u hu1 hu2 => by rw [gi_neI (by omega)]; exact V2 u (by omega) hu2) (by rw [gi_eq, sumN, nI_0])
      rw [nI_0] at c1
      rw [c1]
      refine r_ct82 B0 F fu hfu m t g1 (by omega) (by omega) hf c2 (fun a r ha hr => ?_) (fun u hu1 hu2 => ?_)
      · rw [c3, gi_ne (by decide)]; exact V1 a r ha hr
      · by_cases eu : u = t
        · rw [eu, c4, WY_step hp]
        · rw [c5 u eu, gi_neI (by omega)]; exact V2 u (by omega) hu2
theorem r_ct82' (B0 : GBd Sn Tn h) (F : Nat → Nat → Bool) {t : Nat} (g : am_H) (h1 : t < 2 ^ Sn) (L : Lp PG h g) (V1 : ∀ a r, a < Sn → r < Sn → m_gi g 58 0 (8 * a + r) = bI (F a r)) (V2 : ∀ u, t ≤ u → u < 2 ^ Sn → m_gi g 59 0 u = nI (WY F Sn (Sn - pcN u) u)) :
    ∃ g', f_X11_counts_82 5000 (70, 0) (nI t + (-1)) g = m_rt g' none ∧ Lp PG h g' ∧ (∀ a r, a < Sn → r < Sn → m_gi g' 58 0 (8 * a + r) = bI (F a r)) ∧ ∀ u, u < 2 ^ Sn → m_gi g' 59 0 u = nI (WY F Sn (Sn - pcN u) u) :=
  r_ct82 B0 F 5000 (by omega) 5000 t g h1 (by have := pow_le8 B0.2.2.1.1; omega) (fun _ => rfl) L V1 V2
theorem r_ct2' (B0 : GBd Sn Tn h) : ∃ g' m, f_X11_counts_2 5000 (70, 0) 0 h = f_X11_counts_2 (m + 1) (70, 0) (nI 64) g' ∧ Lp PG h g' ∧ ∀ i, i < 64 → m_gi g' 58 0 i = bI (fmP h Sn Tn i) := by
  have := r_ct2 B0 5000 0 h (by omega) (by omega) (Lp.refl _ h) (fun i hi => by omega)
  rw [nI_0] at this
  exact this
theorem r_counts (B0 : GBd Sn Tn h) : ∃ g', f_X11_counts (70, 0) h = m_rt g' none ∧ Lp PG h g' ∧ (∀ a r, a < Sn → r < Sn → m_gi g' 58 0 (8 * a + r) = bI (fitP h Tn a r)) ∧ ∀ u, u < 2 ^ Sn → m_gi g' 59 0 u = nI (WY (fitP h Tn) Sn (Sn - pcN u) u) := by
  obtain ⟨g1, m, a1, a2, a3⟩ := r_ct2' B0
  have B1 := B0.frm a2.1
  obtain ⟨H, G, s, T, A⟩ := id B1
  have hS := s.1
  have p8 := pow_le8 hS
  have p0 : 0 < 2 ^ Sn := Nat.two_pow_pos Sn
  obtain ⟨g2, b1, b2, b3, b4⟩ := r_ct82' B0 (fitP h Tn) (t := 2 ^ Sn - 1) (m_si g1 59 0 (2 ^ Sn - 1) 1) (by omega) (a2.si rfl) (fun a r ha hr => by
    rw [gi_ne (by decide), a3 _ (by omega)]
    unfold fmP
    rw [show (8 * a + r) / 8 = a by omega, show (8 * a + r) % 8 = r by omega, decide_eq_true ha, decide_eq_true hr]; rfl) (fun u hu1 hu2 => by
    have eu : u = 2 ^ Sn - 1 := by omega
    rw [eu, gi_eq, show pcN (2 ^ Sn - 1) = Sn from pcN_full Sn (by omega), Nat.sub_self]; rfl)
  refine ⟨g2, ?_, b2, b3, b4⟩
  have i64 : (64 : Int32) ≤ nI 64 := by decide +kernel
  rw [f_X11_counts, a1, f_X11_counts_2, if_pos i64, gI_70, s.2.2.1, gR_70, pm_36 G, full_eq Sn (by omega), sI_59 (show 2 ^ Sn - 1 < 256 by omega), Int32.sub_eq_add_neg]
  exact b1
end Ways
theorem op_matches {W Cn Tn Sn Qn : Nat} {h : am_H} (R : RR W Cn Tn Sn Qn h) : OpOKn h (f_X10_matches (69, 0) h) (f_X11_matches (70, 0)) := by
  have R0 := R
  obtain ⟨H, G, rDay, rBlk, rSam, N, rWa, rWc, rWp, rWl, rWo, rWt, rWf, rWw, rWs, rWk, rCo, rTg, rPa, rTp, rSg, rCm, rSb, rDg, rIv⟩ := R
  have B0 : GBd Sn Tn h := ⟨H, G, rSg, rTg, rPa⟩
  obtain ⟨g1, a1, a2, a3, a4⟩ := c_findWays B0
  have Fs : Frm PG h (m_si g1 70 0 0 0) := a2.1.si rfl
  obtain ⟨h2, b1, b2, b3, b4⟩ := r_counts (B0.frm Fs)
  rw [fitP_G Fs] at b4
  have F2 : Frm PG h h2 := Fs.trans b2.1
  have p0 : 0 < 2 ^ Sn := Nat.two_pow_pos Sn
  have z4 : ∀ {K : Int32 → am_R}, m_aI (some (4, 0)) 0 0 g1 K = K (m_gi g1 4 0 0) := fun {K} => aI_4 (k := 0) (by decide)
  have z59 : ∀ {K : Int32 → am_R}, m_aI (some (59, 0)) 0 0 h2 K = K (m_gi h2 59 0 0) := fun {K} => aI_59 (k := 0) (by decide)
  refine ⟨g1, h2, nI (WY (fitP h Tn) Sn (Sn - pcN 0) 0), ?_, ?_, a2.1.g1, F2.g1, ?_, ?_, W, Cn, Tn, Sn, Qn, ⟨H.frm F2, G.frm F2, rDay.frm F2, rBlk.frm F2, rSam.frm F2, N.frm F2, rWa.frm F2, rWc.frm F2, rWp.frm F2, rWl.frm F2, rWo.frm F2, rWt.frm F2, rWf.frm F2, rWw.frm F2, rWs.frm F2, rWk.frm F2, rCo.frm F2, rTg.frm F2, rPa.frm F2, rTp.frm F2, rSg.frm F2, rCm.frm F2, rSb.frm F2, rDg.frm F2, rIv.frm F2⟩⟩
  · rw [f_X10_matches, gR_69, pc_gifts H, gR_69, pc_tags H, ao_24, f_X2_countMatches, ao_24, a1, bV_rt, gR_24, pc_ways (H.frm a2.1), z4, a4 0 p0, bI_ri]
  · rw [f_X11_matches, pI_70, ao_70, b1, bV_rt, gR_70, pm_36 (G.frm F2), z59, b4 0 p0]
  · rw [b2.2.2.1]; show m_nc g1 ≤ _; rw [a2.2.2.1]; omega
  · rw [b2.2.2.2.1]; show m_ns g1 ≤ _; rw [a2.2.2.2.1]; omega
