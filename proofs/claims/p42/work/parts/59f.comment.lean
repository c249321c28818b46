/-! ## a new comment -/
def blkP (h : am_H) (b f : Nat) : Bool := decide (b < 12) && bt (m_gi h 26 b 0) f
def abkP (h : am_H) (w f : Nat) : Nat → Bool := anyP (fun p => bt (m_gi h 34 0 w) p && blkP h p f)
def frz (h : am_H) : Nat → Nat → Bool
  | 0, _ => false
  | n + 1, q => !decide (m_gi h 63 0 q = 0) || (if m_gi h 62 0 q = -1 then false else frz h n (m_gi h 62 0 q).toNatClampNeg)
def mayQ (h : am_H) (f w q : Nat) : Bool := readP h f q w && !frz h 60 q && !blkP h (m_gi h 61 0 q).toNatClampNeg f
section Comm
variable {W Cn Qn : Nat} {h : am_H} {f w q : Nat}
theorem c_isBlockedBy (H : ShC h) (hb : q < 32) (hf : f < 32) : f_X10_isBlockedBy (69, 0) (nI q) (nI f) h = m_ri h (bI (blkP h q f)) := by
  have i12 : ((12 : Int32) ≤ nI q) = (12 ≤ q) := i_le (a := 12) (by omega) (by omega)
  unfold blkP
  rw [f_X10_isBlockedBy, if_neg (nI_pos (show q < 2 ^ 31 by omega))]
  by_cases h12 : 12 ≤ q
  · rw [if_pos (show (12 : Int32) ≤ nI q by rw [i12]; exact h12), f_X10_isBlockedBy_30, f_X10_isBlockedBy_31, rz_0, decide_eq_false (by omega), Bool.false_and, bI_f]
  · rw [if_neg (show ¬ (12 : Int32) ≤ nI q by rw [i12]; exact h12), gR_69, pc_people H, aR_18 (show q < 12 by omega), pc_per H (show q < 12 by omega), gI_26, c_has hf, bI_ri, decide_eq_true (show q < 12 by omega), Bool.true_and]
    cases bt (m_gi h 26 q 0) f
    · rw [bI_f, if_pos rfl, f_X10_isBlockedBy_30, f_X10_isBlockedBy_31, rz_0]
    · rw [bI_t, if_neg (by decide), f_X10_isBlockedBy_31, rz_1]
theorem r_isBlocked (G : ShM h) (b : RBlk h) (hb : q < 32) (hf : f < 32) : f_X11_isBlocked (70, 0) (nI q) (nI f) h = m_ri h (bI (blkP h q f)) := by
  have i12 : ((12 : Int32) ≤ nI q) = (12 ≤ q) := i_le (a := 12) (by omega) (by omega)
  have i12f : ((12 : Int32) ≤ nI f) = (12 ≤ f) := i_le (a := 12) (by omega) (by omega)
  unfold blkP
  rw [f_X11_isBlocked]
  by_cases h12 : 12 ≤ q
  · rw [if_pos (show (12 : Int32) ≤ nI q by rw [i12]; exact h12), f_X11_isBlocked_30, f_X11_isBlocked_31, rz_0, decide_eq_false (by omega), Bool.false_and, bI_f]
  · rw [if_neg (show ¬ (12 : Int32) ≤ nI q by rw [i12]; exact h12), decide_eq_true (show q < 12 by omega), Bool.true_and]
    by_cases f12 : 12 ≤ f
    · rw [if_pos (show (12 : Int32) ≤ nI f by rw [i12f]; exact f12), f_X11_isBlocked_30, f_X11_isBlocked_31, rz_0, b.2 q f (by omega) f12, bI_f]
    · have ix : (12 : Int32) * nI q + nI f = nI (12 * q + f) := by
        show nI 12 * nI q + nI f = _
        rw [pk_mul, nI_add]
      rw [if_neg (show ¬ (12 : Int32) ≤ nI f by rw [i12f]; exact f12), gR_70, pm_2 G, ix, aI_31 (show 12 * q + f < 144 by omega), b.1 q f (by omega) (by omega)]
      cases bt (m_gi h 26 q 0) f
      · rw [bI_f, if_pos rfl, f_X11_isBlocked_30, f_X11_isBlocked_31, rz_0]
      · rw [bI_t, if_neg (by decide), f_X11_isBlocked_31, rz_1]
theorem c_bba2 (H : ShC h) (hf : f < 32) {s : Int32} (es : s = m_gi h 34 0 w) : ∀ (n k : Nat), k ≤ 12 → 12 < k + n → abkP h w f k = false →
    f_X10_isBlockedByAny_2 n (69, 0) s (nI f) (nI k) h = m_ri h (bI (abkP h w f 12))
  | 0, k, h1, h2, _ => by omega
  | n + 1, k, h1, h2, h3 => by
    have i12 : ((12 : Int32) ≤ nI k) = (12 ≤ k) := i_le (a := 12) (by omega) (by omega)
    rw [f_X10_isBlockedByAny_2]
    by_cases hk : 12 ≤ k
    · rw [if_pos (show (12 : Int32) ≤ nI k by rw [i12]; exact hk), rz_0, show (12 : Nat) = k by omega, h3, bI_f]
    · have hk12 : k < 12 := by omega
      have nx : (bt (m_gi h 34 0 w) k && blkP h k f) = false → abkP h w f (k + 1) = false := fun e => by
        unfold abkP at h3 ⊢
        rw [anyP, h3, e]; rfl
      rw [if_neg (show ¬ (12 : Int32) ≤ nI k by rw [i12]; exact hk), c_has (show k < 32 by omega), bI_ri, es]
      cases hb : bt (m_gi h 34 0 w) k
      · rw [bI_f, if_pos rfl, f_X10_isBlockedByAny_27, nI_1, ← es]
        exact c_bba2 H hf es n (k + 1) (by omega) (by omega) (nx (by rw [hb]; rfl))
      · rw [bI_t, if_neg (by decide), ao_69, c_isBlockedBy H (show k < 32 by omega) hf, bI_ri]
        cases hp : blkP h k f
        · rw [bI_f, if_pos rfl, f_X10_isBlockedByAny_27, nI_1, ← es]
          exact c_bba2 H hf es n (k + 1) (by omega) (by omega) (nx (by rw [hp, Bool.and_false]))
        · have : abkP h w f 12 = true := anyP_yes (P := fun p => bt (m_gi h 34 0 w) p && blkP h p f) hk12 (by show (bt (m_gi h 34 0 w) k && blkP h k f) = true; rw [hb, hp]; rfl)
          rw [bI_t, if_neg (by decide), rz_1, this, bI_t]
theorem c_bba (H : ShC h) (hf : f < 32) : f_X10_isBlockedByAny (69, 0) (m_gi h 34 0 w) (nI f) h = m_ri h (bI (abkP h w f 12)) := by
  have := c_bba2 H hf (w := w) rfl 5000 0 (by omega) (by omega) rfl
  rw [nI_0] at this
  rw [f_X10_isBlockedByAny]
  exact this
theorem c_frz2 (Q : RCm Qn W h) : ∀ (n m q : Nat), q < n → n < m → q < Qn → f_X1_isFrozenHereOrAbove_2 m (some (30, q)) h = m_ri h (bI (frz h n q))
  | 0, m, q, h1, _, _ => by omega
  | n + 1, m, q, h1, h2, h3 => by
    obtain ⟨m, rfl⟩ : ∃ m', m = m' + 1 := ⟨m - 1, by omega⟩
    obtain ⟨q1, q2, _, q5, _, q8, q9, q10, q11⟩ := Q.2.2.2.2.1 q h3
    rw [f_X1_isFrozenHereOrAbove_2, if_neg (by intro z; cases z), gI_30, q9, frz]
    by_cases e : m_gi h 63 0 q = 0
    · rw [if_pos e, decide_eq_true e, Bool.not_true, Bool.false_or, gR_30]
      rcases q8 with ⟨u1, u2⟩ | ⟨u, u0, u1, u2⟩
      · obtain ⟨m, rfl⟩ : ∃ m', m = m' + 1 := ⟨m - 1, by omega⟩
        rw [u1, if_pos u2, f_X1_isFrozenHereOrAbove_2, if_pos rfl, rz_0, bI_f]
      · rw [u1, u2, if_neg (nI_m1 (show u < 10000 by have := Q.1; omega)), nI_clamp (show u < 2 ^ 31 by have := Q.1; omega)]
        exact c_frz2 Q n m u (by omega) (by omega) (by omega)
    · rw [if_neg e, decide_eq_false e, Bool.not_false, Bool.true_or, rz_1, bI_t]
theorem c_frz (Q : RCm Qn W h) (hq : q < Qn) : f_X1_isFrozenHereOrAbove (30, q) h = m_ri h (bI (frz h 60 q)) := by
  have := c_frz2 Q 60 5000 q (by have := Q.1; omega) (by omega) hq
  rw [f_X1_isFrozenHereOrAbove]
  exact this
def CmM (Qn : Nat) (h : am_H) : Prop := ∀ p, p < Qn → (∃ f : Nat, f < 32 ∧ m_gi h 61 0 p = nI f) ∧ (m_gi h 62 0 p = -1 ∨ ∃ u : Nat, u < p ∧ m_gi h 62 0 p = nI u)
theorem cmM_of (Q : RCm Qn W h) : CmM Qn h := fun p hp => by
  obtain ⟨_, _, _, _, q7, q8, _⟩ := Q.2.2.2.2.1 p hp
  exact ⟨q7, q8.imp (fun z => z.2) (fun ⟨u, u0, _, u2⟩ => ⟨u, u0, u2⟩)⟩
theorem r_frz (G : ShM h) (hQ : Qn ≤ 60) (Q : CmM Qn h) : ∀ (n m q : Nat) (c : Bool), q < n → n < m → q < Qn → f_X11_canComment_120 m (70, 0) (bI c) (nI q) h = m_ri h (bI (c && !frz h n q))
  | 0, m, q, c, h1, _, _ => by omega
  | n + 1, m, q, c, h1, h2, h3 => by
    obtain ⟨m, rfl⟩ : ∃ m', m = m' + 1 := ⟨m - 1, by omega⟩
    obtain ⟨_, q8⟩ := Q q h3
    have h60 : q < 60 := by omega
    have nx : ∀ d : Bool, (d = (c && decide (m_gi h 63 0 q = 0))) → f_X11_canComment_146 (f_X11_canComment_120 m) (70, 0) (nI q) (bI d) h = m_ri h (bI (c && !frz h (n + 1) q)) := fun d ed => by
      rw [f_X11_canComment_146, gR_70, pm_40 G, aI_62 h60, frz]
      rcases q8 with u2 | ⟨u, u0, u2⟩
      · obtain ⟨m, rfl⟩ : ∃ m', m = m' + 1 := ⟨m - 1, by omega⟩
        rw [u2, if_pos rfl, f_X11_canComment_120, if_pos rfl, rz_bI, Bool.or_false, Bool.not_not, ed]
      · rw [u2, if_neg (nI_m1 (show u < 10000 by omega)), nI_clamp (show u < 2 ^ 31 by omega), r_frz G hQ Q n m u d (by omega) (by omega) (by omega), ed, Bool.not_or, Bool.not_not, Bool.and_assoc]
    rw [f_X11_canComment_120, if_neg (nI_m1 (show q < 10000 by omega))]
    cases c
    · have := nx false rfl
      rw [bI_f] at this
      rw [bI_f, if_pos rfl, f_X11_canComment_145]
      exact this
    · rw [bI_t, if_neg (by decide), gR_70, pm_41 G, aI_63 h60]
      by_cases e : m_gi h 63 0 q = 0
      · have := nx true (by rw [decide_eq_true e]; rfl)
        rw [bI_t] at this
        rw [if_pos e]
        exact this
      · have := nx false (by rw [decide_eq_false e]; rfl)
        rw [bI_f] at this
        rw [if_neg e, f_X11_canComment_145]
        exact this
theorem r_frzQ (G : ShM h) (hQ : Qn ≤ 60) (Q : CmM Qn h) (hq : q < Qn) (c : Bool) : f_X11_canComment_120 5000 (70, 0) (bI c) (nI q) h = m_ri h (bI (c && !frz h 60 q)) := r_frz G hQ Q 60 5000 q c (by omega) (by omega) hq
theorem r_frzN (c : Bool) : ∀ n, f_X11_canComment_120 (n + 1) (70, 0) (bI c) (-1) h = m_ri h (bI c) := fun n => by
  rw [f_X11_canComment_120, if_pos rfl, rz_bI]
theorem r_frzN' (c : Bool) : f_X11_canComment_120 5000 (70, 0) (bI c) (-1) h = m_ri h (bI c) := r_frzN c 4999
theorem r_cc28 (G : ShM h) (b : RBlk h) (hw : w < 20) (hf : f < 32) (y : Int32) (c : Bool) : ∀ (n k : Nat), k ≤ 12 → 12 < k + n →
    ∃ m, f_X11_canComment_28 n (70, 0) (nI w) (nI f) y (bI (c && !abkP h w f k)) (nI k) h = f_X11_canComment_28 (m + 1) (70, 0) (nI w) (nI f) y (bI (c && !abkP h w f 12)) (nI 12) h
  | 0, k, h1, h2 => by omega
  | n + 1, k, h1, h2 => by
    by_cases hk : k = 12
    · subst hk; exact ⟨n, rfl⟩
    · have hk12 : k < 12 := by omega
      have i12 : ((12 : Int32) ≤ nI k) = (12 ≤ k) := i_le (a := 12) (by omega) (by omega)
      obtain ⟨m, ih⟩ := r_cc28 G b hw hf y c n (k + 1) (by omega) (by omega)
      refine ⟨m, ?_⟩
      rw [← ih, f_X11_canComment_28, if_neg (show ¬ (12 : Int32) ≤ nI k by rw [i12]; omega)]
      have e1 : abkP h w f (k + 1) = (abkP h w f k || (bt (m_gi h 34 0 w) k && blkP h k f)) := rfl
      rw [e1]
      cases hc : (c && !abkP h w f k)
      · rw [bI_f, if_pos rfl, f_X11_canComment_68, f_X11_canComment_69, nI_1, Bool.not_or, ← Bool.and_assoc, hc, Bool.false_and, bI_f]
      · rw [bI_t, if_neg (by decide), gR_70, pm_6 G, aI_34 hw, r_has (show k < 32 by omega), bI_ri, Bool.not_or, ← Bool.and_assoc, hc, Bool.true_and]
        cases hb : bt (m_gi h 34 0 w) k
        · rw [bI_f, if_pos rfl, f_X11_canComment_64, f_X11_canComment_69, nI_1, Bool.false_and, Bool.not_false, bI_t]
        · rw [bI_t, if_neg (by decide), ao_70, r_isBlocked G b (show k < 32 by omega) hf, bI_ri, Bool.true_and]
          cases hp : blkP h k f
          · rw [bI_f, if_pos rfl, f_X11_canComment_64, f_X11_canComment_69, nI_1, Bool.not_false, bI_t]
          · rw [bI_t, if_neg (by decide), f_X11_canComment_68, f_X11_canComment_69, nI_1, Bool.not_true, bI_f]
theorem r_cc5 (G : ShM h) (b : RBlk h) (hw : w < 20) (hf : f < 32) (y : Int32) (c : Bool) : ∃ m, f_X11_canComment_28 5000 (70, 0) (nI w) (nI f) y (bI c) 0 h = f_X11_canComment_28 (m + 1) (70, 0) (nI w) (nI f) y (bI (c && !abkP h w f 12)) (nI 12) h := by
  have := r_cc28 G b hw hf y c 5000 0 (by omega) (by omega)
  rw [show abkP h w f 0 = false from rfl, Bool.not_false, Bool.and_true, nI_0] at this
  exact this
theorem r_cc23 (G : ShM h) (a : RWa W h) (o : RWo W Cn h) (C : RCo Cn h) (b : RBlk h) (e37 : m_gi h 70 0 37 = nI Qn) (hQ : Qn ≤ 60) (hw : w < W) (h20 : w < 20) (hf : f < 32) (y : Int32) : ∃ m, f_X11_canComment (70, 0) (nI w) (nI f) y h = f_X11_canComment_28 (m + 1) (70, 0) (nI w) (nI f) y (bI (decide (Qn < 60) && seenP h f w && !abkP h w f 12)) (nI 12) h := by
  have i60 : ((60 : Int32) ≤ nI Qn) = (60 ≤ Qn) := i_le (a := 60) (by omega) (by omega)
  rw [f_X11_canComment, gI_70, e37]
  by_cases h60 : 60 ≤ Qn
  · obtain ⟨m, e⟩ := r_cc5 G b h20 hf y false
    refine ⟨m, ?_⟩
    rw [bI_f] at e
    rw [if_pos (show (60 : Int32) ≤ nI Qn by rw [i60]; exact h60), f_X11_canComment_22, f_X11_canComment_23, e, decide_eq_false (show ¬ Qn < 60 by omega)]
    simp only [Bool.false_and]
  · rw [if_neg (show ¬ (60 : Int32) ≤ nI Qn by rw [i60]; exact h60), ao_70, r_isSeen G a o C hw h20 hf, bI_ri, decide_eq_true (show Qn < 60 by omega), Bool.true_and]
    cases hs : seenP h f w
    · obtain ⟨m, e⟩ := r_cc5 G b h20 hf y false
      refine ⟨m, ?_⟩
      rw [bI_f] at e
      rw [bI_f, if_pos rfl, f_X11_canComment_22, f_X11_canComment_23, e]
    · obtain ⟨m, e⟩ := r_cc5 G b h20 hf y true
      refine ⟨m, ?_⟩
      rw [bI_t] at e
      rw [bI_t, if_neg (by decide), f_X11_canComment_23, e]
theorem le12 : (12 : Int32) ≤ nI 12 := by decide +kernel
theorem r_canN (G : ShM h) (a : RWa W h) (o : RWo W Cn h) (C : RCo Cn h) (b : RBlk h) (e37 : m_gi h 70 0 37 = nI Qn) (hQ : Qn ≤ 60) (hw : w < W) (h20 : w < 20) (hf : f < 32) : f_X11_canComment (70, 0) (nI w) (nI f) (-1) h = m_ri h (bI (decide (Qn < 60) && (seenP h f w && !abkP h w f 12))) := by
  obtain ⟨m, e⟩ := r_cc23 G a o C b e37 hQ hw h20 hf (-1)
  have f0 := r_frzN' (h := h) false
  have f1 := r_frzN' (h := h) true
  rw [bI_f] at f0
  rw [bI_t] at f1
  rw [e, f_X11_canComment_28, if_pos le12, ← Bool.and_assoc]
  cases hc : (decide (Qn < 60) && seenP h f w && !abkP h w f 12)
  · rw [bI_f, if_pos rfl, f_X11_canComment_114, f_X11_canComment_115, f0]
  · rw [bI_t, if_neg (by decide), if_pos rfl, f_X11_canComment_110, f_X11_canComment_115, f1]
theorem r_canQ1 (G : ShM h) (a : RWa W h) (o : RWo W Cn h) (C : RCo Cn h) (b : RBlk h) (e37 : m_gi h 70 0 37 = nI Qn) (hQ : Qn ≤ 60) (hw : w < W) (h20 : w < 20) (hf : f < 32) (hq : q < Qn) (e60 : m_gi h 60 0 q = nI w) (Q : CmM Qn h) : f_X11_canComment (70, 0) (nI w) (nI f) (nI q) h = m_ri h (bI (decide (Qn < 60) && (seenP h f w && !abkP h w f 12 && mayQ h f w q))) := by
  obtain ⟨m, e⟩ := r_cc23 G a o C b e37 hQ hw h20 hf (nI q)
  have f0 := r_frzQ G hQ Q hq false
  have f1 := r_frzQ G hQ Q hq true
  rw [bI_f, Bool.false_and, bI_f] at f0
  rw [bI_t, Bool.true_and] at f1
  obtain ⟨⟨f', q6, q7⟩, _⟩ := Q q hq
  have er : (decide (Qn < 60) && (seenP h f w && !abkP h w f 12 && mayQ h f w q)) = ((decide (Qn < 60) && seenP h f w && !abkP h w f 12) && mayQ h f w q) := by simp only [Bool.and_assoc]
  rw [e, f_X11_canComment_28, if_pos le12, er]
  cases hc : (decide (Qn < 60) && seenP h f w && !abkP h w f 12)
  · rw [bI_f, if_pos rfl, f_X11_canComment_114, f_X11_canComment_115, f0, Bool.false_and, bI_f]
  · rw [bI_t, if_neg (by decide), if_neg (nI_m1 (show q < 10000 by omega)), ao_70, r_isRead G a o C (show q < 60 by omega) hw h20 hf e60, bI_ri, Bool.true_and]
    unfold mayQ
    cases hr : readP h f q w
    · rw [bI_f, if_pos rfl, f_X11_canComment_114, f_X11_canComment_115, f0, Bool.false_and, Bool.false_and, bI_f]
    · rw [bI_t, if_neg (by decide), gR_70, pm_39 G, aI_61 (show q < 60 by omega), q7, ao_70, r_isBlocked G b q6 hf, bI_ri, nI_clamp (show f' < 2 ^ 31 by omega), Bool.true_and]
      cases hb : blkP h f' f
      · rw [bI_f, if_pos rfl, f_X11_canComment_110, f_X11_canComment_115, f1, Bool.not_false, Bool.and_true]
      · rw [bI_t, if_neg (by decide), f_X11_canComment_114, f_X11_canComment_115, f0, Bool.not_true, Bool.and_false, bI_f]
theorem r_canQ (G : ShM h) (a : RWa W h) (o : RWo W Cn h) (C : RCo Cn h) (b : RBlk h) (Q : RCm Qn W h) (hw : w < W) (h20 : w < 20) (hf : f < 32) (hq : q < Qn) (e60 : m_gi h 60 0 q = nI w) : f_X11_canComment (70, 0) (nI w) (nI f) (nI q) h = m_ri h (bI (decide (Qn < 60) && (seenP h f w && !abkP h w f 12 && mayQ h f w q))) := r_canQ1 G a o C b Q.2.2.1 Q.1 hw h20 hf hq e60 (cmM_of Q)
theorem c_mayN (e69 : m_gi h 69 0 0 = m_gi h 70 0 1) (H : ShC h) (a : RWa W h) (p : RWp W h) (l : RWl W h) (o : RWo W Cn h) (C : RCo Cn h) (hw : w < W) (hf : f < 32) : f_X10_mayComment (69, 0) (some (27, w)) (nI f) none h = m_ri h (bI (seenP h f w && !abkP h w f 12)) := by
  rw [f_X10_mayComment, gI_69, e69, ao_27, c_isSeenBy a p l o C hw hf, bI_ri]
  cases hs : seenP h f w
  · rw [bI_f, if_pos rfl, f_X10_mayComment_24, rz_0, Bool.false_and, bI_f]
  · rw [bI_t, if_neg (by decide), gI_27, (a w hw).2.1, ao_69, c_bba H hf, bI_ri, Bool.true_and]
    cases hb : abkP h w f 12
    · rw [bI_f, if_pos rfl, if_pos rfl, rz_1]; rfl
    · rw [bI_t, if_neg (by decide), f_X10_mayComment_24, rz_0]; rfl
theorem c_mayQ (e69 : m_gi h 69 0 0 = m_gi h 70 0 1) (H : ShC h) (a : RWa W h) (p : RWp W h) (l : RWl W h) (o : RWo W Cn h) (C : RCo Cn h) (Q : RCm Qn W h) (hw : w < W) (hf : f < 32) (hq : q < Qn) : f_X10_mayComment (69, 0) (some (27, w)) (nI f) (some (30, q)) h = m_ri h (bI (seenP h f w && !abkP h w f 12 && mayQ h f w q)) := by
  obtain ⟨q1, q2, _, q5, ⟨f', q6, q7⟩, q8, q9, q10, q11⟩ := Q.2.2.2.2.1 q hq
  rw [f_X10_mayComment, gI_69, e69, ao_27, c_isSeenBy a p l o C hw hf, bI_ri]
  cases hs : seenP h f w
  · rw [bI_f, if_pos rfl, f_X10_mayComment_24, rz_0, Bool.false_and, Bool.false_and, bI_f]
  · rw [bI_t, if_neg (by decide), gI_27, (a w hw).2.1, ao_69, c_bba H hf, bI_ri, Bool.true_and]
    cases hb : abkP h w f 12
    · rw [bI_f, if_pos rfl, if_neg (by intro z; cases z), ao_69, c_isReadBy e69 a p l o C Q hq hw hf, bI_ri, Bool.not_false, Bool.true_and]
      unfold mayQ
      cases hr : readP h f q w
      · rw [bI_f, if_pos rfl, f_X10_mayComment_65, f_X10_mayComment_66, rz_0]; rfl
      · rw [bI_t, if_neg (by decide), ao_30, c_frz Q hq, bI_ri, Bool.true_and]
        cases hz : frz h 60 q
        · rw [bI_f, if_pos rfl, gI_30, q5, q7, ao_69, c_isBlockedBy H q6 hf, bI_ri, nI_clamp (show f' < 2 ^ 31 by omega), Bool.not_false, Bool.true_and]
          cases hk : blkP h f' f
          · rw [bI_f, if_pos rfl, f_X10_mayComment_66, rz_1]; rfl
          · rw [bI_t, if_neg (by decide), f_X10_mayComment_65, f_X10_mayComment_66, rz_0]; rfl
        · rw [bI_t, if_neg (by decide), f_X10_mayComment_65, f_X10_mayComment_66, rz_0]; rfl
    · rw [bI_t, if_neg (by decide), f_X10_mayComment_24, rz_0]; rfl
def scP (h : am_H) (f w : Nat) : Bool := !decide (m_gi h 43 0 w = 0) && !ownP h f w
theorem scP_cong {g h : am_H} {f w : Nat} (e1 : m_gi g 34 0 w = m_gi h 34 0 w) (e2 : m_gi g 43 0 w = m_gi h 43 0 w) : scP g f w = scP h f w := by
  unfold scP ownP
  rw [e1, e2]
/-- the class's state behind a new comment -/
def cmC (h : am_H) (n w f : Nat) (up : Option (Nat × Nat)) (sc : Int32) : am_H := m_si (m_sr (m_si (m_sr (m_si (m_si (m_al h 30 6) 30 n 0 (nI w)) 30 n 1 (nI f)) 30 n 2 up) 30 n 5 sc) 25 0 n (some (30, n))) 69 0 12 (nI (n + 1))
def cmM (h : am_H) (n w f : Nat) (y sc : Int32) : am_H := m_si (m_si (m_si (m_si (m_si (m_si h 70 0 0 0) 60 0 n (nI w)) 61 0 n (nI f)) 62 0 n y) 64 0 n sc) 70 0 37 (nI (n + 1))
theorem c_cm52 (H : ShC h) (a : RWa W h) (ws : RWs W h) (Q : RCm Qn W h) (hw : w < W) (hf : f < 32) {up : Option (Nat × Nat)} {c : Bool} (ec : f_X10_mayComment (69, 0) (some (27, w)) (nI f) up h = m_ri h (bI c)) : f_X10_comment_52 (69, 0) (nI w) (nI f) (some (27, w)) up h =
    if (decide (Qn < 60) && c) = true then m_ri (cmC h Qn w f up (bI (scP h f w))) (nI Qn) else m_ex h 2 := by
  have hQ := Q.1
  have k1 := Q.2.1
  have k3 := Q.2.2.2.1
  have i60 : ((60 : Int32) ≤ nI Qn) = (60 ≤ Qn) := i_le (a := 60) (by omega) (by omega)
  rw [f_X10_comment_52, gI_69, k1]
  by_cases h60 : 60 ≤ Qn
  · rw [if_pos (show (60 : Int32) ≤ nI Qn by rw [i60]; exact h60), f_X10_comment_73, decide_eq_false (by omega), Bool.false_and, if_neg (by decide)]
  · rw [if_neg (show ¬ (60 : Int32) ≤ nI Qn by rw [i60]; exact h60), ao_69, ec, bI_ri, decide_eq_true (show Qn < 60 by omega), Bool.true_and]
    cases c
    · rw [bI_f, if_pos rfl, f_X10_comment_73, if_neg (by decide)]
    · rw [bI_t, if_neg (by decide), if_pos rfl, gI_27, ws.1 w hw]
      have fin : ∀ b : Bool, f_X10_comment_106 (69, 0) (nI w) (nI f) up (bI b) h = m_ri (cmC h Qn w f up (bI b)) (nI Qn) := fun b => by
        have d1 : m_gi (m_sr (m_si (m_sr (m_si (m_si (m_al h 30 6) 30 Qn 0 (nI w)) 30 Qn 1 (nI f)) 30 Qn 2 up) 30 Qn 5 (bI b)) 25 0 Qn (some (30, Qn))) 69 0 12 = nI Qn := by
          rw [gi_sr, gi_ne (by decide), gi_sr, gi_ne (by decide), gi_ne (by decide), gi_al (by decide)]; exact k1
        rw [f_X10_comment_106, gR_69, pc_coms H, gI_69, k1, new_eq, k3, f_X1_init, pI_30, pI_30, pR_30, pZ_30 (nz_bI b), bW_rt, sR_25 (show Qn < 60 by omega), gI_69, d1, nI_1, pI_69, gI_69, gi_eq, nI_pred]
        rfl
      have f0 := fin false
      have f1 := fin true
      rw [bI_f] at f0
      rw [bI_t] at f1
      unfold scP
      by_cases z : m_gi h 43 0 w = 0
      · rw [if_pos z, f_X10_comment_105, f0, decide_eq_true z, Bool.not_true, Bool.false_and, bI_f]
      · rw [if_neg z, ao_27, c_isOwnedBy a hw hf, bI_ri, decide_eq_false z, Bool.not_false, Bool.true_and]
        cases ho : ownP h f w
        · rw [bI_f, if_pos rfl, f1, Bool.not_false, bI_t]
        · rw [bI_t, if_neg (by decide), f_X10_comment_105, f0, Bool.not_true, bI_f]
theorem r_cm102 (G : ShM h) (a : RWa W h) (e37 : m_gi h 70 0 37 = nI Qn) (hQ : Qn < 60) (hw : w < W) (h20 : w < 20) (hf : f < 32) (y : Int32) : f_X11_comment_102 (70, 0) (nI w) (nI f) y 0 (some (70, 0)) h = m_ri (cmM h Qn w f y (bI (scP h f w))) (nI Qn) := by
  have d0 : m_gi (m_si h 70 0 0 0) 70 0 37 = nI Qn := by rw [gi_neI (by decide)]; exact e37
  have d1 : m_gi (m_si (m_si h 70 0 0 0) 60 0 Qn (nI w)) 70 0 37 = nI Qn := by rw [gi_ne (by decide)]; exact d0
  have d2 : m_gi (m_si (m_si (m_si h 70 0 0 0) 60 0 Qn (nI w)) 61 0 Qn (nI f)) 70 0 37 = nI Qn := by rw [gi_ne (by decide)]; exact d1
  have d3 : m_gi (m_si (m_si (m_si (m_si h 70 0 0 0) 60 0 Qn (nI w)) 61 0 Qn (nI f)) 62 0 Qn y) 70 0 37 = nI Qn := by rw [gi_ne (by decide)]; exact d2
  have d4 : ∀ s, m_gi (m_si (m_si (m_si (m_si (m_si h 70 0 0 0) 60 0 Qn (nI w)) 61 0 Qn (nI f)) 62 0 Qn y) 64 0 Qn s) 70 0 37 = nI Qn := fun s => by rw [gi_ne (by decide)]; exact d3
  have d43 : m_gi (m_si (m_si (m_si (m_si h 70 0 0 0) 60 0 Qn (nI w)) 61 0 Qn (nI f)) 62 0 Qn y) 43 0 w = m_gi h 43 0 w := by rw [gi_ne (by decide), gi_ne (by decide), gi_ne (by decide), gi_ne (by decide)]
  have Fo : Frm (pX [] [60, 61, 62]) h (m_si (m_si (m_si (m_si h 70 0 0 0) 60 0 Qn (nI w)) 61 0 Qn (nI f)) 62 0 Qn y) := ((((Frm.refl _ h).si rfl).si rfl).si rfl).si rfl
  have o := r_isOwner (G.frm Fo) (a.frm Fo) hw h20 hf
  have eo : ownP (m_si (m_si (m_si (m_si h 70 0 0 0) 60 0 Qn (nI w)) 61 0 Qn (nI f)) 62 0 Qn y) f w = ownP h f w := by unfold ownP; rw [Fo.1 34 0 w rfl]
  rw [eo] at o
  have fin : ∀ b : Bool, f_X11_comment_171 (70, 0) (bI b) (nI Qn) (some (64, 0)) (m_si (m_si (m_si (m_si h 70 0 0 0) 60 0 Qn (nI w)) 61 0 Qn (nI f)) 62 0 Qn y) = m_ri (cmM h Qn w f y (bI b)) (nI Qn) := fun b => by
    rw [f_X11_comment_171, sZ_64 (nz_bI b) hQ, gI_70, d4, nI_1, pI_70, gI_70, gi_eq, nI_pred]
    rfl
  have f0 := fin false
  have f1 := fin true
  rw [bI_f] at f0
  rw [bI_t] at f1
  rw [f_X11_comment_102, ao_70, r_h0, bI_ri, if_neg (by decide), gR_70, gr_si, pm_38 G, gI_70, d0, sI_60 hQ, gR_70, gr_si, gr_si, pm_39 G, gI_70, d1, sI_61 hQ, gR_70, gr_si, gr_si, gr_si, pm_40 G, gI_70, d2, sI_62 hQ, gR_70, gr_si, gr_si, gr_si, gr_si, pm_42 G, gI_70, d3, gR_70, gr_si, gr_si, gr_si, gr_si, pm_15 G, aI_43 h20, d43]
  unfold scP
  by_cases z : m_gi h 43 0 w = 0
  · rw [if_pos z, f_X11_comment_170, f0, decide_eq_true z, Bool.not_true, Bool.false_and, bI_f]
  · rw [if_neg z, ao_70, o, bI_ri, decide_eq_false z, Bool.not_false, Bool.true_and]
    cases ho : ownP h f w
    · rw [bI_f, if_pos rfl, f1, Bool.not_false, bI_t]
    · rw [bI_t, if_neg (by decide), f_X11_comment_170, f0, Bool.not_true, bI_f]
theorem r_cmE1 {x y z : Int32} : f_X11_comment_38 (70, 0) x y z h = m_ri (m_si h 70 0 0 1) 0 := by
  rw [f_X11_comment_38, f_X11_comment_39, if_pos rfl, f_X11_comment_65, f_X11_comment_66, if_pos rfl, f_X11_comment_102, ao_70, r_h1, bI_ri, if_pos rfl]
theorem r_cmE2 {x y z : Int32} : f_X11_comment_65 (70, 0) x y z 1 h = m_ri (m_si h 70 0 0 2) 0 := by
  rw [f_X11_comment_65, f_X11_comment_66, if_neg (by decide), if_pos rfl, f_X11_comment_102, ao_70, r_h2, bI_ri, if_pos rfl]
theorem r_cm61 {x y z : Int32} {c : Bool} (ec : f_X11_canComment (70, 0) x y z h = m_ri h (bI c)) : f_X11_comment_61 (70, 0) x y z 1 h = if c = true then f_X11_comment_102 (70, 0) x y z 0 (some (70, 0)) h else m_ri (m_si h 70 0 0 3) 0 := by
  rw [f_X11_comment_61, f_X11_comment_66, if_neg (by decide), if_neg (by decide), ao_70, ec, bI_ri]
  cases c
  · rw [bI_f, if_pos rfl, if_neg (by decide), f_X11_comment_102, ao_70, r_h3, bI_ri, if_pos rfl]
  · rw [bI_t, if_neg (by decide), if_pos rfl]
end Comm
theorem cm_ok {W Cn Tn Sn Qn : Nat} {h : am_H} (R : RR W Cn Tn Sn Qn h) {w f : Nat} (hw : w < W) (hf : f < 32) (hQ : Qn < 60) {up : Option (Nat × Nat)} {y sc v : Int32} (zs : m_nz sc = true) (hu : (up = none ∧ y = -1) ∨ ∃ u : Nat, u < Qn ∧ up = some (30, u) ∧ y = nI u) : RR W Cn Tn Sn (Qn + 1) (cmM (m_sl (cmC h Qn w f up sc) 71 0 0 (vI v)) Qn w f y sc) := by
  have R0 := R
  obtain ⟨H, G, rDay, rBlk, rSam, N, rWa, rWc, rWp, rWl, rWo, rWt, rWf, rWw, rWs, rWk, rCo, rTg, rPa, rTp, rSg, rCm, rSb, rDg, rIv⟩ := R
  unfold cmM cmC
  have F : Frm (pX [(69, 12), (70, 37)] [30, 1030, 25, 60, 61, 62, 64]) h (m_si (m_si (m_si (m_si (m_si (m_si (m_sl (m_si (m_sr (m_si (m_sr (m_si (m_si (m_al h 30 6) 30 Qn 0 (nI w)) 30 Qn 1 (nI f)) 30 Qn 2 up) 30 Qn 5 sc) 25 0 Qn (some (30, Qn))) 69 0 12 (nI (Qn + 1))) 71 0 0 (vI v)) 70 0 0 0) 60 0 Qn (nI w)) 61 0 Qn (nI f)) 62 0 Qn y) 64 0 Qn sc) 70 0 37 (nI (Qn + 1))) := (((((((((((((((Frm.refl _ h).al (fun _ => rfl) rfl).si rfl).si rfl).sr rfl).si rfl).sr rfl).si rfl).sl).si rfl).si rfl).si rfl).si rfl).si rfl).si rfl)
  have nx30 := rCm.2.2.2.1
  have e30 : ∀ j i, j < Qn → m_gi (m_si (m_si (m_si (m_si (m_si (m_si (m_sl (m_si (m_sr (m_si (m_sr (m_si (m_si (m_al h 30 6) 30 Qn 0 (nI w)) 30 Qn 1 (nI f)) 30 Qn 2 up) 30 Qn 5 sc) 25 0 Qn (some (30, Qn))) 69 0 12 (nI (Qn + 1))) 71 0 0 (vI v)) 70 0 0 0) 60 0 Qn (nI w)) 61 0 Qn (nI f)) 62 0 Qn y) 64 0 Qn sc) 70 0 37 (nI (Qn + 1))) 30 j i = m_gi h 30 j i := fun j i hj => by
    simp only [m_gi_si, gi_sr, gi_sl, m_gi_al, nx30]
    simp [show ¬ j = Qn by omega]
  have e30S : ∀ i, m_gi (m_si (m_si (m_si (m_si (m_si (m_si (m_sl (m_si (m_sr (m_si (m_sr (m_si (m_si (m_al h 30 6) 30 Qn 0 (nI w)) 30 Qn 1 (nI f)) 30 Qn 2 up) 30 Qn 5 sc) 25 0 Qn (some (30, Qn))) 69 0 12 (nI (Qn + 1))) 71 0 0 (vI v)) 70 0 0 0) 60 0 Qn (nI w)) 61 0 Qn (nI f)) 62 0 Qn y) 64 0 Qn sc) 70 0 37 (nI (Qn + 1))) 30 Qn i = if i = 0 then nI w else if i = 1 then nI f else if i = 5 then sc else 0 := fun i => by
    simp only [m_gi_si, gi_sr, gi_sl, m_gi_al, nx30]
    by_cases i0 : i = 0
    · subst i0; simp
    · by_cases i1 : i = 1
      · subst i1; simp
      · by_cases i5 : i = 5
        · subst i5; simp
        · simp [i0, i1, i5]
  have g30 : ∀ j i, j < Qn → m_gr (m_si (m_si (m_si (m_si (m_si (m_si (m_sl (m_si (m_sr (m_si (m_sr (m_si (m_si (m_al h 30 6) 30 Qn 0 (nI w)) 30 Qn 1 (nI f)) 30 Qn 2 up) 30 Qn 5 sc) 25 0 Qn (some (30, Qn))) 69 0 12 (nI (Qn + 1))) 71 0 0 (vI v)) 70 0 0 0) 60 0 Qn (nI w)) 61 0 Qn (nI f)) 62 0 Qn y) 64 0 Qn sc) 70 0 37 (nI (Qn + 1))) 30 j i = m_gr h 30 j i := fun j i hj => by
    simp only [gr_si, gr_sl, m_gr_sr, m_gr_al, nx30]
    simp [show ¬ j = Qn by omega]
  have g30S : m_gr (m_si (m_si (m_si (m_si (m_si (m_si (m_sl (m_si (m_sr (m_si (m_sr (m_si (m_si (m_al h 30 6) 30 Qn 0 (nI w)) 30 Qn 1 (nI f)) 30 Qn 2 up) 30 Qn 5 sc) 25 0 Qn (some (30, Qn))) 69 0 12 (nI (Qn + 1))) 71 0 0 (vI v)) 70 0 0 0) 60 0 Qn (nI w)) 61 0 Qn (nI f)) 62 0 Qn y) 64 0 Qn sc) 70 0 37 (nI (Qn + 1))) 30 Qn 2 = up := by
    simp only [gr_si, gr_sl, m_gr_sr, m_gr_al, nx30]
    simp
  have g25 : ∀ j, m_gr (m_si (m_si (m_si (m_si (m_si (m_si (m_sl (m_si (m_sr (m_si (m_sr (m_si (m_si (m_al h 30 6) 30 Qn 0 (nI w)) 30 Qn 1 (nI f)) 30 Qn 2 up) 30 Qn 5 sc) 25 0 Qn (some (30, Qn))) 69 0 12 (nI (Qn + 1))) 71 0 0 (vI v)) 70 0 0 0) 60 0 Qn (nI w)) 61 0 Qn (nI f)) 62 0 Qn y) 64 0 Qn sc) 70 0 37 (nI (Qn + 1))) 25 0 j = if j = Qn then some (30, Qn) else m_gr h 25 0 j := fun j => by
    simp only [gr_si, gr_sl, m_gr_sr, m_gr_al, nx30]
    simp
  have e60 : ∀ j, m_gi (m_si (m_si (m_si (m_si (m_si (m_si (m_sl (m_si (m_sr (m_si (m_sr (m_si (m_si (m_al h 30 6) 30 Qn 0 (nI w)) 30 Qn 1 (nI f)) 30 Qn 2 up) 30 Qn 5 sc) 25 0 Qn (some (30, Qn))) 69 0 12 (nI (Qn + 1))) 71 0 0 (vI v)) 70 0 0 0) 60 0 Qn (nI w)) 61 0 Qn (nI f)) 62 0 Qn y) 64 0 Qn sc) 70 0 37 (nI (Qn + 1))) 60 0 j = if j = Qn then nI w else m_gi h 60 0 j := fun j => by
    simp only [m_gi_si, gi_sr, gi_sl, m_gi_al]
    simp
  have e61 : ∀ j, m_gi (m_si (m_si (m_si (m_si (m_si (m_si (m_sl (m_si (m_sr (m_si (m_sr (m_si (m_si (m_al h 30 6) 30 Qn 0 (nI w)) 30 Qn 1 (nI f)) 30 Qn 2 up) 30 Qn 5 sc) 25 0 Qn (some (30, Qn))) 69 0 12 (nI (Qn + 1))) 71 0 0 (vI v)) 70 0 0 0) 60 0 Qn (nI w)) 61 0 Qn (nI f)) 62 0 Qn y) 64 0 Qn sc) 70 0 37 (nI (Qn + 1))) 61 0 j = if j = Qn then nI f else m_gi h 61 0 j := fun j => by
    simp only [m_gi_si, gi_sr, gi_sl, m_gi_al]
    simp
  have e62 : ∀ j, m_gi (m_si (m_si (m_si (m_si (m_si (m_si (m_sl (m_si (m_sr (m_si (m_sr (m_si (m_si (m_al h 30 6) 30 Qn 0 (nI w)) 30 Qn 1 (nI f)) 30 Qn 2 up) 30 Qn 5 sc) 25 0 Qn (some (30, Qn))) 69 0 12 (nI (Qn + 1))) 71 0 0 (vI v)) 70 0 0 0) 60 0 Qn (nI w)) 61 0 Qn (nI f)) 62 0 Qn y) 64 0 Qn sc) 70 0 37 (nI (Qn + 1))) 62 0 j = if j = Qn then y else m_gi h 62 0 j := fun j => by
    simp only [m_gi_si, gi_sr, gi_sl, m_gi_al]
    simp
  have e64 : ∀ j, m_gi (m_si (m_si (m_si (m_si (m_si (m_si (m_sl (m_si (m_sr (m_si (m_sr (m_si (m_si (m_al h 30 6) 30 Qn 0 (nI w)) 30 Qn 1 (nI f)) 30 Qn 2 up) 30 Qn 5 sc) 25 0 Qn (some (30, Qn))) 69 0 12 (nI (Qn + 1))) 71 0 0 (vI v)) 70 0 0 0) 60 0 Qn (nI w)) 61 0 Qn (nI f)) 62 0 Qn y) 64 0 Qn sc) 70 0 37 (nI (Qn + 1))) 64 0 j = if j = Qn then sc else m_gi h 64 0 j := fun j => by
    simp only [m_gi_si, gi_sr, gi_sl, m_gi_al]
    simp
  have e63 : ∀ j, m_gi (m_si (m_si (m_si (m_si (m_si (m_si (m_sl (m_si (m_sr (m_si (m_sr (m_si (m_si (m_al h 30 6) 30 Qn 0 (nI w)) 30 Qn 1 (nI f)) 30 Qn 2 up) 30 Qn 5 sc) 25 0 Qn (some (30, Qn))) 69 0 12 (nI (Qn + 1))) 71 0 0 (vI v)) 70 0 0 0) 60 0 Qn (nI w)) 61 0 Qn (nI f)) 62 0 Qn y) 64 0 Qn sc) 70 0 37 (nI (Qn + 1))) 63 0 j = m_gi h 63 0 j := fun j => F.1 63 0 j rfl
  have e65 : ∀ j, m_gi (m_si (m_si (m_si (m_si (m_si (m_si (m_sl (m_si (m_sr (m_si (m_sr (m_si (m_si (m_al h 30 6) 30 Qn 0 (nI w)) 30 Qn 1 (nI f)) 30 Qn 2 up) 30 Qn 5 sc) 25 0 Qn (some (30, Qn))) 69 0 12 (nI (Qn + 1))) 71 0 0 (vI v)) 70 0 0 0) 60 0 Qn (nI w)) 61 0 Qn (nI f)) 62 0 Qn y) 64 0 Qn sc) 70 0 37 (nI (Qn + 1))) 65 0 j = m_gi h 65 0 j := fun j => F.1 65 0 j rfl
  obtain ⟨b1, b2, b3, b4, b5, b6, b7⟩ := rCm
  refine ⟨H.frm F, G.frm F, rDay.frm F, rBlk.frm F, rSam.frm F, N.frm F, rWa.frm F, rWc.frm F, rWp.frm F, rWl.frm F, rWo.frm F, rWt.frm F, rWf.frm F, rWw.frm F, rWs.frm F, rWk.frm F, rCo.frm F, rTg.frm F, rPa.frm F, rTp.frm F, rSg.frm F, ?_, rSb.frm F, rDg.frm F, rIv.frm F⟩
  refine ⟨by omega, ?_, gi_eq, ?_, fun j hj => ?_, fun j hj => ?_, fun j h1 h2 => ?_⟩
  · rw [gi_ne (by decide), gi_ne (by decide), gi_ne (by decide), gi_ne (by decide), gi_ne (by decide), gi_ne (by decide), gi_sl]; exact gi_eq
  · show m_nx (m_al h 30 6) 30 = _
    rw [nx_als, nx30]
  · rw [g25, e60, e61, e62, e63, e64, e65]
    by_cases ej : j = Qn
    · subst ej
      simp only [if_true, e30S, g30S]
      obtain ⟨c1, c2⟩ := b7 j (Nat.le_refl j) hQ
      rw [c1, c2]
      exact ⟨by first | trivial | rfl, by first | trivial | rfl, ⟨w, hw, by first | trivial | rfl⟩, by first | trivial | rfl, ⟨f, hf, by first | trivial | rfl⟩, hu, by first | trivial | rfl, by first | trivial | rfl, by first | trivial | rfl⟩
    · have hj' : j < Qn := by omega
      simp only [if_neg ej, e30 j _ hj', g30 j _ hj']
      exact b5 j hj'
  · rw [e63, e64, e65]
    obtain ⟨c1, c2, c3⟩ := b6 j hj
    by_cases ej : j = Qn
    · rw [if_pos ej]; exact ⟨c1, zs, c3⟩
    · rw [if_neg ej]; exact ⟨c1, c2, c3⟩
  · rw [e63, e65]; exact b7 j (by omega) h2
theorem op_comment {W Cn Tn Sn Qn : Nat} {h : am_H} (R : RR W Cn Tn Sn Qn h) (x y z : Int32) : OpOK h (f_G_comment (some (69, 0)) x y z (some (71, 0)) h) (f_X11_comment (70, 0) x y z) vI := by
  have R0 := R
  obtain ⟨H, G, rDay, rBlk, rSam, N, rWa, rWc, rWp, rWl, rWo, rWt, rWf, rWw, rWs, rWk, rCo, rTg, rPa, rTp, rSg, rCm, rSb, rDg, rIv⟩ := R
  have hW := N.1
  have hQ := rCm.1
  have k1 := rCm.2.1
  have k2 := rCm.2.2.1
  obtain ⟨D, hD, d1, d2⟩ := id rDay
  have e69 := d1.trans d2.symm
  have Fe : Frm (pX [] []) h (m_op (m_th h)) := (Frm.refl (pX [] []) h).th.op rfl
  have Re : RR W Cn Tn Sn Qn (m_op (m_th h)) := rr_eqv Fe R0
  rcases ix_cases x (n := W) (by omega) with ⟨w, hw, rfl⟩ | hx
  · have ix := isIx_ok (show W < 10000 by omega) hw
    have h20 : w < 20 := by omega
    rcases ix_cases y (n := 32) (by omega) with ⟨f, hf, rfl⟩ | hy
    · have iy := isIx_ok (show 32 < 10000 by omega) hf
      have ke : m_gi (m_op (m_th h)) 70 0 4 = nI W := N.2.2.1
      have kq : m_gi (m_op (m_th h)) 70 0 37 = nI Qn := k2
      by_cases z1 : z = -1
      · subst z1
        have cm := c_mayN e69 H rWa rWp rWl rWo rCo hw hf
        have c := c_cm52 H rWa rWs rCm hw hf cm
        have cc : f_X10_comment (69, 0) (nI w) (nI f) (-1) h = f_X10_comment_52 (69, 0) (nI w) (nI f) (some (27, w)) none h := by
          rw [f_X10_comment, ao_69, c_workAt H N hw, bR_ra, c_checkFace hf, bV_rt, if_pos rfl, f_X10_comment_25, if_pos rfl]
        rw [c] at cc
        have rr : ∀ g, ShM g → m_gi g 70 0 4 = nI W → f_X11_comment (70, 0) (nI w) (nI f) (-1) g = f_X11_comment_61 (70, 0) (nI w) (nI f) (-1) 1 g := fun g Gg e4 => by
          rw [f_X11_comment, ao_70, r_isWork, e4, ix, bI_ri, bI_t, if_neg (by decide), r_isFace, iy, bI_ri, bI_t, if_neg (by decide), if_pos rfl, f_X11_comment_34, f_X11_comment_39, if_neg (by decide), if_pos rfl]
        cases hc : decide (Qn < 60) && (seenP h f w && !abkP h w f 12)
        · rw [hc, if_neg (by decide)] at cc
          have e := r_canN Re.G Re.rWa Re.rWo Re.rCo Re.rBlk kq hQ hw h20 hf
          rw [show seenP (m_op (m_th h)) f w = seenP h f w from rfl, show abkP (m_op (m_th h)) w f 12 = abkP h w f 12 from rfl, hc] at e
          have e2 := r_cm61 e
          rw [if_neg (by decide)] at e2
          exact ok_ex R0 (c := 3) (b := 0) (by decide) (L_comment_x2 _ _ _ cc) ((rr _ Re.G ke).trans e2)
        · rw [hc, if_pos rfl] at cc
          rw [Bool.and_eq_true, decide_eq_true_eq] at hc
          have Fs : Frm (pX [(69, 12)] [30, 1030, 25]) h (m_sl (cmC h Qn w f none (bI (scP h f w))) 71 0 0 (vI (nI Qn))) := by
            unfold cmC
            exact (((((((((Frm.refl _ h).al (fun _ => rfl) rfl).si rfl).si rfl).sr rfl).si rfl).sr rfl).si rfl).sl)
          have e := r_canN (G.frm Fs) (rWa.frm Fs) (rWo.frm Fs) (rCo.frm Fs) (rBlk.frm Fs) ((Fs.1 70 0 37 rfl).trans k2) hQ hw h20 hf
          have es : seenP (m_sl (cmC h Qn w f none (bI (scP h f w))) 71 0 0 (vI (nI Qn))) f w = seenP h f w := by simp only [seenP, ownP, opP, Fs.1 34 0 w rfl, Fs.1 37 0 w rfl, Fs.1 38 0 w rfl, Fs.1 39 0 w rfl, Fs.1 45 0 _ rfl, Fs.1 70 0 1 rfl]
          have ea : abkP (m_sl (cmC h Qn w f none (bI (scP h f w))) 71 0 0 (vI (nI Qn))) w f 12 = abkP h w f 12 := by simp only [abkP, blkP, Fs.1 34 0 w rfl, Fs.1 26 _ 0 rfl]
          have eo : scP (m_sl (cmC h Qn w f none (bI (scP h f w))) 71 0 0 (vI (nI Qn))) f w = scP h f w := scP_cong (Fs.1 34 0 w rfl) (Fs.1 43 0 w rfl)
          rw [es, ea, hc.2, Bool.and_true, decide_eq_true hc.1] at e
          have e2 := r_cm61 e
          rw [if_pos rfl, r_cm102 (G.frm Fs) (rWa.frm Fs) ((Fs.1 70 0 37 rfl).trans k2) hc.1 hw h20 hf, eo] at e2
          have R2 := cm_ok (v := nI Qn) R0 hw hf hc.1 (up := none) (y := -1) (nz_bI (scP h f w)) (Or.inl ⟨rfl, rfl⟩)
          refine ok_u (h1 := (cmC h Qn w f none (bI (scP h f w)))) (b := nI Qn) (h2 := cmM (m_sl (cmC h Qn w f none (bI (scP h f w))) 71 0 0 (vI (nI Qn))) Qn w f (-1) (bI (scP h f w))) (L_comment_ret _ _ _ cc) ((rr _ (G.frm Fs) ((Fs.1 70 0 4 rfl).trans N.2.2.1)).trans e2) ?_ ?_ ?_ ?_ ?_ ?_ ⟨W, Cn, Tn, Sn, Qn + 1, R2⟩
          · unfold cmM
            rw [gi_neI (by decide), gi_ne (by decide), gi_ne (by decide), gi_ne (by decide), gi_ne (by decide), gi_eq]
          · unfold cmM
            rw [gl_si, gl_si, gl_si, gl_si, gl_si, gl_si, gl_eq]
          · exact Fs.g1
          · unfold cmM
            rw [gi_ne (by decide), gi_ne (by decide), gi_ne (by decide), gi_ne (by decide), gi_ne (by decide), gi_ne (by decide)]
            exact Fs.g1
          · show m_nc h + 1 ≤ _; omega
          · show m_ns h + 6 ≤ _; omega
      · rcases ix_cases z (n := Qn) (by omega) with ⟨q, hq, rfl⟩ | hz
        · have h60 : q < 60 := by omega
          have dd : decide (¬ nI q < (0 : Int32) ∧ ¬ nI Qn - 1 < nI q) = true := isIx_ok (show Qn < 10000 by omega) hq
          obtain ⟨q1, q2, ⟨w', q3, q4⟩, q5, _, q8, q9, q10, q11⟩ := rCm.2.2.2.2.1 q hq
          have c25 : f_X10_comment (69, 0) (nI w) (nI f) (nI q) h = f_X10_comment_25 (69, 0) (nI w) (nI f) (some (27, w)) (some (30, q)) h := by
            rw [f_X10_comment, ao_69, c_workAt H N hw, bR_ra, c_checkFace hf, bV_rt, if_neg z1, ao_69, c_commentAt H rCm hq, bR_ra]
          have r39 : ∀ g, m_gi g 70 0 4 = nI W → m_gi g 70 0 37 = nI Qn → f_X11_comment (70, 0) (nI w) (nI f) (nI q) g = f_X11_comment_39 (70, 0) (nI w) (nI f) (nI q) 1 g := fun g e4 e37 => by
            rw [f_X11_comment, ao_70, r_isWork, e4, ix, bI_ri, bI_t, if_neg (by decide), r_isFace, iy, bI_ri, bI_t, if_neg (by decide), if_neg z1, gI_70, e37, r_in, dd, bI_ri, bI_t, if_neg (by decide), f_X11_comment_34]
          by_cases hfit : m_gi h 60 0 q = nI w
          · have cm := c_mayQ e69 H rWa rWp rWl rWo rCo rCm hw hf hq
            have c := c_cm52 H rWa rWs rCm hw hf cm
            have cc : f_X10_comment (69, 0) (nI w) (nI f) (nI q) h = f_X10_comment_52 (69, 0) (nI w) (nI f) (some (27, w)) (some (30, q)) h := by
              rw [c25, f_X10_comment_25, if_neg (by intro z; cases z), gI_30, q2, if_pos hfit]
            rw [c] at cc
            have rr : ∀ g, ShM g → m_gi g 70 0 4 = nI W → m_gi g 70 0 37 = nI Qn → m_gi g 60 0 q = nI w → f_X11_comment (70, 0) (nI w) (nI f) (nI q) g = f_X11_comment_61 (70, 0) (nI w) (nI f) (nI q) 1 g := fun g Gg e4 e37 e60 => by
              rw [r39 g e4 e37, f_X11_comment_39, if_neg (by decide), if_neg z1, gR_70, pm_38 Gg, aI_60 h60, if_pos e60]
            cases hc : decide (Qn < 60) && (seenP h f w && !abkP h w f 12 && mayQ h f w q)
            · rw [hc, if_neg (by decide)] at cc
              have e := r_canQ Re.G Re.rWa Re.rWo Re.rCo Re.rBlk Re.rCm hw h20 hf hq hfit
              have fz : ∀ n p, frz (m_op (m_th h)) n p = frz h n p := fun n => by
                induction n with
                | zero => intro p; rfl
                | succ n ih => intro p; rw [frz, frz, ih]; rfl
              rw [show seenP (m_op (m_th h)) f w = seenP h f w from rfl, show abkP (m_op (m_th h)) w f 12 = abkP h w f 12 from rfl, show mayQ (m_op (m_th h)) f w q = mayQ h f w q by unfold mayQ; rw [fz]; rfl, hc] at e
              have e2 := r_cm61 e
              rw [if_neg (by decide)] at e2
              exact ok_ex R0 (c := 3) (b := 0) (by decide) (L_comment_x2 _ _ _ cc) ((rr _ Re.G ke kq hfit).trans e2)
            · rw [hc, if_pos rfl] at cc
              rw [Bool.and_eq_true, decide_eq_true_eq] at hc
              have Fs : Frm (pX [(69, 12)] [30, 1030, 25]) h (m_sl (cmC h Qn w f (some (30, q)) (bI (scP h f w))) 71 0 0 (vI (nI Qn))) := by
                unfold cmC
                exact (((((((((Frm.refl _ h).al (fun _ => rfl) rfl).si rfl).si rfl).sr rfl).si rfl).sr rfl).si rfl).sl)
              have nx30 := rCm.2.2.2.1
              have es : ∀ f' w', seenP (m_sl (cmC h Qn w f (some (30, q)) (bI (scP h f w))) 71 0 0 (vI (nI Qn))) f' w' = seenP h f' w' := fun f' w' => by simp only [seenP, ownP, opP, Fs.1 34 0 w' rfl, Fs.1 37 0 w' rfl, Fs.1 38 0 w' rfl, Fs.1 39 0 w' rfl, Fs.1 45 0 _ rfl, Fs.1 70 0 1 rfl]
              have ea : abkP (m_sl (cmC h Qn w f (some (30, q)) (bI (scP h f w))) 71 0 0 (vI (nI Qn))) w f 12 = abkP h w f 12 := by simp only [abkP, blkP, Fs.1 34 0 w rfl, Fs.1 26 _ 0 rfl]
              have eo : scP (m_sl (cmC h Qn w f (some (30, q)) (bI (scP h f w))) 71 0 0 (vI (nI Qn))) f w = scP h f w := scP_cong (Fs.1 34 0 w rfl) (Fs.1 43 0 w rfl)
              have fz : ∀ n p, frz (m_sl (cmC h Qn w f (some (30, q)) (bI (scP h f w))) 71 0 0 (vI (nI Qn))) n p = frz h n p := fun n => by
                induction n with
                | zero => intro p; rfl
                | succ n ih => intro p; rw [frz, frz, ih, Fs.1 63 0 p rfl, Fs.1 62 0 p rfl]
              have em : mayQ (m_sl (cmC h Qn w f (some (30, q)) (bI (scP h f w))) 71 0 0 (vI (nI Qn))) f w q = mayQ h f w q := by
                unfold mayQ readP blkP ownP
                rw [fz, es, Fs.1 65 0 q rfl, Fs.1 64 0 q rfl, Fs.1 61 0 q rfl, Fs.1 34 0 w rfl, Fs.1 26 _ 0 rfl]
              have e := r_canQ1 (G.frm Fs) (rWa.frm Fs) (rWo.frm Fs) (rCo.frm Fs) (rBlk.frm Fs) ((Fs.1 70 0 37 rfl).trans k2) hQ hw h20 hf hq ((Fs.1 60 0 q rfl).trans hfit) (fun p hp => by
                rw [Fs.1 61 0 p rfl, Fs.1 62 0 p rfl]
                exact cmM_of rCm p hp)
              rw [es, ea, em, hc.2, Bool.and_true, decide_eq_true hc.1] at e
              have e2 := r_cm61 e
              rw [if_pos rfl, r_cm102 (G.frm Fs) (rWa.frm Fs) ((Fs.1 70 0 37 rfl).trans k2) hc.1 hw h20 hf, eo] at e2
              have R2 := cm_ok (v := nI Qn) R0 hw hf hc.1 (up := some (30, q)) (y := nI q) (nz_bI (scP h f w)) (Or.inr ⟨q, hq, rfl, rfl⟩)
              refine ok_u (h1 := (cmC h Qn w f (some (30, q)) (bI (scP h f w)))) (b := nI Qn) (h2 := cmM (m_sl (cmC h Qn w f (some (30, q)) (bI (scP h f w))) 71 0 0 (vI (nI Qn))) Qn w f (nI q) (bI (scP h f w))) (L_comment_ret _ _ _ cc) ((rr _ (G.frm Fs) ((Fs.1 70 0 4 rfl).trans N.2.2.1) ((Fs.1 70 0 37 rfl).trans k2) ((Fs.1 60 0 q rfl).trans hfit)).trans e2) ?_ ?_ ?_ ?_ ?_ ?_ ⟨W, Cn, Tn, Sn, Qn + 1, R2⟩
              · unfold cmM
                rw [gi_neI (by decide), gi_ne (by decide), gi_ne (by decide), gi_ne (by decide), gi_ne (by decide), gi_eq]
              · unfold cmM
                rw [gl_si, gl_si, gl_si, gl_si, gl_si, gl_si, gl_eq]
              · exact Fs.g1
              · unfold cmM
                rw [gi_ne (by decide), gi_ne (by decide), gi_ne (by decide), gi_ne (by decide), gi_ne (by decide), gi_ne (by decide)]
                exact Fs.g1
              · show m_nc h + 1 ≤ _; omega
              · show m_ns h + 6 ≤ _; omega
          · refine ok_ex R0 (c := 2) (b := 0) (by decide) (L_comment_x1 _ _ _ ?_) ?_
            · rw [c25, f_X10_comment_25, if_neg (by intro z; cases z), gI_30, q2, if_neg hfit]
            · rw [r39 _ ke kq, f_X11_comment_39, if_neg (by decide), if_neg z1, gR_70, pm_38 Re.G, aI_60 h60, if_neg (show ¬ m_gi (m_op (m_th h)) 60 0 q = nI w from hfit), r_cmE2]
        · have dd : decide (¬ z < (0 : Int32) ∧ ¬ nI Qn - 1 < z) = false := isIx_bad (show Qn < 10000 by omega) hz
          refine ok_ex R0 (c := 1) (b := 0) (by decide) (L_comment_x0 _ _ _ ?_) ?_
          · rw [f_X10_comment, ao_69, c_workAt H N hw, bR_ra, c_checkFace hf, bV_rt, if_neg z1, ao_69, c_commentAt_bad rCm hz, bR_ex]
          · rw [f_X11_comment, ao_70, r_isWork, ke, ix, bI_ri, bI_t, if_neg (by decide), r_isFace, iy, bI_ri, bI_t, if_neg (by decide), if_neg z1, gI_70, kq, r_in, dd, bI_ri, bI_f, if_pos rfl, r_cmE1]
    · have iy := isIx_bad (show 32 < 10000 by omega) hy
      have ke : m_gi (m_op (m_th h)) 70 0 4 = nI W := N.2.2.1
      refine ok_ex R0 (c := 1) (b := 0) (by decide) (L_comment_x0 _ _ _ ?_) ?_
      · rw [f_X10_comment, ao_69, c_workAt H N hw, bR_ra, c_checkFace_bad hy, bV_ex]
      · rw [f_X11_comment, ao_70, r_isWork, ke, ix, bI_ri, bI_t, if_neg (by decide), r_isFace, iy, bI_ri, bI_f, if_pos rfl, r_cmE1]
  · have ix := isIx_bad (show W < 10000 by omega) hx
    have ke : m_gi (m_op (m_th h)) 70 0 4 = nI W := N.2.2.1
    refine ok_ex R0 (c := 1) (b := 0) (by decide) (L_comment_x0 _ _ _ ?_) ?_
    · rw [f_X10_comment, ao_69, c_workAt_bad N hx, bR_ex]
    · rw [f_X11_comment, ao_70, r_isWork, ke, ix, bI_ri, bI_f, if_pos rfl, r_cmE1]
