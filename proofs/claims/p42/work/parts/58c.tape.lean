/-! ## the tape -/
theorem ch_small (y : Int64) : ∃ c, c < 256 ∧ Int64.toInt32 (y &&& 255) = nI c := by
  refine ⟨(Int64.toInt32 (y &&& 255)).toBitVec.toNat % 256, Nat.mod_lt _ (by decide), ?_⟩
  apply b_ext
  intro i hi
  rw [bt_nat _ _ hi]
  show (Int64.toInt32 (y &&& 255)).toBitVec.getLsbD i = _
  rw [show (256 : Nat) = 2 ^ 8 from rfl, Nat.testBit_mod_two_pow]
  by_cases h8 : i < 8
  · simp [h8, BitVec.getLsbD]
  · have k : (255 : Int64).toBitVec.getLsbD i = false := (by decide +kernel : ∀ i, i < 32 → 8 ≤ i → (255 : Int64).toBitVec.getLsbD i = false) i hi (by omega)
    have : (Int64.toInt32 (y &&& 255)).toBitVec.getLsbD i = false := by
      have q : (y &&& 255).toBitVec.getLsbD i = false := by rw [Int64.toBitVec_and, BitVec.getLsbD_and, k, Bool.and_false]
      show (BitVec.signExtend 32 (y &&& 255).toBitVec).getLsbD i = false
      rw [BitVec.getLsbD_signExtend, if_pos (show i < 64 by omega), q, Bool.and_false]
    rw [this, decide_eq_false h8, Bool.false_and]
def chN (x : Int64) (j : Nat) : Nat := (Int64.toInt32 ((m_lushr x ((8 : Int32) * nI j)) &&& (255 : Int64))).toNatClampNeg
theorem chN_of (x : Int64) (j : Nat) : chN x j < 256 ∧ Int64.toInt32 ((m_lushr x ((8 : Int32) * nI j)) &&& (255 : Int64)) = nI (chN x j) := by
  obtain ⟨c, h1, h2⟩ := ch_small (m_lushr x ((8 : Int32) * nI j))
  unfold chN
  rw [h2, nI_clamp (by omega)]
  exact ⟨h1, rfl⟩
theorem i2c_of : ∀ c, c < 256 → m_i2c (nI c) = nI c ∧ m_nzc (nI c) = true := by decide +kernel
def fig (c : Nat) : Bool := decide (48 ≤ c) && decide (c ≤ 57)
def fgs (c : Nat) : Nat := if c = 116 then 2 else if c = 97 then 2 else if c = 114 then 1 else 0
def okC (c : Nat) : Bool := fig c || decide (c = 116) || decide (c = 97) || decide (c = 114) || decide (c = 38) || decide (c = 124) || decide (c = 33) || decide (c = 40) || decide (c = 41)
def allP (P : Nat → Bool) : Nat → Bool
  | 0 => true
  | n + 1 => allP P n && P n
theorem allP_no {P : Nat → Bool} : ∀ {n k : Nat}, k < n → P k = false → allP P n = false
  | 0, k, h, _ => by omega
  | n + 1, k, h, e => by
    rw [allP]
    by_cases ek : k = n
    · rw [← ek, e, Bool.and_false]
    · rw [allP_no (show k < n by omega) e, Bool.false_and]
section Tape
variable {h : am_H} {c : Nat}
theorem iC {c b : Nat} (hc : c < 256) (hb : b < 256) : (nI c = nI b) = (c = b) := i_eq (by omega) (by omega)
theorem c_characterAt {x : Int64} {k : Nat} : f_X10_characterAt x (nI k) h = m_ri h (nI (chN x k)) := by
  obtain ⟨a, b⟩ := chN_of x k
  rw [f_X10_characterAt, b, (i2c_of _ a).1, rc_of (i2c_of _ a).2]
theorem c_isFigure (hc : c < 256) : f_X4_isFigure (nI c) h = m_ri h (bI (fig c)) := by
  have e1 : (nI c < (48 : Int32)) = (c < 48) := i_lt (b := 48) (by omega) (by omega)
  have e2 : ((57 : Int32) < nI c) = (57 < c) := i_lt (a := 57) (by omega) (by omega)
  simp only [f_X4_isFigure_17, f_X4_isFigure_16, f_X4_isFigure, e1, e2, rz_0, rz_1, fig]
  by_cases h1 : c < 48
  · rw [if_pos h1, decide_eq_false (by omega)]; rfl
  · rw [if_neg h1, decide_eq_true (by omega)]
    by_cases h2 : 57 < c
    · rw [if_pos h2, decide_eq_false (by omega)]; rfl
    · rw [if_neg h2, decide_eq_true (by omega)]; rfl
theorem r_isFigure (hc : c < 256) : f_X11_isFigure (nI c) h = m_ri h (bI (fig c)) := by
  have e1 : (nI c < (48 : Int32)) = (c < 48) := i_lt (b := 48) (by omega) (by omega)
  have e2 : ((57 : Int32) < nI c) = (57 < c) := i_lt (a := 57) (by omega) (by omega)
  simp only [f_X11_isFigure, r_in, bI_ri, rz_bI, e1, e2, fig]
  congr 2
  rw [Bool.eq_iff_iff, Bool.and_eq_true, decide_eq_true_eq, decide_eq_true_eq, decide_eq_true_eq]
  omega
theorem c_figuresOf (hc : c < 256) : f_X4_figuresOf (nI c) h = m_ri h (nI (fgs c)) := by
  have e1 : (nI c = (116 : Int32)) = (c = 116) := iC (b := 116) hc (by omega)
  have e2 : (nI c = (97 : Int32)) = (c = 97) := iC (b := 97) hc (by omega)
  have e3 : (nI c = (114 : Int32)) = (c = 114) := iC (b := 114) hc (by omega)
  simp only [f_X4_figuresOf_25, f_X4_figuresOf_12, f_X4_figuresOf, e1, e2, e3, fgs]
  by_cases h1 : c = 116
  · rw [if_pos h1, if_pos h1]; rfl
  · rw [if_neg h1, if_neg h1]
    by_cases h2 : c = 97
    · rw [if_pos h2, if_pos h2]; rfl
    · rw [if_neg h2, if_neg h2]
      by_cases h3 : c = 114
      · rw [if_pos h3, if_pos h3]; rfl
      · rw [if_neg h3, if_neg h3]; rfl
theorem c_holds (hc : c < 256) : f_X8_holds (nI c) h = m_ri h (bI (okC c)) := by
  have f1 : (nI c = (38 : Int32)) = (c = 38) := iC (b := 38) hc (by omega)
  have f2 : (nI c = (124 : Int32)) = (c = 124) := iC (b := 124) hc (by omega)
  have f3 : (nI c = (33 : Int32)) = (c = 33) := iC (b := 33) hc (by omega)
  have f4 : (nI c = (40 : Int32)) = (c = 40) := iC (b := 40) hc (by omega)
  have f5 : (nI c = (41 : Int32)) = (c = 41) := iC (b := 41) hc (by omega)
  have g1 : (0 : Int32) < nI 2 := by decide +kernel
  have g2 : (0 : Int32) < nI 1 := by decide +kernel
  have g3 : ¬ (0 : Int32) < nI 0 := by decide +kernel
  simp only [f_X8_holds_49, f_X8_holds_44, f_X8_holds, c_isFigure hc, c_figuresOf hc, bI_ri, bI_eq0, f1, f2, f3, f4, f5, rz_0, rz_1, okC, fgs]
  cases fig c
  · simp only [if_true, Bool.false_or]
    by_cases h1 : c = 116
    · subst h1; rfl
    · by_cases h2 : c = 97
      · subst h2; rfl
      · by_cases h3 : c = 114
        · subst h3; rfl
        · rw [if_neg h1, if_neg h2, if_neg h3, if_neg g3]
          by_cases h4 : c = 38
          · subst h4; rfl
          · by_cases h5 : c = 124
            · subst h5; rfl
            · by_cases h6 : c = 33
              · subst h6; rfl
              · by_cases h7 : c = 40
                · subst h7; rfl
                · by_cases h8 : c = 41
                  · subst h8; rfl
                  · simp only [h1, h2, h3, h4, h5, h6, h7, h8, if_false, decide_false, Bool.or_self, bI_f]
  · simp only [Bool.true_eq_false, if_false, Bool.true_or, bI_t]
theorem r_canBe (hc : c < 256) : f_X11_canBe (nI c) h = m_ri h (bI (okC c)) := by
  have f1 : (nI c = (38 : Int32)) = (c = 38) := iC (b := 38) hc (by omega)
  have f2 : (nI c = (124 : Int32)) = (c = 124) := iC (b := 124) hc (by omega)
  have f3 : (nI c = (33 : Int32)) = (c = 33) := iC (b := 33) hc (by omega)
  have f4 : (nI c = (40 : Int32)) = (c = 40) := iC (b := 40) hc (by omega)
  have f5 : (nI c = (41 : Int32)) = (c = 41) := iC (b := 41) hc (by omega)
  have e1 : (nI c = (116 : Int32)) = (c = 116) := iC (b := 116) hc (by omega)
  have e2 : (nI c = (97 : Int32)) = (c = 97) := iC (b := 97) hc (by omega)
  have e3 : (nI c = (114 : Int32)) = (c = 114) := iC (b := 114) hc (by omega)
  simp only [f_X11_canBe_60, f_X11_canBe_55, f_X11_canBe, r_isFigure hc, bI_ri, bI_eq0, f1, f2, f3, f4, f5, e1, e2, e3, rz_0, rz_1, okC]
  cases fig c
  · simp only [if_true, Bool.false_or]
    by_cases h1 : c = 116
    · subst h1; rfl
    · by_cases h2 : c = 97
      · subst h2; rfl
      · by_cases h3 : c = 114
        · subst h3; rfl
        · by_cases h4 : c = 38
          · subst h4; rfl
          · by_cases h5 : c = 124
            · subst h5; rfl
            · by_cases h6 : c = 33
              · subst h6; rfl
              · by_cases h7 : c = 40
                · subst h7; rfl
                · by_cases h8 : c = 41
                  · subst h8; rfl
                  · simp only [h1, h2, h3, h4, h5, h6, h7, h8, if_false, decide_false, Bool.or_self, bI_f]
  · simp only [Bool.true_eq_false, if_false, Bool.true_or, bI_t]
theorem c_ty24 (H : ShC h) (x : Int64) {m len : Nat} (hm : m ≤ 8) (hl : len ≤ 60) (eL : m_gi h 22 0 1 = nI len) : ∀ (n k : Nat), k ≤ m → m < k + n → f_X10_type_24 n (69, 0) x (nI m) (nI k) h =
    if allP (fun j => okC (chN x j)) k = true then (if allP (fun j => okC (chN x j)) m = true then (if len + m ≤ 60 then f_X10_type_87 5000 (69, 0) x (nI m) 0 h else m_ex h 2) else m_ex h 1) else f_X10_type_24 n (69, 0) x (nI m) (nI k) h
  | 0, k, h1, h2 => by omega
  | n + 1, k, h1, h2 => by
    cases hA : allP (fun j => okC (chN x j)) k
    · rw [if_neg (by decide)]
    · rw [if_pos rfl, f_X10_type_24]
      have e60 : (nI (len + m) ≤ (60 : Int32)) = (len + m ≤ 60) := i_le (b := 60) (by omega) (by omega)
      simp only [i_le (show m < 10000 by omega) (show k < 10000 by omega), gR_69, pc_tape H, gI_22, eL, nI_add, e60]
      by_cases hk : m ≤ k
      · rw [if_pos hk, show m = k by omega, if_pos hA]
      · rw [if_neg hk]
        obtain ⟨a, b⟩ := chN_of x k
        simp only [c_characterAt, bI_ri, c_holds a, bI_eq0, nI_1]
        cases hb : okC (chN x k)
        · rw [if_pos rfl, if_neg (by rw [allP_no (show k < m by omega) hb]; decide)]
        · rw [if_neg (by decide)]
          have ih := c_ty24 H x hm hl eL n (k + 1) (by omega) (by omega)
          rw [allP, hA, hb, Bool.and_self, if_pos rfl] at ih
          exact ih
theorem r_ty12 (x : Int64) {m : Nat} (hm : m ≤ 8) : ∀ (n k : Nat), k ≤ m → m < k + n → f_X11_type_12 n (70, 0) x (nI m) (bI (allP (fun j => okC (chN x j)) k)) (nI k) h = f_X11_type_46 (70, 0) x (nI m) (bI (allP (fun j => okC (chN x j)) m)) h
  | 0, k, h1, h2 => by omega
  | n + 1, k, h1, h2 => by
    rw [f_X11_type_12]
    simp only [i_le (show m < 10000 by omega) (show k < 10000 by omega)]
    by_cases hk : m ≤ k
    · rw [if_pos hk, show m = k by omega]
    · rw [if_neg hk]
      cases hA : allP (fun j => okC (chN x j)) k
      · rw [bI_f, if_pos rfl]
        have : allP (fun j => okC (chN x j)) m = false := by
          have q : ∀ d, allP (fun j => okC (chN x j)) (k + d) = false := fun d => by
            induction d with
            | zero => exact hA
            | succ d ih => rw [← Nat.add_assoc, allP, ih, Bool.false_and]
          have := q (m - k)
          rw [show k + (m - k) = m by omega] at this
          exact this
        rw [this, bI_f]
      · rw [bI_t, if_neg (by decide)]
        obtain ⟨a, b⟩ := chN_of x k
        have ih := r_ty12 x hm n (k + 1) (by omega) (by omega)
        rw [allP, hA, Bool.true_and] at ih
        rw [b, r_canBe a, bI_ri, nI_1]
        exact ih
theorem c_ty87 (H : ShC h) (x : Int64) {m len : Nat} (hm : m ≤ 8) (hl : len + m ≤ 60) : ∀ (n k : Nat) (g : am_H), k ≤ m → m < k + n → Lp (pX [(22, 1)] [14]) h g → m_gi g 22 0 1 = nI (len + k) → (∀ i, m_gi g 14 0 i = if len ≤ i ∧ i < len + k then nI (chN x (i - len)) else m_gi h 14 0 i) →
    ∃ g', f_X10_type_87 n (69, 0) x (nI m) (nI k) g = m_ri g' (nI (len + m)) ∧ Lp (pX [(22, 1)] [14]) h g' ∧ m_gi g' 22 0 1 = nI (len + m) ∧ ∀ i, m_gi g' 14 0 i = if len ≤ i ∧ i < len + m then nI (chN x (i - len)) else m_gi h 14 0 i
  | 0, k, g, h1, h2, L, V1, V2 => by omega
  | n + 1, k, g, h1, h2, L, V1, V2 => by
    have F := L.1
    rw [f_X10_type_87]
    simp only [i_le (show m < 10000 by omega) (show k < 10000 by omega), gR_69, pc_tape (H.frm F), gI_22, V1]
    by_cases hk : m ≤ k
    · have ek : k = m := by omega
      rw [if_pos hk, ek]
      exact ⟨g, rfl, L, by rw [V1, ek], by rw [ek] at V2; exact V2⟩
    · rw [if_neg hk]
      obtain ⟨a, b⟩ := chN_of x k
      have d : m_gi (m_si g 14 0 (len + k) (nI (chN x k))) 22 0 1 = nI (len + k) := by rw [gi_ne (by decide)]; exact V1
      simp only [c_characterAt, bI_ri, ao_22, f_X8_add, gR_22, pc_chars (H.frm F), gI_22, V1, sC_14 (i2c_of _ a).2 (show len + k < 60 by omega), d, pI_22, bV_rt, nI_1]
      refine c_ty87 H x hm hl n (k + 1) _ (by omega) (by omega) ((L.si rfl).si rfl) ?_ (fun i => ?_)
      · rw [gi_eq]; rfl
      · rw [gi_ne (by decide), m_gi_si]
        by_cases e : i = len + k
        · rw [if_pos ⟨rfl, rfl, e⟩, if_pos (by omega), show i - len = k by omega]
        · rw [if_neg (fun z => e z.2.2), V2]
          by_cases e2 : len ≤ i ∧ i < len + k
          · rw [if_pos e2, if_pos (by omega)]
          · rw [if_neg e2, if_neg (by omega)]
theorem Lp.si0 {P : Nat → Nat → Bool} {h g : am_H} (F : Lp P h g) {k j : Nat} {v : Int32} (p : P 70 (j + 1) = false) : Lp P h (m_si g 70 k (j + 1) v) := ⟨F.1.si p, F.2.1, F.2.2.1, F.2.2.2.1, by rw [gi_neI (by omega)]; exact F.2.2.2.2⟩
theorem r_ty83 (G : ShM h) (x : Int64) {m len : Nat} (hm : m ≤ 8) (hl : len + m ≤ 60) : ∀ (n k : Nat) (g : am_H), k ≤ m → m < k + n → Lp (pX [(70, 24)] [50]) h g → m_gi g 70 0 24 = nI (len + k) → (∀ i, m_gi g 50 0 i = if len ≤ i ∧ i < len + k then nI (chN x (i - len)) else m_gi h 50 0 i) →
    ∃ g', f_X11_type_83 n (70, 0) x (nI m) (nI k) g = m_ri g' (nI (len + m)) ∧ Lp (pX [(70, 24)] [50]) h g' ∧ m_gi g' 70 0 24 = nI (len + m) ∧ ∀ i, m_gi g' 50 0 i = if len ≤ i ∧ i < len + m then nI (chN x (i - len)) else m_gi h 50 0 i
  | 0, k, g, h1, h2, L, V1, V2 => by omega
  | n + 1, k, g, h1, h2, L, V1, V2 => by
    have F := L.1
    rw [f_X11_type_83]
    have im : (nI m ≤ nI k) = (m ≤ k) := i_le (show m < 10000 by omega) (show k < 10000 by omega)
    by_cases hk : m ≤ k
    · have ek : k = m := by omega
      rw [if_pos (show nI m ≤ nI k by rw [im]; exact hk), gI_70, V1, ek]
      exact ⟨g, rfl, L, by rw [V1, ek], by rw [ek] at V2; exact V2⟩
    · rw [if_neg (show ¬ nI m ≤ nI k by rw [im]; exact hk)]
      obtain ⟨a, b⟩ := chN_of x k
      have d : m_gi (m_si g 50 0 (len + k) (nI (chN x k))) 70 0 24 = nI (len + k) := by rw [gi_ne (by decide)]; exact V1
      rw [gR_70, pm_25 (G.frm F), gI_70, V1, b, sI_50 (show len + k < 60 by omega), gI_70, d, pI_70, nI_1, nI_1]
      refine r_ty83 G x hm hl n (k + 1) _ (by omega) (by omega) ((L.si rfl).si0 rfl) ?_ (fun i => ?_)
      · rw [gi_eq]; rfl
      · rw [gi_ne (by decide), m_gi_si]
        by_cases e : i = len + k
        · rw [if_pos ⟨rfl, rfl, e⟩, if_pos (by omega), show i - len = k by omega]
        · rw [if_neg (fun z => e z.2.2), V2]
          by_cases e2 : len ≤ i ∧ i < len + k
          · rw [if_pos e2, if_pos (by omega)]
          · rw [if_neg e2, if_neg (by omega)]
theorem c_ty5 (H : ShC h) (x : Int64) {m len : Nat} (hm : m ≤ 8) (hl : len ≤ 60) (eL : m_gi h 22 0 1 = nI len) : f_X10_type_24 5000 (69, 0) x (nI m) 0 h =
    if allP (fun j => okC (chN x j)) m = true then (if len + m ≤ 60 then f_X10_type_87 5000 (69, 0) x (nI m) 0 h else m_ex h 2) else m_ex h 1 := by
  have := c_ty24 H x hm hl eL 5000 0 (by omega) (by omega)
  rw [allP, if_pos rfl, nI_0] at this
  exact this
theorem c_ty6 (H : ShC h) (x : Int64) {m len : Nat} (hm : m ≤ 8) (hl : len + m ≤ 60) (eL : m_gi h 22 0 1 = nI len) :
    ∃ g', f_X10_type_87 5000 (69, 0) x (nI m) 0 h = m_ri g' (nI (len + m)) ∧ Lp (pX [(22, 1)] [14]) h g' ∧ m_gi g' 22 0 1 = nI (len + m) ∧ ∀ i, m_gi g' 14 0 i = if len ≤ i ∧ i < len + m then nI (chN x (i - len)) else m_gi h 14 0 i := by
  have := c_ty87 H x hm hl 5000 0 h (by omega) (by omega) (Lp.refl _ h) eL (fun i => by rw [if_neg (by omega)])
  rw [nI_0] at this
  exact this
theorem r_ty5 (x : Int64) {m : Nat} (hm : m ≤ 8) : f_X11_type_12 5000 (70, 0) x (nI m) 1 0 h = f_X11_type_46 (70, 0) x (nI m) (bI (allP (fun j => okC (chN x j)) m)) h := by
  have := r_ty12 (h := h) x hm 5000 0 (by omega) (by omega)
  rw [allP, nI_0] at this
  exact this
theorem r_ty6 (G : ShM h) (x : Int64) {m len : Nat} (hm : m ≤ 8) (hl : len + m ≤ 60) (eL : m_gi h 70 0 24 = nI len) :
    ∃ g', f_X11_type_83 5000 (70, 0) x (nI m) 0 h = m_ri g' (nI (len + m)) ∧ Lp (pX [(70, 24)] [50]) h g' ∧ m_gi g' 70 0 24 = nI (len + m) ∧ ∀ i, m_gi g' 50 0 i = if len ≤ i ∧ i < len + m then nI (chN x (i - len)) else m_gi h 50 0 i := by
  have := r_ty83 G x hm hl 5000 0 h (by omega) (by omega) (Lp.refl _ h) eL (fun i => by rw [if_neg (by omega)])
  rw [nI_0] at this
  exact this
theorem r_ty0 {x : Int64} {y : Int32} : ∀ n, f_X11_type_12 (n + 1) (70, 0) x y 0 0 h = m_ri (m_si h 70 0 0 1) 0 := fun n => by
  rw [f_X11_type_12]
  simp only [if_true, ite_self, f_X11_type_46, f_X11_type_72, ao_70, r_h1, bI_ri]
theorem r_ty0' {x : Int64} {y : Int32} : f_X11_type_12 5000 (70, 0) x y 0 0 h = m_ri (m_si h 70 0 0 1) 0 := r_ty0 4999
theorem r_tyBad {x : Int64} {y : Int32} (hy : decide (¬ y < (1 : Int32) ∧ ¬ (8 : Int32) < y) = false) : f_X11_type (70, 0) x y h = m_ri (m_si h 70 0 0 1) 0 := by
  rw [f_X11_type, r_in, hy, bI_ri, bI_f, r_ty0']
theorem r_tyIn {x : Int64} {m : Nat} (h1 : 1 ≤ m) (h8 : m ≤ 8) : f_X11_type (70, 0) x (nI m) h = f_X11_type_46 (70, 0) x (nI m) (bI (allP (fun j => okC (chN x j)) m)) h := by
  have e1 : (nI m < (1 : Int32)) = (m < 1) := i_lt (b := 1) (by omega) (by omega)
  have e2 : ((8 : Int32) < nI m) = (8 < m) := i_lt (a := 8) (by omega) (by omega)
  have d : decide (¬ nI m < (1 : Int32) ∧ ¬ (8 : Int32) < nI m) = true := decide_eq_true ⟨by rw [e1]; omega, by rw [e2]; omega⟩
  rw [f_X11_type, r_in, d, bI_ri, bI_t, r_ty5 x h8]
theorem r_tyNo {x : Int64} {y : Int32} : f_X11_type_46 (70, 0) x y 0 h = m_ri (m_si h 70 0 0 1) 0 := by
  rw [f_X11_type_46, if_pos rfl, f_X11_type_72, ao_70, r_h1, bI_ri, if_pos rfl]
theorem r_tyFull {x : Int64} {m len : Nat} (hm : m ≤ 8) (hl : len ≤ 60) (eL : m_gi h 70 0 24 = nI len) (h60 : ¬ len + m ≤ 60) : f_X11_type_46 (70, 0) x (nI m) 1 h = m_ri (m_si h 70 0 0 2) 0 := by
  have e60 : (nI (len + m) ≤ (60 : Int32)) = (len + m ≤ 60) := i_le (b := 60) (by omega) (by omega)
  rw [f_X11_type_46, if_neg (by decide), gI_70, eL, nI_add, if_neg (show ¬ nI (len + m) ≤ (60 : Int32) by rw [e60]; exact h60), f_X11_type_72, ao_70, r_h2, bI_ri, if_pos rfl]
theorem r_tyOk {x : Int64} {m len : Nat} (hm : m ≤ 8) (hl : len + m ≤ 60) (eL : m_gi h 70 0 24 = nI len) {g : am_H} {v : Int32} (r : f_X11_type_83 5000 (70, 0) x (nI m) 0 (m_si h 70 0 0 0) = m_ri g v) : f_X11_type_46 (70, 0) x (nI m) 1 h = m_ri g v := by
  have e60 : (nI (len + m) ≤ (60 : Int32)) = (len + m ≤ 60) := i_le (b := 60) (by omega) (by omega)
  rw [f_X11_type_46, if_neg (by decide), gI_70, eL, nI_add, if_pos (show nI (len + m) ≤ (60 : Int32) by rw [e60]; exact hl), f_X11_type_72, ao_70, r_h0, bI_ri, if_neg (by decide)]
  exact r
theorem c_tyIn {x : Int64} {m : Nat} (h1 : 1 ≤ m) (h8 : m ≤ 8) : f_X10_type (69, 0) x (nI m) h = f_X10_type_24 5000 (69, 0) x (nI m) 0 h := by
  have e1 : (nI m < (1 : Int32)) = (m < 1) := i_lt (b := 1) (by omega) (by omega)
  have e2 : (nI m ≤ (8 : Int32)) = (m ≤ 8) := i_le (b := 8) (by omega) (by omega)
  rw [f_X10_type, if_neg (show ¬ nI m < (1 : Int32) by rw [e1]; omega), if_pos (show nI m ≤ (8 : Int32) by rw [e2]; exact h8)]
theorem c_tyBad {x : Int64} {y : Int32} (hy : decide (¬ y < (1 : Int32) ∧ ¬ (8 : Int32) < y) = false) : f_X10_type (69, 0) x y h = m_ex h 1 := by
  have := of_decide_eq_false hy
  rw [f_X10_type]
  by_cases h1 : y < 1
  · rw [if_pos h1, f_X10_type_11]
  · rw [if_neg h1, if_neg (fun z => this ⟨h1, Int32.not_lt.mpr z⟩), f_X10_type_11]
end Tape
theorem op_type {W Cn Tn Sn Qn : Nat} {h : am_H} (R : RR W Cn Tn Sn Qn h) (x : Int64) (y : Int32) : OpOK h (f_G_type (some (69, 0)) x y (some (71, 0)) h) (f_X11_type (70, 0) x y) vI := by
  have R0 := R
  obtain ⟨H, G, rDay, rBlk, rSam, N, rWa, rWc, rWp, rWl, rWo, rWt, rWf, rWw, rWs, rWk, rCo, rTg, rPa, rTp, rSg, rCm, rSb, rDg, rIv⟩ := R
  obtain ⟨len, hl, t1, t2, t3⟩ := id rTp
  by_cases hy : decide (¬ y < (1 : Int32) ∧ ¬ (8 : Int32) < y) = false
  · exact ok_ex R0 (c := 1) (b := 0) (by decide) (L_type_x1 _ _ (c_tyBad hy)) (r_tyBad hy)
  · have hy2 : ¬ y < (1 : Int32) ∧ ¬ (8 : Int32) < y := of_decide_eq_true (by simpa using hy)
    obtain ⟨m, m1, m2, rfl⟩ : ∃ m, 1 ≤ m ∧ m ≤ 8 ∧ y = nI m := by
      rcases ix_cases y (n := 9) (by omega) with ⟨m, hm, rfl⟩ | hx
      · refine ⟨m, ?_, by omega, rfl⟩
        rcases Nat.eq_zero_or_pos m with z | z
        · subst z; exact absurd (by decide +kernel : nI 0 < (1 : Int32)) hy2.1
        · exact z
      · exfalso
        rcases hx with hx | hx
        · exact hy2.1 (Int32.lt_trans hx (by decide))
        · exact hy2.2 (Int32.lt_of_lt_of_le (by decide +kernel : (8 : Int32) < nI 9) hx)
    cases hA : allP (fun j => okC (chN x j)) m
    · refine ok_ex R0 (c := 1) (b := 0) (by decide) (L_type_x1 _ _ ?_) ?_
      · rw [c_tyIn m1 m2, c_ty5 H x m2 hl t1, if_neg (by rw [hA]; decide)]
      · rw [r_tyIn m1 m2, hA, bI_f, r_tyNo]
    · by_cases h60 : len + m ≤ 60
      · obtain ⟨g1, a1, a2, a3, a4⟩ := c_ty6 H x m2 h60 t1
        have Fs : Frm (pX [(22, 1)] [14]) h (m_si (m_sl g1 71 0 0 (vI (nI (len + m)))) 70 0 0 0) := (a2.1.sl).si rfl
        obtain ⟨h2, b1, b2, b3, b4⟩ := r_ty6 (G.frm Fs) x m2 h60 ((Fs.1 70 0 24 rfl).trans t2)
        have F2 : Frm (pX [(22, 1), (70, 24)] [14, 50]) h h2 := (Fs.up).trans b2.1.up
        refine ok_u (h1 := g1) (b := (nI (len + m))) (h2 := h2) (L_type_ret _ _ ?_) ?_ ?_ ?_ ?_ ?_ ?_ ?_ ?_
        · rw [c_tyIn m1 m2, c_ty5 H x m2 hl t1, if_pos hA, if_pos h60, a1]
        · rw [r_tyIn m1 m2, hA, bI_t]
          exact r_tyOk (h := (m_sl g1 71 0 0 (vI (nI (len + m))))) m2 h60 (show m_gi g1 70 0 24 = nI len from (a2.1.1 70 0 24 rfl).trans t2) b1
        · rw [b2.2.2.2.2]; rfl
        · rw [b2.2.1]; exact gl_eq
        · exact a2.1.g1
        · exact F2.g1
        · rw [b2.2.2.1]; show m_nc g1 ≤ _; rw [a2.2.2.1]; omega
        · rw [b2.2.2.2.1]; show m_ns g1 ≤ _; rw [a2.2.2.2.1]; omega
        · refine ⟨W, Cn, Tn, Sn, Qn, ⟨H.frm F2, G.frm F2, rDay.frm F2, rBlk.frm F2, rSam.frm F2, N.frm F2, rWa.frm F2, rWc.frm F2, rWp.frm F2, rWl.frm F2, rWo.frm F2, rWt.frm F2, rWf.frm F2, rWw.frm F2, rWs.frm F2, rWk.frm F2, rCo.frm F2, rTg.frm F2, rPa.frm F2, ?_, rSg.frm F2, rCm.frm F2, rSb.frm F2, rDg.frm F2, rIv.frm F2⟩⟩
          refine ⟨len + m, h60, (b2.1.1 22 0 1 rfl).trans a3, b3, fun i hi => ?_⟩
          have k14 : m_gi h2 14 0 i = m_gi g1 14 0 i := b2.1.1 14 0 i rfl
          have k50 : m_gi (m_si (m_sl g1 71 0 0 (vI (nI (len + m)))) 70 0 0 0) 50 0 i = m_gi h 50 0 i := Fs.1 50 0 i rfl
          rw [k14, a4, b4, k50]
          by_cases e : len ≤ i ∧ i < len + m
          · rw [if_pos e, if_pos e]
            exact ⟨rfl, _, (chN_of x (i - len)).1, rfl⟩
          · rw [if_neg e, if_neg e]
            exact t3 i (by omega)
      · refine ok_ex R0 (c := 2) (b := 0) (by decide) (L_type_x2 _ _ ?_) ?_
        · rw [c_tyIn m1 m2, c_ty5 H x m2 hl t1, if_pos hA, if_neg h60]
        · rw [r_tyIn m1 m2, hA, bI_t]
          exact r_tyFull m2 hl (show m_gi (m_op (m_th h)) 70 0 24 = nI len from t2) h60
/-! ## what can be the beginning of a query: a state and how many are open -/
def tC (h : am_H) (i : Nat) : Nat := (m_gi h 50 0 i).toNatClampNeg
def bh (s c : Nat) : Nat :=
  if s = 0 then (if c = 33 then 0 else if c = 40 then 0 else if c = 116 then 2 else if c = 97 then 4 else if c = 114 then 7 else 8)
  else if s = 1 then (if c = 38 then 0 else if c = 124 then 0 else if c = 41 then 1 else 8)
  else if s = 2 then (if 48 ≤ c ∧ c ≤ 50 then 3 else 8)
  else if s = 4 then (if c = 48 then 5 else if c = 49 then 6 else 8)
  else if s = 6 then (if 48 ≤ c ∧ c ≤ 49 then 1 else 8)
  else if s = 7 then (if 48 ≤ c ∧ c ≤ 51 then 1 else 8)
  else (if 48 ≤ c ∧ c ≤ 57 then 1 else 8)
def st8 (s : Nat) : Int32 := if s = 8 then -1 else nI s
theorem bh_le (s c : Nat) : bh s c ≤ 8 := by
  unfold bh
  repeat' split
  all_goals omega
theorem fig_iff {c : Nat} : (fig c = false) = ¬ (48 ≤ c ∧ c ≤ 57) := by
  unfold fig
  rw [Bool.and_eq_false_iff, decide_eq_false_iff_not, decide_eq_false_iff_not]
  exact propext (by omega)
theorem r_in' {lo hi c : Nat} {h : am_H} (hc : c < 256) (h1 : lo < 256) (h2 : hi < 256) : f_X11_in (nI c) (nI lo) (nI hi) h = m_ri h (bI (decide (lo ≤ c ∧ c ≤ hi))) := by
  simp only [r_in, i_lt (show c < 10000 by omega) (show lo < 10000 by omega), i_lt (show hi < 10000 by omega) (show c < 10000 by omega)]
  congr 2
  rw [Bool.eq_iff_iff, decide_eq_true_eq, decide_eq_true_eq]
  omega
theorem r_behind {s c : Nat} {h : am_H} (hs : s < 8) (hc : c < 256) : f_X11_behind (nI s) (nI c) h = m_ri h (st8 (bh s c)) := by
  have e0 : (nI s = 0) = (s = 0) := i_eq0 (by omega)
  have e1 : (nI s = (1 : Int32)) = (s = 1) := i_eq (b := 1) (by omega) (by omega)
  have e2 : (nI s = (2 : Int32)) = (s = 2) := i_eq (b := 2) (by omega) (by omega)
  have e3 : (nI s = (3 : Int32)) = (s = 3) := i_eq (b := 3) (by omega) (by omega)
  have e4 : (nI s = (4 : Int32)) = (s = 4) := i_eq (b := 4) (by omega) (by omega)
  have e5 : (nI s = (5 : Int32)) = (s = 5) := i_eq (b := 5) (by omega) (by omega)
  have e6 : (nI s = (6 : Int32)) = (s = 6) := i_eq (b := 6) (by omega) (by omega)
  have e7 : (nI s = (7 : Int32)) = (s = 7) := i_eq (b := 7) (by omega) (by omega)
  have k33 : (nI c = (33 : Int32)) = (c = 33) := iC (b := 33) hc (by omega)
  have k38 : (nI c = (38 : Int32)) = (c = 38) := iC (b := 38) hc (by omega)
  have k40 : (nI c = (40 : Int32)) = (c = 40) := iC (b := 40) hc (by omega)
  have k41 : (nI c = (41 : Int32)) = (c = 41) := iC (b := 41) hc (by omega)
  have k48 : (nI c = (48 : Int32)) = (c = 48) := iC (b := 48) hc (by omega)
  have k49 : (nI c = (49 : Int32)) = (c = 49) := iC (b := 49) hc (by omega)
  have k97 : (nI c = (97 : Int32)) = (c = 97) := iC (b := 97) hc (by omega)
  have k114 : (nI c = (114 : Int32)) = (c = 114) := iC (b := 114) hc (by omega)
  have k116 : (nI c = (116 : Int32)) = (c = 116) := iC (b := 116) hc (by omega)
  have k124 : (nI c = (124 : Int32)) = (c = 124) := iC (b := 124) hc (by omega)
  have i1 : f_X11_in (nI c) 48 50 h = m_ri h (bI (decide (48 ≤ c ∧ c ≤ 50))) := r_in' (lo := 48) (hi := 50) hc (by omega) (by omega)
  have i2 : f_X11_in (nI c) 48 49 h = m_ri h (bI (decide (48 ≤ c ∧ c ≤ 49))) := r_in' (lo := 48) (hi := 49) hc (by omega) (by omega)
  have i3 : f_X11_in (nI c) 48 51 h = m_ri h (bI (decide (48 ≤ c ∧ c ≤ 51))) := r_in' (lo := 48) (hi := 51) hc (by omega) (by omega)
  simp only [f_X11_behind_211, f_X11_behind_199, f_X11_behind_198, f_X11_behind_181, f_X11_behind_164, f_X11_behind_141, f_X11_behind_124, f_X11_behind_109, f_X11_behind_96, f_X11_behind_60, f_X11_behind, e0, e1, e2, e3, e4, e5, e6, e7, k33, k38, k40, k41, k48, k49, k97, k114, k116, k124, i1, i2, i3, r_isFigure hc, bI_ri, bI_eq0, fig_iff, decide_eq_false_iff_not]
  have st : st8 0 = 0 ∧ st8 1 = 1 ∧ st8 2 = 2 ∧ st8 3 = 3 ∧ st8 4 = 4 ∧ st8 5 = 5 ∧ st8 6 = 6 ∧ st8 7 = 7 ∧ st8 8 = -1 := by decide +kernel
  obtain ⟨t0, t1, t2, t3, t4, t5, t6, t7, t8⟩ := st
  rcases (show s = 0 ∨ s = 1 ∨ s = 2 ∨ s = 3 ∨ s = 4 ∨ s = 5 ∨ s = 6 ∨ s = 7 by omega) with e | e | e | e | e | e | e | e <;> subst e <;> simp (decide := true) only [bh, if_true, if_false] <;> repeat' split
  all_goals first | rfl | (exfalso; omega) | simp only [t0, t1, t2, t3, t4, t5, t6, t7, t8]
def okT (s o c : Nat) : Bool := !decide (bh s c = 8) && !(decide (c = 41) && decide (o = 0))
def nxo (o c : Nat) : Nat := if c = 40 then o + 1 else if c = 41 then o - 1 else o
/-- the place of the first fault, or none -/
def ft (T : Nat → Nat) : Nat → Nat → Nat → Nat → Int32
  | 0, k, s, o => if s = 1 ∧ o = 0 then -1 else nI k
  | n + 1, k, s, o => if okT s o (T k) then ft T n (k + 1) (bh s (T k)) (nxo o (T k)) else nI k
def vd (T : Nat → Nat) : Nat → Nat → Nat → Nat → Bool
  | 0, _, s, o => decide (s = 1) && decide (o = 0)
  | n + 1, k, s, o => okT s o (T k) && vd T n (k + 1) (bh s (T k)) (nxo o (T k))
theorem ft_vd {T : Nat → Nat} : ∀ {n k s o : Nat}, n + k < 10000 → ((ft T n k s o = -1) = (vd T n k s o = true))
  | 0, k, s, o, h => by
    rw [ft, vd, Bool.and_eq_true, decide_eq_true_eq, decide_eq_true_eq]
    by_cases e : s = 1 ∧ o = 0
    · rw [if_pos e]; exact propext ⟨fun _ => e, fun _ => rfl⟩
    · rw [if_neg e]; exact propext ⟨fun z => absurd z (nI_m1 (by omega)), fun z => absurd z e⟩
  | n + 1, k, s, o, h => by
    rw [ft, vd]
    cases okT s o (T k)
    · rw [if_neg (by decide), Bool.false_and]
      exact propext ⟨fun z => absurd z (nI_m1 (by omega)), fun z => by cases z⟩
    · rw [if_pos rfl, Bool.true_and, ft_vd (by omega)]
section Fault
variable {h : am_H} {len : Nat}
/-- the tape of the two -/
def TpP (h : am_H) (len : Nat) : Prop := len ≤ 60 ∧ m_gi h 22 0 1 = nI len ∧ m_gi h 70 0 24 = nI len ∧ ∀ i : Nat, i < len → m_gi h 14 0 i = nI (tC h i) ∧ m_gi h 50 0 i = nI (tC h i) ∧ tC h i < 256
theorem tp_of (t : RTp h) : ∃ len, TpP h len := by
  obtain ⟨n, a, b, c, d⟩ := t
  refine ⟨n, a, b, c, fun i hi => ?_⟩
  obtain ⟨d1, c, d2, d3⟩ := d i hi
  have : tC h i = c := by unfold tC; rw [d3, nI_clamp (by omega)]
  rw [this, d1, d3]
  exact ⟨rfl, rfl, d2⟩
theorem TpP.frm {P : Nat → Nat → Bool} {g : am_H} (F : Frm P h g) (t : TpP h len) (p1 : P 22 1 = true := by rfl) (p2 : P 70 24 = true := by rfl) (p3 : ∀ j, P 14 j = true := by intro _; rfl) (p4 : ∀ j, P 50 j = true := by intro _; rfl) : TpP g len := by
  have e : ∀ i, tC g i = tC h i := fun i => by unfold tC; rw [F.1 50 0 i (p4 i)]
  exact ⟨t.1, (F.1 22 0 1 p1).trans t.2.1, (F.1 70 0 24 p2).trans t.2.2.1, fun i hi => by rw [F.1 14 0 i (p3 i), F.1 50 0 i (p4 i), e]; exact t.2.2.2 i hi⟩
theorem r_ft6 (G : ShM h) (t : TpP h len) : ∀ (m d k s o : Nat), k + d = len → s < 8 → o ≤ k → d < m →
    f_X11_faultOf_6 m (70, 0) (nI s) (nI o) (nI k) h = m_ri h (ft (tC h) d k s o)
  | 0, d, k, s, o, h1, h2, h3, h4 => by omega
  | m + 1, d, k, s, o, h1, h2, h3, h4 => by
    have hl := t.1
    rw [f_X11_faultOf_6]
    have s1 : (nI s = (1 : Int32)) = (s = 1) := i_eq (b := 1) (by omega) (by omega)
    simp only [gI_70, t.2.2.1, i_le (show len < 10000 by omega) (show k < 10000 by omega), s1, i_eq0 (show o < 10000 by omega), f_X11_faultOf_93, f_X11_faultOf_89]
    cases d with
    | zero =>
      rw [if_pos (show len ≤ k by omega), ft]
      by_cases e1 : s = 1
      · by_cases e2 : o = 0
        · rw [if_pos e1, if_pos e2, if_pos ⟨e1, e2⟩]
        · rw [if_pos e1, if_neg e2, if_neg (fun z => e2 z.2), show len = k by omega]
      · rw [if_neg e1, if_neg (fun z => e1 z.1), show len = k by omega]
    | succ d =>
      rw [if_neg (show ¬ len ≤ k by omega), ft]
      obtain ⟨_, q1, q2⟩ := t.2.2.2 k (by omega)
      have k40 : (nI (tC h k) = (40 : Int32)) = (tC h k = 40) := iC (b := 40) q2 (by omega)
      have k41 : (nI (tC h k) = (41 : Int32)) = (tC h k = 41) := iC (b := 41) q2 (by omega)
      simp only [gR_70, pm_25 G, aI_50 (show k < 60 by omega), q1, r_behind h2 q2, bI_ri, k40, k41, f_X11_faultOf_57, f_X11_faultOf_68, nI_1]
      have b8 := bh_le s (tC h k)
      have hst : (st8 (bh s (tC h k)) = -1) = (bh s (tC h k) = 8) := by
        unfold st8
        by_cases e : bh s (tC h k) = 8
        · rw [if_pos e]; exact propext ⟨fun _ => e, fun _ => rfl⟩
        · rw [if_neg e]; exact propext ⟨fun z => absurd z (nI_m1 (by omega)), fun z => absurd z e⟩
      simp only [hst]
      unfold okT nxo
      by_cases e8 : bh s (tC h k) = 8
      · simp only [e8, if_true, decide_true, Bool.not_true, Bool.false_and, Bool.false_eq_true, if_false, ite_self]
      · have sb : st8 (bh s (tC h k)) = nI (bh s (tC h k)) := by unfold st8; rw [if_neg e8]
        simp only [e8, if_false, decide_false, Bool.not_false, Bool.true_and, sb]
        by_cases e40 : tC h k = 40
        · have z : (0 : Int32) ≤ nI (o + 1) := nI_pos' (by omega)
          have n41 : ¬ tC h k = 41 := by omega
          rw [if_pos e40, if_pos z]
          simp only [n41, decide_false, Bool.false_and, Bool.not_false, if_true, if_pos e40]
          exact r_ft6 G t m d (k + 1) _ (o + 1) (by omega) (by omega) (by omega) (by omega)
        · rw [if_neg e40]
          by_cases e41 : tC h k = 41
          · rw [if_pos e41]
            by_cases eo : o = 0
            · subst eo
              have z : ¬ (0 : Int32) ≤ nI 0 + -1 := by decide +kernel
              rw [if_neg z]
              simp only [e41, decide_true, Bool.and_self, Bool.not_true, Bool.false_eq_true, if_false]
            · obtain ⟨o', rfl⟩ : ∃ o', o = o' + 1 := ⟨o - 1, by omega⟩
              have p : nI (o' + 1) + (-1 : Int32) = nI o' := by
                have := nI_pred o'
                rw [← this, Int32.sub_eq_add_neg]
              have z : (0 : Int32) ≤ nI o' := nI_pos' (by omega)
              rw [p, if_pos z]
              simp only [eo, decide_false, Bool.and_false, Bool.not_false, if_true, if_neg e40, if_pos e41, Nat.add_sub_cancel]
              exact r_ft6 G t m d (k + 1) _ o' (by omega) (by omega) (by omega) (by omega)
          · have z : (0 : Int32) ≤ nI o + 0 := by rw [show nI o + (0 : Int32) = nI (o + 0) from nI_add o 0]; exact nI_pos' (by omega)
            rw [if_neg e41, if_pos z]
            simp only [e41, decide_false, Bool.false_and, Bool.not_false, if_true, if_neg e40, if_false]
            have := r_ft6 G t m d (k + 1) (bh s (tC h k)) o (by omega) (by omega) (by omega) (by omega)
            rw [show nI o + (0 : Int32) = nI o from nI_add o 0]
            exact this
theorem r_faultOf (G : ShM h) (t : TpP h len) : f_X11_faultOf (70, 0) h = m_ri h (ft (tC h) len 0 0 0) := by
  have := r_ft6 G t 5000 len 0 0 0 (by omega) (by omega) (by omega) (by have := t.1; omega)
  rw [nI_0] at this
  rw [f_X11_faultOf]
  exact this
end Fault
/-! ## the scanner -/
def fwN (s : Nat) : Nat := if s = 2 ∨ s = 4 then 2 else if s = 3 ∨ s = 5 ∨ s = 6 ∨ s = 7 then 1 else 0
def NB (s l x : Nat) : Prop := (s = 2 ∧ l = 116 ∧ x = 0) ∨ (s = 3 ∧ l = 116 ∧ x ≤ 2) ∨ (s = 4 ∧ l = 97 ∧ x = 0) ∨ (s = 5 ∧ l = 97 ∧ x = 0) ∨ (s = 6 ∧ l = 97 ∧ x = 1) ∨ (s = 7 ∧ l = 114 ∧ x = 0)
def ScP (g : am_H) (s o l x : Nat) : Prop := m_gi g 15 0 0 = nI o ∧ m_gi g 15 0 1 = bI (decide (s = 0)) ∧ m_gi g 15 0 2 = nI (fwN s) ∧ (2 ≤ s → m_gi g 15 0 3 = nI l ∧ m_gi g 15 0 4 = nI x ∧ NB s l x)
def grN (l : Nat) : Nat := if l = 116 then 29 else if l = 97 then 11 else 3
theorem nI_sub {a b : Nat} (h : b ≤ a) : nI a - nI b = nI (a - b) := by
  have : nI a = nI (a - b) + nI b := by rw [nI_add, Nat.sub_add_cancel h]
  rw [this, Int32.add_sub_cancel]
section Scan
variable {g : am_H} {c s o l x : Nat}
theorem c_takesItem (hc : c < 256) : f_X4_takesItem (15, 0) (nI c) g = if c = 33 then m_ri g 1 else if c = 40 then m_ri (m_si g 15 0 0 (m_gi g 15 0 0 + 1)) 1 else m_ri (m_si (m_si (m_si (m_si g 15 0 3 (nI c)) 15 0 4 0) 15 0 2 (nI (fgs c))) 15 0 1 0) (bI (decide (0 < fgs c))) := by
  have k33 : (nI c = (33 : Int32)) = (c = 33) := iC (b := 33) hc (by omega)
  have k40 : (nI c = (40 : Int32)) = (c = 40) := iC (b := 40) hc (by omega)
  have f2 : fgs c ≤ 2 := by unfold fgs; repeat' split
                            all_goals omega
  have z : (nI (fgs c) ≤ (0 : Int32)) = (fgs c ≤ 0) := i_le (b := 0) (by omega) (by omega)
  have d2 : ∀ g : am_H, m_gi (m_si (m_si g 15 0 2 (nI (fgs c))) 15 0 1 0) 15 0 2 = nI (fgs c) := fun g => by rw [gi_neI (by decide), gi_eq]
  simp only [f_X4_takesItem_61, f_X4_takesItem, k33, k40, gI_15, pI_15, pC_15 (i2c_of c hc).2, pZ_15 nz_0, c_figuresOf hc, bI_ri, rz_1, rz_0, d2, z]
  by_cases h1 : c = 33
  · rw [if_pos h1, if_pos h1]
  · rw [if_neg h1, if_neg h1]
    by_cases h2 : c = 40
    · rw [if_pos h2, if_pos h2]
    · rw [if_neg h2, if_neg h2]
      by_cases h3 : fgs c ≤ 0
      · rw [if_pos h3, decide_eq_false (by omega), bI_f]
      · rw [if_neg h3, decide_eq_true (by omega), bI_t]
theorem c_takesLink (hc : c < 256) : f_X4_takesLink (15, 0) (nI c) g = if c = 41 then m_ri (m_si g 15 0 0 (m_gi g 15 0 0 - 1)) (bI (!decide (m_gi g 15 0 0 - 1 < 0))) else m_ri (m_si g 15 0 1 1) (bI (decide (c = 38) || decide (c = 124))) := by
  have k41 : (nI c = (41 : Int32)) = (c = 41) := iC (b := 41) hc (by omega)
  have k38 : (nI c = (38 : Int32)) = (c = 38) := iC (b := 38) hc (by omega)
  have k124 : (nI c = (124 : Int32)) = (c = 124) := iC (b := 124) hc (by omega)
  simp only [f_X4_takesLink_51, f_X4_takesLink_46, f_X4_takesLink_28, f_X4_takesLink, k41, k38, k124, gI_15, pI_15, pZ_15 nz_1, gi_eq, rz_1, rz_0]
  by_cases h1 : c = 41
  · rw [if_pos h1, if_pos h1]
    by_cases h2 : m_gi g 15 0 0 - 1 < 0
    · rw [if_pos h2, decide_eq_true h2]; rfl
    · rw [if_neg h2, decide_eq_false h2]; rfl
  · rw [if_neg h1, if_neg h1]
    by_cases h2 : c = 38
    · rw [if_pos h2, decide_eq_true h2]; rfl
    · rw [if_neg h2, decide_eq_false h2]
      by_cases h3 : c = 124
      · rw [if_pos h3, decide_eq_true h3]; rfl
      · rw [if_neg h3, decide_eq_false h3]; rfl
theorem c_greatestOf (hl : l < 256) {h : am_H} : f_X4_greatestOf (nI l) h = m_ri h (nI (grN l)) := by
  have k1 : (nI l = (116 : Int32)) = (l = 116) := iC (b := 116) hl (by omega)
  have k2 : (nI l = (97 : Int32)) = (l = 97) := iC (b := 97) hl (by omega)
  simp only [f_X4_greatestOf_21, f_X4_greatestOf, k1, k2, grN]
  by_cases h1 : l = 116
  · rw [if_pos h1, if_pos h1]; rfl
  · rw [if_neg h1, if_neg h1]
    by_cases h2 : l = 97
    · rw [if_pos h2, if_pos h2]; rfl
    · rw [if_neg h2, if_neg h2]; rfl
theorem c_takesFigure {fw : Nat} (e2 : m_gi g 15 0 2 = nI (fw + 1)) (e3 : m_gi g 15 0 3 = nI l) (e4 : m_gi g 15 0 4 = nI x) (hx : x ≤ 2) (hfw : fw ≤ 1) (hl : l < 256) (hc : c < 256) : f_X4_takesFigure (15, 0) (nI c) g =
    if fig c = true then m_ri (m_si (m_si g 15 0 4 (nI (10 * x + (c - 48)))) 15 0 2 (nI fw)) (bI (decide ((if fw = 0 then 10 * x + (c - 48) else (10 * x + (c - 48)) * 10) ≤ grN l))) else m_ri g 0 := by
  have g29 : grN l ≤ 29 := by unfold grN; repeat' split
                              all_goals omega
  simp only [f_X4_takesFigure_73, f_X4_takesFigure_56, f_X4_takesFigure, c_isFigure hc, bI_ri, bI_eq0, gI_15, pI_15, rz_0, rz_1, e4]
  cases hf : fig c
  · rfl
  · have h48 : 48 ≤ c ∧ c ≤ 57 := by
      unfold fig at hf
      rw [Bool.and_eq_true, decide_eq_true_eq, decide_eq_true_eq] at hf
      exact hf
    have v : nI x * (10 : Int32) + (nI c - (48 : Int32)) = nI (10 * x + (c - 48)) := by
      show nI x * nI 10 + (nI c - nI 48) = _
      rw [nI_sub h48.1, pk_mul, nI_add, Nat.mul_comm]
    have v10 : nI (10 * x + (c - 48)) * (10 : Int32) = nI ((10 * x + (c - 48)) * 10) := pk_mul _ 10
    have d2 : m_gi (m_si g 15 0 4 (nI (10 * x + (c - 48)))) 15 0 2 = nI (fw + 1) := by rw [gi_neI (by decide), e2]
    have d3 : ∀ v, m_gi (m_si (m_si g 15 0 4 (nI (10 * x + (c - 48)))) 15 0 2 v) 15 0 3 = nI l := fun v => by rw [gi_neI (by decide), gi_neI (by decide), e3]
    have d4 : ∀ v, m_gi (m_si (m_si g 15 0 4 (nI (10 * x + (c - 48)))) 15 0 2 v) 15 0 4 = nI (10 * x + (c - 48)) := fun v => by rw [gi_neI (by decide), gi_eq]
    have zf : (nI fw ≤ (0 : Int32)) = (fw ≤ 0) := i_le (b := 0) (by omega) (by omega)
    rw [if_neg (by decide), if_pos rfl, v, d2, nI_pred]
    simp only [gi_eq, d3, d4, v10, zf, c_greatestOf hl, bI_ri]
    by_cases h0 : fw = 0
    · have l1 : (nI (grN l) < nI (10 * x + (c - 48))) = (grN l < 10 * x + (c - 48)) := i_lt (by omega) (by omega)
      rw [if_pos (show fw ≤ 0 by omega), if_pos h0]
      simp only [l1]
      by_cases q : grN l < 10 * x + (c - 48)
      · rw [if_pos q, decide_eq_false (by omega), bI_f]
      · rw [if_neg q, decide_eq_true (by omega), bI_t]
    · have l1 : (nI (grN l) < nI ((10 * x + (c - 48)) * 10)) = (grN l < (10 * x + (c - 48)) * 10) := i_lt (by omega) (by omega)
      rw [if_neg (show ¬ fw ≤ 0 by omega), if_neg h0]
      simp only [l1]
      by_cases q : grN l < (10 * x + (c - 48)) * 10
      · rw [if_pos q, decide_eq_false (by omega), bI_f]
      · rw [if_neg q, decide_eq_true (by omega), bI_t]
theorem le00 : nI 0 ≤ (0 : Int32) := by decide +kernel
theorem c_takes0 (S : ScP g 0 o l x) (hc : c < 256) : ∃ g', f_X4_takes (15, 0) (nI c) g = m_ri g' (bI (okT 0 o c)) ∧ Lp (pX [] [15]) g g' ∧ (okT 0 o c = true → ScP g' (bh 0 c) (nxo o c) c 0) := by
  obtain ⟨s0, s1, s2, _⟩ := S
  have w : f_X4_takes (15, 0) (nI c) g = m_bI (f_X4_takesItem (15, 0) (nI c) g) fun h7 v7 => m_rz h7 v7 := by
    rw [f_X4_takes, gI_15, s2, show fwN 0 = 0 from rfl, if_pos le00, gI_15, s1, if_neg (show ¬ bI (decide ((0 : Nat) = 0)) = 0 by decide), ao_15]
    rfl
  rw [w, c_takesItem hc]
  by_cases h1 : c = 33
  · subst h1
    exact ⟨g, rfl, Lp.refl _ g, fun _ => ⟨s0, s1, s2, fun z => absurd z (by decide)⟩⟩
  · rw [if_neg h1]
    by_cases h2 : c = 40
    · subst h2
      refine ⟨_, rfl, (Lp.refl _ g).si rfl, fun _ => ⟨?_, ?_, ?_, fun z => absurd z (by decide)⟩⟩
      · rw [gi_eq, s0, nI_1]; rfl
      · rw [gi_neI (by decide), s1]; rfl
      · rw [gi_neI (by decide), s2]; rfl
    · rw [if_neg h2, bI_ri, rz_bI]
      have L4 : Lp (pX [] [15]) g (m_si (m_si (m_si (m_si g 15 0 3 (nI c)) 15 0 4 0) 15 0 2 (nI (fgs c))) 15 0 1 0) := ((((Lp.refl _ g).si rfl).si rfl).si rfl).si rfl
      have r0 : ∀ {v1 v2 v3 v4}, m_gi (m_si (m_si (m_si (m_si g 15 0 3 v1) 15 0 4 v2) 15 0 2 v3) 15 0 1 v4) 15 0 0 = m_gi g 15 0 0 := fun {v1 v2 v3 v4} => by
        rw [gi_neI (by decide), gi_neI (by decide), gi_neI (by decide), gi_neI (by decide)]
      have r2 : ∀ {v1 v2 v3 v4}, m_gi (m_si (m_si (m_si (m_si g 15 0 3 v1) 15 0 4 v2) 15 0 2 v3) 15 0 1 v4) 15 0 2 = v3 := fun {v1 v2 v3 v4} => by
        rw [gi_neI (by decide), gi_eq]
      have r3 : ∀ {v1 v2 v3 v4}, m_gi (m_si (m_si (m_si (m_si g 15 0 3 v1) 15 0 4 v2) 15 0 2 v3) 15 0 1 v4) 15 0 3 = v1 := fun {v1 v2 v3 v4} => by
        rw [gi_neI (by decide), gi_neI (by decide), gi_neI (by decide), gi_eq]
      have r4 : ∀ {v1 v2 v3 v4}, m_gi (m_si (m_si (m_si (m_si g 15 0 3 v1) 15 0 4 v2) 15 0 2 v3) 15 0 1 v4) 15 0 4 = v2 := fun {v1 v2 v3 v4} => by
        rw [gi_neI (by decide), gi_neI (by decide), gi_eq]
      by_cases h3 : c = 116
      · subst h3
        exact ⟨_, rfl, L4, fun _ => ⟨r0.trans s0, gi_eq, r2, fun _ => ⟨r3, r4, Or.inl ⟨rfl, rfl, rfl⟩⟩⟩⟩
      · by_cases h4 : c = 97
        · subst h4
          exact ⟨_, rfl, L4, fun _ => ⟨r0.trans s0, gi_eq, r2, fun _ => ⟨r3, r4, Or.inr (Or.inr (Or.inl ⟨rfl, rfl, rfl⟩))⟩⟩⟩
        · by_cases h5 : c = 114
          · subst h5
            exact ⟨_, rfl, L4, fun _ => ⟨r0.trans s0, gi_eq, r2, fun _ => ⟨r3, r4, Or.inr (Or.inr (Or.inr (Or.inr (Or.inr ⟨rfl, rfl, rfl⟩))))⟩⟩⟩
          · have f0 : fgs c = 0 := by unfold fgs; rw [if_neg h3, if_neg h4, if_neg h5]
            have b8 : bh 0 c = 8 := by unfold bh; rw [if_pos rfl, if_neg h1, if_neg h2, if_neg h3, if_neg h4, if_neg h5]
            have ok : okT 0 o c = false := by unfold okT; rw [b8]; rfl
            rw [ok]
            refine ⟨_, ?_, L4, fun z => by cases z⟩
            rw [f0]; rfl
theorem c_takes1 (S : ScP g 1 o l x) (hc : c < 256) (ho : o ≤ 60) : ∃ g', f_X4_takes (15, 0) (nI c) g = m_ri g' (bI (okT 1 o c)) ∧ Lp (pX [] [15]) g g' ∧ (okT 1 o c = true → ScP g' (bh 1 c) (nxo o c) l x) := by
  obtain ⟨s0, s1, s2, _⟩ := S
  have w : f_X4_takes (15, 0) (nI c) g = m_bI (f_X4_takesLink (15, 0) (nI c) g) fun h7 v7 => m_rz h7 v7 := by
    rw [f_X4_takes, gI_15, s2, show fwN 1 = 0 from rfl, if_pos le00, gI_15, s1, if_pos (show bI (decide ((1 : Nat) = 0)) = 0 by decide), ao_15]
    rfl
  rw [w, c_takesLink hc]
  by_cases h1 : c = 41
  · subst h1
    rw [if_pos rfl, bI_ri, rz_bI, s0]
    rcases Nat.eq_zero_or_pos o with z | z
    · subst z
      refine ⟨m_si g 15 0 0 (nI 0 - 1), ?_, (Lp.refl _ g).si rfl, fun z => absurd z (by decide)⟩
      rw [decide_eq_true (show nI 0 - (1 : Int32) < 0 by decide +kernel)]; rfl
    · obtain ⟨o', rfl⟩ : ∃ o', o = o' + 1 := ⟨o - 1, by omega⟩
      rw [nI_pred, decide_eq_false (nI_pos (show o' < 2 ^ 31 by omega))]
      have ok : okT 1 (o' + 1) 41 = true := by
        unfold okT
        rw [decide_eq_false (show ¬ o' + 1 = 0 by omega)]; rfl
      rw [ok]
      refine ⟨_, rfl, (Lp.refl _ g).si rfl, fun _ => ⟨?_, ?_, ?_, fun z => absurd z (by decide)⟩⟩
      · rw [gi_eq]; rfl
      · rw [gi_neI (by decide), s1]; rfl
      · rw [gi_neI (by decide), s2]; rfl
  · rw [if_neg h1, bI_ri, rz_bI]
    have fin : bh 1 c = 0 → nxo o c = o → ScP (m_si g 15 0 1 1) (bh 1 c) (nxo o c) l x := fun e1 e2 => by
      rw [e1, e2]
      exact ⟨by rw [gi_neI (by decide), s0], gi_eq, by rw [gi_neI (by decide), s2]; rfl, fun z => absurd z (by decide)⟩
    by_cases h2 : c = 38
    · subst h2
      exact ⟨_, rfl, (Lp.refl _ g).si rfl, fun _ => fin rfl rfl⟩
    · by_cases h3 : c = 124
      · subst h3
        exact ⟨_, rfl, (Lp.refl _ g).si rfl, fun _ => fin rfl rfl⟩
      · have b8 : bh 1 c = 8 := by unfold bh; rw [if_neg (by decide), if_pos rfl, if_neg h2, if_neg h3, if_neg h1]
        have ok : okT 1 o c = false := by unfold okT; rw [b8]; rfl
        rw [ok, decide_eq_false h2, decide_eq_false h3]
        exact ⟨_, rfl, (Lp.refl _ g).si rfl, fun z => by cases z⟩
theorem c_takes2 (S : ScP g s o l x) (h2 : 2 ≤ s) (hc : c < 256) : ∃ g', f_X4_takes (15, 0) (nI c) g = m_ri g' (bI (okT s o c)) ∧ Lp (pX [] [15]) g g' ∧ (okT s o c = true → ScP g' (bh s c) (nxo o c) l (10 * x + (c - 48)) ∧ m_gi g' 15 0 3 = nI l ∧ m_gi g' 15 0 4 = nI (10 * x + (c - 48)) ∧ fig c = true) := by
  obtain ⟨s0, s1, s2, s3⟩ := S
  obtain ⟨s3, s4, nb⟩ := s3 h2
  obtain ⟨fw, efw, hfw⟩ : ∃ fw, fwN s = fw + 1 ∧ fw ≤ 1 := by
    rcases nb with ⟨e, -, -⟩ | ⟨e, -, -⟩ | ⟨e, -, -⟩ | ⟨e, -, -⟩ | ⟨e, -, -⟩ | ⟨e, -, -⟩ <;> subst e
    · exact ⟨1, rfl, by omega⟩
    · exact ⟨0, rfl, by omega⟩
    · exact ⟨1, rfl, by omega⟩
    · exact ⟨0, rfl, by omega⟩
    · exact ⟨0, rfl, by omega⟩
    · exact ⟨0, rfl, by omega⟩
  have hx : x ≤ 2 := by rcases nb with ⟨-, -, e⟩ | ⟨-, -, e⟩ | ⟨-, -, e⟩ | ⟨-, -, e⟩ | ⟨-, -, e⟩ | ⟨-, -, e⟩ <;> omega
  have hl : l < 256 := by rcases nb with ⟨-, e, -⟩ | ⟨-, e, -⟩ | ⟨-, e, -⟩ | ⟨-, e, -⟩ | ⟨-, e, -⟩ | ⟨-, e, -⟩ <;> omega
  have zf : ¬ nI (fw + 1) ≤ (0 : Int32) := fun z => by
    rw [show (nI (fw + 1) ≤ (0 : Int32)) = (fw + 1 ≤ 0) from i_le (b := 0) (by omega) (by omega)] at z; omega
  have w : f_X4_takes (15, 0) (nI c) g = m_bI (f_X4_takesFigure (15, 0) (nI c) g) fun h7 v7 => m_rz h7 v7 := by
    rw [f_X4_takes, gI_15, s2, efw, if_neg zf, ao_15]
  rw [w, c_takesFigure (s2.trans (by rw [efw])) s3 s4 hx hfw hl hc]
  have sn : s ≠ 0 ∧ s ≠ 1 := by omega
  cases hf : fig c
  · rw [if_neg (by decide), bI_ri, rz_0]
    have h48 : ¬ (48 ≤ c ∧ c ≤ 57) := by rw [fig_iff] at hf; exact hf
    have b8 : bh s c = 8 := by
      unfold bh
      rcases nb with ⟨e, -, -⟩ | ⟨e, -, -⟩ | ⟨e, -, -⟩ | ⟨e, -, -⟩ | ⟨e, -, -⟩ | ⟨e, -, -⟩ <;> subst e <;> simp (decide := true) only [if_true, if_false] <;> repeat' split
      all_goals first | rfl | (exfalso; omega)
    have ok : okT s o c = false := by unfold okT; rw [b8]; rfl
    rw [ok]
    exact ⟨g, rfl, Lp.refl _ g, fun z => by cases z⟩
  · have h48 : 48 ≤ c ∧ c ≤ 57 := by
      unfold fig at hf
      rw [Bool.and_eq_true, decide_eq_true_eq, decide_eq_true_eq] at hf
      exact hf
    rw [if_pos rfl, bI_ri, rz_bI]
    have key : decide ((if fw = 0 then 10 * x + (c - 48) else (10 * x + (c - 48)) * 10) ≤ grN l) = okT s o c ∧ (okT s o c = true → fwN (bh s c) = fw ∧ ¬ bh s c = 0 ∧ (2 ≤ bh s c → NB (bh s c) l (10 * x + (c - 48)))) := by
      have n41 : decide (c = 41) = false := decide_eq_false (by omega)
      unfold okT
      rw [n41, Bool.false_and, Bool.not_false, Bool.and_true]
      rcases nb with ⟨e, e1, e2⟩ | ⟨e, e1, e2⟩ | ⟨e, e1, e2⟩ | ⟨e, e1, e2⟩ | ⟨e, e1, e2⟩ | ⟨e, e1, e2⟩ <;> subst e <;> subst e1
      · have ef : fw = 1 := by have : fwN 2 = 2 := rfl; omega
        subst ef; subst e2
        simp (decide := true) only [bh, grN, if_true, if_false]
        by_cases q : 48 ≤ c ∧ c ≤ 50
        · rw [if_pos q, decide_eq_true (by omega)]
          exact ⟨rfl, fun _ => ⟨rfl, by decide, fun _ => Or.inr (Or.inl ⟨rfl, rfl, by omega⟩)⟩⟩
        · rw [if_neg q, decide_eq_false (by omega)]
          exact ⟨rfl, fun z => by cases z⟩
      · have ef : fw = 0 := by have : fwN 3 = 1 := rfl; omega
        subst ef
        simp (decide := true) only [bh, grN, if_true, if_false]
        rw [if_pos h48, decide_eq_true (by omega)]
        exact ⟨rfl, fun _ => ⟨rfl, by decide, fun z => absurd z (by decide)⟩⟩
      · have ef : fw = 1 := by have : fwN 4 = 2 := rfl; omega
        subst ef; subst e2
        simp (decide := true) only [bh, grN, if_true, if_false]
        by_cases q : c = 48
        · subst q
          exact ⟨rfl, fun _ => ⟨rfl, by decide, fun _ => Or.inr (Or.inr (Or.inr (Or.inl ⟨rfl, rfl, rfl⟩)))⟩⟩
        · by_cases q2 : c = 49
          · subst q2
            exact ⟨rfl, fun _ => ⟨rfl, by decide, fun _ => Or.inr (Or.inr (Or.inr (Or.inr (Or.inl ⟨rfl, rfl, rfl⟩))))⟩⟩
          · rw [if_neg q, if_neg q2, decide_eq_false (by omega)]
            exact ⟨rfl, fun z => by cases z⟩
      · have ef : fw = 0 := by have : fwN 5 = 1 := rfl; omega
        subst ef; subst e2
        simp (decide := true) only [bh, grN, if_true, if_false]
        rw [if_pos h48, decide_eq_true (by omega)]
        exact ⟨rfl, fun _ => ⟨rfl, by decide, fun z => absurd z (by decide)⟩⟩
      · have ef : fw = 0 := by have : fwN 6 = 1 := rfl; omega
        subst ef; subst e2
        simp (decide := true) only [bh, grN, if_true, if_false]
        by_cases q : 48 ≤ c ∧ c ≤ 49
        · rw [if_pos q, decide_eq_true (by omega)]
          exact ⟨rfl, fun _ => ⟨rfl, by decide, fun z => absurd z (by decide)⟩⟩
        · rw [if_neg q, decide_eq_false (by omega)]
          exact ⟨rfl, fun z => by cases z⟩
      · have ef : fw = 0 := by have : fwN 7 = 1 := rfl; omega
        subst ef; subst e2
        simp (decide := true) only [bh, grN, if_true, if_false]
        by_cases q : 48 ≤ c ∧ c ≤ 51
        · rw [if_pos q, decide_eq_true (by omega)]
          exact ⟨rfl, fun _ => ⟨rfl, by decide, fun z => absurd z (by decide)⟩⟩
        · rw [if_neg q, decide_eq_false (by omega)]
          exact ⟨rfl, fun z => by cases z⟩
    rw [key.1]
    have nx : nxo o c = o := by unfold nxo; rw [if_neg (by omega), if_neg (by omega)]
    refine ⟨_, rfl, ((Lp.refl _ g).si rfl).si rfl, fun ok => ?_⟩
    obtain ⟨k1, k2, k3⟩ := key.2 ok
    have r3 : ∀ {v1 v2}, m_gi (m_si (m_si g 15 0 4 v1) 15 0 2 v2) 15 0 3 = m_gi g 15 0 3 := fun {v1 v2} => by rw [gi_neI (by decide), gi_neI (by decide)]
    have r4 : ∀ {v1 v2}, m_gi (m_si (m_si g 15 0 4 v1) 15 0 2 v2) 15 0 4 = v1 := fun {v1 v2} => by rw [gi_neI (by decide), gi_eq]
    refine ⟨⟨?_, ?_, ?_, fun z => ⟨r3.trans s3, r4, k3 z⟩⟩, r3.trans s3, r4, rfl⟩
    · rw [gi_neI (by decide), gi_neI (by decide), s0, nx]
    · rw [gi_neI (by decide), gi_neI (by decide), s1, decide_eq_false k2, decide_eq_false sn.1]
    · rw [gi_eq, k1]
theorem c_start : ∃ g', f_X4_start (15, 0) g = m_rt g' none ∧ Lp (pX [] [15]) g g' ∧ ∀ l x, ScP g' 0 0 l x := by
  refine ⟨m_si (m_si (m_si g 15 0 0 0) 15 0 1 1) 15 0 2 0, ?_, ((((Lp.refl _ g).si rfl).si rfl).si rfl), fun l x => ⟨?_, ?_, gi_eq, fun z => absurd z (by decide)⟩⟩
  · simp only [f_X4_start, pI_15, pZ_15 nz_1]
  · rw [gi_neI (by decide), gi_neI (by decide), gi_eq]; rfl
  · rw [gi_neI (by decide), gi_eq]; rfl
theorem c_takes (S : ScP g s o l x) (hs : s < 8) (hc : c < 256) (ho : o ≤ 60) : ∃ g', f_X4_takes (15, 0) (nI c) g = m_ri g' (bI (okT s o c)) ∧ Lp (pX [] [15]) g g' ∧ (okT s o c = true → ∃ l' x', ScP g' (bh s c) (nxo o c) l' x') := by
  rcases (show s = 0 ∨ s = 1 ∨ 2 ≤ s by omega) with e | e | e
  · subst e
    obtain ⟨g', a, b, d⟩ := c_takes0 S hc
    exact ⟨g', a, b, fun z => ⟨_, _, d z⟩⟩
  · subst e
    obtain ⟨g', a, b, d⟩ := c_takes1 S hc ho
    exact ⟨g', a, b, fun z => ⟨_, _, d z⟩⟩
  · obtain ⟨g', a, b, d⟩ := c_takes2 S e hc
    exact ⟨g', a, b, fun z => ⟨_, _, (d z).1⟩⟩
theorem c_isAtEnd (S : ScP g s o l x) (hs : s < 8) (ho : o ≤ 60) : f_X4_isAtEnd (15, 0) g = m_ri g (bI (decide (s = 1) && decide (o = 0))) := by
  obtain ⟨s0, s1, s2, _⟩ := S
  have f2 : fwN s ≤ 2 := by unfold fwN; repeat' split
                            all_goals omega
  have zf : (nI (fwN s) = 0) = (fwN s = 0) := i_eq0 (by omega)
  simp only [f_X4_isAtEnd_26, f_X4_isAtEnd_25, f_X4_isAtEnd, gI_15, s0, s1, s2, i_eq0 (show o < 10000 by omega), zf, bI_eq0, rz_0, rz_1, decide_eq_false_iff_not]
  by_cases h1 : o = 0
  · rw [if_pos h1, decide_eq_true h1, Bool.and_true]
    by_cases h2 : s = 0
    · rw [if_neg (fun z => z h2), decide_eq_false (by omega), bI_f]
    · rw [if_pos h2]
      by_cases h3 : s = 1
      · subst h3; rfl
      · rw [decide_eq_false h3, if_neg, bI_f]
        unfold fwN
        repeat' split
        all_goals omega
  · rw [if_neg h1, decide_eq_false h1, Bool.and_false, bI_f]
theorem okT_lt (ok : okT s o c = true) : bh s c < 8 := by
  unfold okT at ok
  rw [Bool.and_eq_true, Bool.not_eq_true', decide_eq_false_iff_not] at ok
  have := bh_le s c
  have := ok.1
  omega
theorem nxo_le {k : Nat} (h : o ≤ k) : nxo o c ≤ k + 1 := by
  unfold nxo
  repeat' split
  all_goals omega
end Scan
section Fault2
variable {h : am_H} {len : Nat}
theorem c_ft9 (H : ShC h) (t : TpP h len) : ∀ (m d k s o l x : Nat) (g : am_H), k + d = len → s < 8 → o ≤ k → d < m → Lp (pX [] [15]) h g → ScP g s o l x →
    ∃ g', f_X8_firstFault_9 m (22, 0) (nI k) g = m_ri g' (ft (tC h) d k s o) ∧ Lp (pX [] [15]) h g'
  | 0, d, k, s, o, l, x, g, h1, h2, h3, h4, L, S => by omega
  | m + 1, d, k, s, o, l, x, g, h1, h2, h3, h4, L, S => by
    have hl := t.1
    have F := L.1
    rw [f_X8_firstFault_9]
    simp only [gI_22, (F.1 22 0 1 rfl).trans t.2.1, i_le (show len < 10000 by omega) (show k < 10000 by omega), gR_22, pc_scan (H.frm F), pc_chars (H.frm F), ao_15, f_X8_firstFault_59]
    cases d with
    | zero =>
      rw [if_pos (show len ≤ k by omega), ft, c_isAtEnd S h2 (by omega), bI_ri]
      simp only [bI_eq0]
      refine ⟨g, ?_, L⟩
      have ek : m_gi g 22 0 1 = nI k := by rw [(F.1 22 0 1 rfl).trans t.2.1, show len = k by omega]
      rw [ek]
      by_cases e1 : s = 1
      · by_cases e2 : o = 0
        · rw [decide_eq_true e1, decide_eq_true e2, if_pos (show s = 1 ∧ o = 0 from ⟨e1, e2⟩)]; rfl
        · rw [decide_eq_false e2, Bool.and_false, if_pos rfl, if_neg (show ¬ (s = 1 ∧ o = 0) from fun z => e2 z.2)]
      · rw [decide_eq_false e1, Bool.false_and, if_pos rfl, if_neg (show ¬ (s = 1 ∧ o = 0) from fun z => e1 z.1)]
    | succ d =>
      rw [if_neg (show ¬ len ≤ k by omega), ft]
      obtain ⟨q0, _, q2⟩ := t.2.2.2 k (by omega)
      obtain ⟨g1, a, b, e⟩ := c_takes S h2 q2 (by omega)
      simp only [aI_14 (show k < 60 by omega), (F.1 14 0 k rfl).trans q0, a, bI_ri, bI_eq0, nI_1]
      cases ok : okT s o (tC h k)
      · rw [if_pos rfl, if_neg (by decide)]
        exact ⟨g1, rfl, L.trans b⟩
      · rw [if_neg (by decide), if_pos rfl]
        obtain ⟨l', x', S'⟩ := e ok
        exact c_ft9 H t m d (k + 1) _ _ l' x' g1 (by omega) (okT_lt ok) (nxo_le h3) (by omega) (L.trans b) S'
theorem c_ft9' (H : ShC h) (t : TpP h len) (g : am_H) (L : Lp (pX [] [15]) h g) (S : ScP g 0 0 0 0) : ∃ g', f_X8_firstFault_9 5000 (22, 0) 0 g = m_ri g' (ft (tC h) len 0 0 0) ∧ Lp (pX [] [15]) h g' := by
  have := c_ft9 H t 5000 len 0 0 0 0 0 g (by omega) (by omega) (by omega) (by have := t.1; omega) L S
  rw [nI_0] at this
  exact this
theorem c_firstFault (H : ShC h) (t : TpP h len) : ∃ g', f_X8_firstFault (22, 0) h = m_ri g' (ft (tC h) len 0 0 0) ∧ Lp (pX [] [15]) h g' := by
  obtain ⟨g1, a, b, S⟩ := c_start (g := h)
  obtain ⟨g2, a2, b2⟩ := c_ft9' H t g1 b (S 0 0)
  refine ⟨g2, ?_, b2⟩
  rw [f_X8_firstFault, gR_22, pc_scan H, ao_15, a, bV_rt]
  exact a2
theorem c_checkQuery (H : ShC h) (t : TpP h len) : ∃ g', f_X10_checkQuery (69, 0) h = (if vd (tC h) len 0 0 0 = true then m_rt g' none else m_ex g' 1) ∧ Lp (pX [] [15]) h g' := by
  obtain ⟨g1, a, b⟩ := c_firstFault H t
  refine ⟨g1, ?_, b⟩
  have hl := t.1
  rw [f_X10_checkQuery, gR_69, pc_tape H, ao_22, a, bI_ri]
  simp only [ft_vd (T := tC h) (n := len) (k := 0) (s := 0) (o := 0) (by omega)]
end Fault2
theorem tC_cong {g h : am_H} (e : m_gi g 50 = m_gi h 50) : tC g = tC h := by
  funext i; unfold tC; rw [e]
theorem op_fault {W Cn Tn Sn Qn : Nat} {h : am_H} (R : RR W Cn Tn Sn Qn h) : OpOKn h (f_X10_fault (69, 0) h) (f_X11_fault (70, 0)) := by
  have R0 := R
  obtain ⟨H, G, rDay, rBlk, rSam, N, rWa, rWc, rWp, rWl, rWo, rWt, rWf, rWw, rWs, rWk, rCo, rTg, rPa, rTp, rSg, rCm, rSb, rDg, rIv⟩ := R
  obtain ⟨len, t⟩ := tp_of rTp
  obtain ⟨g1, a, b⟩ := c_firstFault H t
  have F := b.1
  have F2 : Frm (pX [] [15]) h (m_si g1 70 0 0 0) := F.si rfl
  have e := r_faultOf (G.frm F2) (t.frm F2)
  rw [tC_cong (funext fun k => funext fun j => F2.1 50 k j rfl)] at e
  refine ⟨g1, (m_si g1 70 0 0 0), ft (tC h) len 0 0 0, ?_, ?_, F.g1, F2.g1, ?_, ?_, W, Cn, Tn, Sn, Qn, ⟨H.frm F2, G.frm F2, rDay.frm F2, rBlk.frm F2, rSam.frm F2, N.frm F2, rWa.frm F2, rWc.frm F2, rWp.frm F2, rWl.frm F2, rWo.frm F2, rWt.frm F2, rWf.frm F2, rWw.frm F2, rWs.frm F2, rWk.frm F2, rCo.frm F2, rTg.frm F2, rPa.frm F2, rTp.frm F2, rSg.frm F2, rCm.frm F2, rSb.frm F2, rDg.frm F2, rIv.frm F2⟩⟩
  · rw [f_X10_fault, gR_69, pc_tape H, ao_22, a, bI_ri]
  · rw [f_X11_fault, pI_70, ao_70, e, bI_ri]
  · show m_nc g1 ≤ _; rw [b.2.2.1]; omega
  · show m_ns g1 ≤ _; rw [b.2.2.2.1]; omega
