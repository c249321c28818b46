/-! ## the tape -/
theorem ch_small (y : Int64) : ∃ c, c < 256 ∧ Int64.toInt32 (y &&& 255) = nI c := by
  refine ⟨(Int64.toInt32 (y &&& 255)).toBitVec.toNat % 256, Nat.mod_lt _ (by decide), ?_⟩
  apply b_ext
  intro i hi
  rw [bt_nat _ _ hi]
  show (Int64.toInt32 (y &&& 255)).toBitVec.getLsbD i = _
  rw [show (256 : Nat) = 2 ^ 8 from rfl, Nat.testBit_mod_two_pow]
  by_cases h8 : i < 8
  · simp [h8, BitVec.getLsbD]
  · have k : (255 : Int64).toBitVec.getLsbD i = false := (by decide +kernel : ∀ i, i < 32 → 8 ≤ i → (255 : Int64).toBitVec.getLsbD i = false) i hi (by omega)
    have : (Int64.toInt32 (y &&& 255)).toBitVec.getLsbD i = false := by
      have q : (y &&& 255).toBitVec.getLsbD i = false := by rw [Int64.toBitVec_and, BitVec.getLsbD_and, k, Bool.and_false]
      show (BitVec.signExtend 32 (y &&& 255).toBitVec).getLsbD i = false
      rw [BitVec.getLsbD_signExtend, if_pos (show i < 64 by omega), q, Bool.and_false]
    rw [this, decide_eq_false h8, Bool.false_and]
def chN (x : Int64) (j : Nat) : Nat := (Int64.toInt32 ((m_lushr x ((8 : Int32) * nI j)) &&& (255 : Int64))).toNatClampNeg
theorem chN_of (x : Int64) (j : Nat) : chN x j < 256 ∧ Int64.toInt32 ((m_lushr x ((8 : Int32) * nI j)) &&& (255 : Int64)) = nI (chN x j) := by
  obtain ⟨c, h1, h2⟩ := ch_small (m_lushr x ((8 : Int32) * nI j))
  unfold chN
  rw [h2, nI_clamp (by omega)]
  exact ⟨h1, rfl⟩
theorem i2c_of : ∀ c, c < 256 → m_i2c (nI c) = nI c ∧ m_nzc (nI c) = true := by decide +kernel
def fig (c : Nat) : Bool := decide (48 ≤ c) && decide (c ≤ 57)
def fgs (c : Nat) : Nat := if c = 116 then 2 else if c = 97 then 2 else if c = 114 then 1 else 0
def okC (c : Nat) : Bool := fig c || decide (c = 116) || decide (c = 97) || decide (c = 114) || decide (c = 38) || decide (c = 124) || decide (c = 33) || decide (c = 40) || decide (c = 41)
def allP (P : Nat → Bool) : Nat → Bool
  | 0 => true
  | n + 1 => allP P n && P n
theorem allP_no {P : Nat → Bool} : ∀ {n k : Nat}, k < n → P k = false → allP P n = false
  | 0, k, h, _ => by omega
  | n + 1, k, h, e => by
    rw [allP]
    by_cases ek : k = n
    · rw [← ek, e, Bool.and_false]
    · rw [allP_no (show k < n by omega) e, Bool.false_and]
section Tape
variable {h : am_H} {c : Nat}
theorem iC {c b : Nat} (hc : c < 256) (hb : b < 256) : (nI c = nI b) = (c = b) := i_eq (by omega) (by omega)
theorem c_characterAt {x : Int64} {k : Nat} : f_X10_characterAt x (nI k) h = m_ri h (nI (chN x k)) := by
  obtain ⟨a, b⟩ := chN_of x k
  rw [f_X10_characterAt, b, (i2c_of _ a).1, rc_of (i2c_of _ a).2]
theorem c_isFigure (hc : c < 256) : f_X4_isFigure (nI c) h = m_ri h (bI (fig c)) := by
  have e1 : (nI c < (48 : Int32)) = (c < 48) := i_lt (b := 48) (by omega) (by omega)
  have e2 : ((57 : Int32) < nI c) = (57 < c) := i_lt (a := 57) (by omega) (by omega)
  simp only [f_X4_isFigure_17, f_X4_isFigure_16, f_X4_isFigure, e1, e2, rz_0, rz_1, fig]
  by_cases h1 : c < 48
  · rw [if_pos h1, decide_eq_false (by omega)]; rfl
  · rw [if_neg h1, decide_eq_true (by omega)]
    by_cases h2 : 57 < c
    · rw [if_pos h2, decide_eq_false (by omega)]; rfl
    · rw [if_neg h2, decide_eq_true (by omega)]; rfl
theorem r_isFigure (hc : c < 256) : f_X11_isFigure (nI c) h = m_ri h (bI (fig c)) := by
  have e1 : (nI c < (48 : Int32)) = (c < 48) := i_lt (b := 48) (by omega) (by omega)
  have e2 : ((57 : Int32) < nI c) = (57 < c) := i_lt (a := 57) (by omega) (by omega)
  simp only [f_X11_isFigure, r_in, bI_ri, rz_bI, e1, e2, fig]
  congr 2
  rw [Bool.eq_iff_iff, Bool.and_eq_true, decide_eq_true_eq, decide_eq_true_eq, decide_eq_true_eq]
  omega
theorem c_figuresOf (hc : c < 256) : f_X4_figuresOf (nI c) h = m_ri h (nI (fgs c)) := by
  have e1 : (nI c = (116 : Int32)) = (c = 116) := iC (b := 116) hc (by omega)
  have e2 : (nI c = (97 : Int32)) = (c = 97) := iC (b := 97) hc (by omega)
  have e3 : (nI c = (114 : Int32)) = (c = 114) := iC (b := 114) hc (by omega)
  simp only [f_X4_figuresOf_25, f_X4_figuresOf_12, f_X4_figuresOf, e1, e2, e3, fgs]
  by_cases h1 : c = 116
  · rw [if_pos h1, if_pos h1]; rfl
  · rw [if_neg h1, if_neg h1]
    by_cases h2 : c = 97
    · rw [if_pos h2, if_pos h2]; rfl
    · rw [if_neg h2, if_neg h2]
      by_cases h3 : c = 114
      · rw [if_pos h3, if_pos h3]; rfl
      · rw [if_neg h3, if_neg h3]; rfl
theorem c_holds (hc : c < 256) : f_X8_holds (nI c) h = m_ri h (bI (okC c)) := by
  have f1 : (nI c = (38 : Int32)) = (c = 38) := iC (b := 38) hc (by omega)
  have f2 : (nI c = (124 : Int32)) = (c = 124) := iC (b := 124) hc (by omega)
  have f3 : (nI c = (33 : Int32)) = (c = 33) := iC (b := 33) hc (by omega)
  have f4 : (nI c = (40 : Int32)) = (c = 40) := iC (b := 40) hc (by omega)
  have f5 : (nI c = (41 : Int32)) = (c = 41) := iC (b := 41) hc (by omega)
  have g1 : (0 : Int32) < nI 2 := by decide +kernel
  have g2 : (0 : Int32) < nI 1 := by decide +kernel
  have g3 : ¬ (0 : Int32) < nI 0 := by decide +kernel
  simp only [f_X8_holds_49, f_X8_holds_44, f_X8_holds, c_isFigure hc, c_figuresOf hc, bI_ri, bI_eq0, f1, f2, f3, f4, f5, rz_0, rz_1, okC, fgs]
  cases fig c
  · simp only [if_true, Bool.false_or]
    by_cases h1 : c = 116
    · subst h1; rfl
    · by_cases h2 : c = 97
      · subst h2; rfl
      · by_cases h3 : c = 114
        · subst h3; rfl
        · rw [if_neg h1, if_neg h2, if_neg h3, if_neg g3]
          by_cases h4 : c = 38
          · subst h4; rfl
          · by_cases h5 : c = 124
            · subst h5; rfl
            · by_cases h6 : c = 33
              · subst h6; rfl
              · by_cases h7 : c = 40
                · subst h7; rfl
                · by_cases h8 : c = 41
                  · subst h8; rfl
                  · simp only [h1, h2, h3, h4, h5, h6, h7, h8, if_false, decide_false, Bool.or_self, bI_f]
  · simp only [Bool.true_eq_false, if_false, Bool.true_or, bI_t]
theorem r_canBe (hc : c < 256) : f_X11_canBe (nI c) h = m_ri h (bI (okC c)) := by
  have f1 : (nI c = (38 : Int32)) = (c = 38) := iC (b := 38) hc (by omega)
  have f2 : (nI c = (124 : Int32)) = (c = 124) := iC (b := 124) hc (by omega)
  have f3 : (nI c = (33 : Int32)) = (c = 33) := iC (b := 33) hc (by omega)
  have f4 : (nI c = (40 : Int32)) = (c = 40) := iC (b := 40) hc (by omega)
  have f5 : (nI c = (41 : Int32)) = (c = 41) := iC (b := 41) hc (by omega)
  have e1 : (nI c = (116 : Int32)) = (c = 116) := iC (b := 116) hc (by omega)
  have e2 : (nI c = (97 : Int32)) = (c = 97) := iC (b := 97) hc (by omega)
  have e3 : (nI c = (114 : Int32)) = (c = 114) := iC (b := 114) hc (by omega)
  simp only [f_X11_canBe_60, f_X11_canBe_55, f_X11_canBe, r_isFigure hc, bI_ri, bI_eq0, f1, f2, f3, f4, f5, e1, e2, e3, rz_0, rz_1, okC]
  cases fig c
  · simp only [if_true, Bool.false_or]
    by_cases h1 : c = 116
    · subst h1; rfl
    · by_cases h2 : c = 97
      · subst h2; rfl
      · by_cases h3 : c = 114
        · subst h3; rfl
        · by_cases h4 : c = 38
          · subst h4; rfl
          · by_cases h5 : c = 124
            · subst h5; rfl
            · by_cases h6 : c = 33
              · subst h6; rfl
              · by_cases h7 : c = 40
                · subst h7; rfl
                · by_cases h8 : c = 41
                  · subst h8; rfl
                  · simp only [h1, h2, h3, h4, h5, h6, h7, h8, if_false, decide_false, Bool.or_self, bI_f]
  · simp only [Bool.true_eq_false, if_false, Bool.true_or, bI_t]
theorem c_ty24 (H : ShC h) (x : Int64) {m len : Nat} (hm : m ≤ 8) (hl : len ≤ 60) (eL : m_gi h 22 0 1 = nI len) : ∀ (n k : Nat), k ≤ m → m < k + n → f_X10_type_24 n (69, 0) x (nI m) (nI k) h =
    if allP (fun j => okC (chN x j)) k = true then (if allP (fun j => okC (chN x j)) m = true then (if len + m ≤ 60 then f_X10_type_87 5000 (69, 0) x (nI m) 0 h else m_ex h 2) else m_ex h 1) else f_X10_type_24 n (69, 0) x (nI m) (nI k) h
  | 0, k, h1, h2 => by omega
  | n + 1, k, h1, h2 => by
    cases hA : allP (fun j => okC (chN x j)) k
    · rw [if_neg (by decide)]
    · rw [if_pos rfl, f_X10_type_24]
      have e60 : (nI (len + m) ≤ (60 : Int32)) = (len + m ≤ 60) := i_le (b := 60) (by omega) (by omega)
      simp only [i_le (show m < 10000 by omega) (show k < 10000 by omega), gR_69, pc_tape H, gI_22, eL, nI_add, e60]
      by_cases hk : m ≤ k
      · rw [if_pos hk, show m = k by omega, if_pos hA]
      · rw [if_neg hk]
        obtain ⟨a, b⟩ := chN_of x k
        simp only [c_characterAt, bI_ri, c_holds a, bI_eq0, nI_1]
        cases hb : okC (chN x k)
        · rw [if_pos rfl, if_neg (by rw [allP_no (show k < m by omega) hb]; decide)]
        · rw [if_neg (by decide)]
          have ih := c_ty24 H x hm hl eL n (k + 1) (by omega) (by omega)
          rw [allP, hA, hb, Bool.and_self, if_pos rfl] at ih
          exact ih
theorem r_ty12 (x : Int64) {m : Nat} (hm : m ≤ 8) : ∀ (n k : Nat), k ≤ m → m < k + n → f_X11_type_12 n (70, 0) x (nI m) (bI (allP (fun j => okC (chN x j)) k)) (nI k) h = f_X11_type_46 (70, 0) x (nI m) (bI (allP (fun j => okC (chN x j)) m)) h
  | 0, k, h1, h2 => by omega
  | n + 1, k, h1, h2 => by
    rw [f_X11_type_12]
    simp only [i_le (show m < 10000 by omega) (show k < 10000 by omega)]
    by_cases hk : m ≤ k
    · rw [if_pos hk, show m = k by omega]
    · rw [if_neg hk]
      cases hA : allP (fun j => okC (chN x j)) k
      · rw [bI_f, if_pos rfl]
        have : allP (fun j => okC (chN x j)) m = false := by
          have q : ∀ d, allP (fun j => okC (chN x j)) (k + d) = false := fun d => by
            induction d with
            | zero => exact hA
            | succ d ih => rw [← Nat.add_assoc, allP, ih, Bool.false_and]
          have := q (m - k)
          rw [show k + (m - k) = m by omega] at this
          exact this
        rw [this, bI_f]
      · rw [bI_t, if_neg (by decide)]
        obtain ⟨a, b⟩ := chN_of x k
        have ih := r_ty12 x hm n (k + 1) (by omega) (by omega)
        rw [allP, hA, Bool.true_and] at ih
        rw [b, r_canBe a, bI_ri, nI_1]
        exact ih
theorem c_ty87 (H : ShC h) (x : Int64) {m len : Nat} (hm : m ≤ 8) (hl : len + m ≤ 60) : ∀ (n k : Nat) (g : am_H), k ≤ m → m < k + n → Lp (pX [(22, 1)] [14]) h g → m_gi g 22 0 1 = nI (len + k) → (∀ i, m_gi g 14 0 i = if len ≤ i ∧ i < len + k then nI (chN x (i - len)) else m_gi h 14 0 i) →
    ∃ g', f_X10_type_87 n (69, 0) x (nI m) (nI k) g = m_ri g' (nI (len + m)) ∧ Lp (pX [(22, 1)] [14]) h g' ∧ m_gi g' 22 0 1 = nI (len + m) ∧ ∀ i, m_gi g' 14 0 i = if len ≤ i ∧ i < len + m then nI (chN x (i - len)) else m_gi h 14 0 i
  | 0, k, g, h1, h2, L, V1, V2 => by omega
  | n + 1, k, g, h1, h2, L, V1, V2 => by
    have F := L.1
    rw [f_X10_type_87]
    simp only [i_le (show m < 10000 by omega) (show k < 10000 by omega), gR_69, pc_tape (H.frm F), gI_22, V1]
    by_cases hk : m ≤ k
    · have ek : k = m := by omega
      rw [if_pos hk, ek]
      exact ⟨g, rfl, L, by rw [V1, ek], by rw [ek] at V2; exact V2⟩
    · rw [if_neg hk]
      obtain ⟨a, b⟩ := chN_of x k
      have d : m_gi (m_si g 14 0 (len + k) (nI (chN x k))) 22 0 1 = nI (len + k) := by rw [gi_ne (by decide)]; exact V1
      simp only [c_characterAt, bI_ri, ao_22, f_X8_add, gR_22, pc_chars (H.frm F), gI_22, V1, sC_14 (i2c_of _ a).2 (show len + k < 60 by omega), d, pI_22, bV_rt, nI_1]
      refine c_ty87 H x hm hl n (k + 1) _ (by omega) (by omega) ((L.si rfl).si rfl) ?_ (fun i => ?_)
      · rw [gi_eq]; rfl
      · rw [gi_ne (by decide), m_gi_si]
        by_cases e : i = len + k
        · rw [if_pos ⟨rfl, rfl, e⟩, if_pos (by omega), show i - len = k by omega]
        · rw [if_neg (fun z => e z.2.2), V2]
          by_cases e2 : len ≤ i ∧ i < len + k
          · rw [if_pos e2, if_pos (by omega)]
          · rw [if_neg e2, if_neg (by omega)]
theorem Lp.si0 {P : Nat → Nat → Bool} {h g : am_H} (F : Lp P h g) {k j : Nat} {v : Int32} (p : P 70 (j + 1) = false) : Lp P h (m_si g 70 k (j + 1) v) := ⟨F.1.si p, F.2.1, F.2.2.1, F.2.2.2.1, by rw [gi_neI (by omega)]; exact F.2.2.2.2⟩
theorem r_ty83 (G : ShM h) (x : Int64) {m len : Nat} (hm : m ≤ 8) (hl : len + m ≤ 60) : ∀ (n k : Nat) (g : am_H), k ≤ m → m < k + n → Lp (pX [(70, 24)] [50]) h g → m_gi g 70 0 24 = nI (len + k) → (∀ i, m_gi g 50 0 i = if len ≤ i ∧ i < len + k then nI (chN x (i - len)) else m_gi h 50 0 i) →
    ∃ g', f_X11_type_83 n (70, 0) x (nI m) (nI k) g = m_ri g' (nI (len + m)) ∧ Lp (pX [(70, 24)] [50]) h g' ∧ m_gi g' 70 0 24 = nI (len + m) ∧ ∀ i, m_gi g' 50 0 i = if len ≤ i ∧ i < len + m then nI (chN x (i - len)) else m_gi h 50 0 i
  | 0, k, g, h1, h2, L, V1, V2 => by omega
  | n + 1, k, g, h1, h2, L, V1, V2 => by
    have F := L.1
    rw [f_X11_type_83]
    have im : (nI m ≤ nI k) = (m ≤ k) := i_le (show m < 10000 by omega) (show k < 10000 by omega)
    by_cases hk : m ≤ k
    · have ek : k = m := by omega
      rw [if_pos (show nI m ≤ nI k by rw [im]; exact hk), gI_70, V1, ek]
      exact ⟨g, rfl, L, by rw [V1, ek], by rw [ek] at V2; exact V2⟩
    · rw [if_neg (show ¬ nI m ≤ nI k by rw [im]; exact hk)]
      obtain ⟨a, b⟩ := chN_of x k
      have d : m_gi (m_si g 50 0 (len + k) (nI (chN x k))) 70 0 24 = nI (len + k) := by rw [gi_ne (by decide)]; exact V1
      rw [gR_70, pm_25 (G.frm F), gI_70, V1, b, sI_50 (show len + k < 60 by omega), gI_70, d, pI_70, nI_1, nI_1]
      refine r_ty83 G x hm hl n (k + 1) _ (by omega) (by omega) ((L.si rfl).si0 rfl) ?_ (fun i => ?_)
      · rw [gi_eq]; rfl
      · rw [gi_ne (by decide), m_gi_si]
        by_cases e : i = len + k
        · rw [if_pos ⟨rfl, rfl, e⟩, if_pos (by omega), show i - len = k by omega]
        · rw [if_neg (fun z => e z.2.2), V2]
          by_cases e2 : len ≤ i ∧ i < len + k
          · rw [if_pos e2, if_pos (by omega)]
          · rw [if_neg e2, if_neg (by omega)]
theorem c_ty5 (H : ShC h) (x : Int64) {m len : Nat} (hm : m ≤ 8) (hl : len ≤ 60) (eL : m_gi h 22 0 1 = nI len) : f_X10_type_24 5000 (69, 0) x (nI m) 0 h =
    if allP (fun j => okC (chN x j)) m = true then (if len + m ≤ 60 then f_X10_type_87 5000 (69, 0) x (nI m) 0 h else m_ex h 2) else m_ex h 1 := by
  have := c_ty24 H x hm hl eL 5000 0 (by omega) (by omega)
  rw [allP, if_pos rfl, nI_0] at this
  exact this
theorem c_ty6 (H : ShC h) (x : Int64) {m len : Nat} (hm : m ≤ 8) (hl : len + m ≤ 60) (eL : m_gi h 22 0 1 = nI len) :
    ∃ g', f_X10_type_87 5000 (69, 0) x (nI m) 0 h = m_ri g' (nI (len + m)) ∧ Lp (pX [(22, 1)] [14]) h g' ∧ m_gi g' 22 0 1 = nI (len + m) ∧ ∀ i, m_gi g' 14 0 i = if len ≤ i ∧ i < len + m then nI (chN x (i - len)) else m_gi h 14 0 i := by
  have := c_ty87 H x hm hl 5000 0 h (by omega) (by omega) (Lp.refl _ h) eL (fun i => by rw [if_neg (by omega)])
  rw [nI_0] at this
  exact this
theorem r_ty5 (x : Int64) {m : Nat} (hm : m ≤ 8) : f_X11_type_12 5000 (70, 0) x (nI m) 1 0 h = f_X11_type_46 (70, 0) x (nI m) (bI (allP (fun j => okC (chN x j)) m)) h := by
  have := r_ty12 (h := h) x hm 5000 0 (by omega) (by omega)
  rw [allP, nI_0] at this
  exact this
theorem r_ty6 (G : ShM h) (x : Int64) {m len : Nat} (hm : m ≤ 8) (hl : len + m ≤ 60) (eL : m_gi h 70 0 24 = nI len) :
    ∃ g', f_X11_type_83 5000 (70, 0) x (nI m) 0 h = m_ri g' (nI (len + m)) ∧ Lp (pX [(70, 24)] [50]) h g' ∧ m_gi g' 70 0 24 = nI (len + m) ∧ ∀ i, m_gi g' 50 0 i = if len ≤ i ∧ i < len + m then nI (chN x (i - len)) else m_gi h 50 0 i := by
  have := r_ty83 G x hm hl 5000 0 h (by omega) (by omega) (Lp.refl _ h) eL (fun i => by rw [if_neg (by omega)])
  rw [nI_0] at this
  exact this
theorem r_ty0 {x : Int64} {y : Int32} : ∀ n, f_X11_type_12 (n + 1) (70, 0) x y 0 0 h = m_ri (m_si h 70 0 0 1) 0 := fun n => by
  rw [f_X11_type_12]
  simp only [if_true, ite_self, f_X11_type_46, f_X11_type_72, ao_70, r_h1, bI_ri]
theorem r_ty0' {x : Int64} {y : Int32} : f_X11_type_12 5000 (70, 0) x y 0 0 h = m_ri (m_si h 70 0 0 1) 0 := r_ty0 4999
theorem r_tyBad {x : Int64} {y : Int32} (hy : decide (¬ y < (1 : Int32) ∧ ¬ (8 : Int32) < y) = false) : f_X11_type (70, 0) x y h = m_ri (m_si h 70 0 0 1) 0 := by
  rw [f_X11_type, r_in, hy, bI_ri, bI_f, r_ty0']
theorem r_tyIn {x : Int64} {m : Nat} (h1 : 1 ≤ m) (h8 : m ≤ 8) : f_X11_type (70, 0) x (nI m) h = f_X11_type_46 (70, 0) x (nI m) (bI (allP (fun j => okC (chN x j)) m)) h := by
  have e1 : (nI m < (1 : Int32)) = (m < 1) := i_lt (b := 1) (by omega) (by omega)
  have e2 : ((8 : Int32) < nI m) = (8 < m) := i_lt (a := 8) (by omega) (by omega)
  have d : decide (¬ nI m < (1 : Int32) ∧ ¬ (8 : Int32) < nI m) = true := decide_eq_true ⟨by rw [e1]; omega, by rw [e2]; omega⟩
  rw [f_X11_type, r_in, d, bI_ri, bI_t, r_ty5 x h8]
theorem r_tyNo {x : Int64} {y : Int32} : f_X11_type_46 (70, 0) x y 0 h = m_ri (m_si h 70 0 0 1) 0 := by
  rw [f_X11_type_46, if_pos rfl, f_X11_type_72, ao_70, r_h1, bI_ri, if_pos rfl]
theorem r_tyFull {x : Int64} {m len : Nat} (hm : m ≤ 8) (hl : len ≤ 60) (eL : m_gi h 70 0 24 = nI len) (h60 : ¬ len + m ≤ 60) : f_X11_type_46 (70, 0) x (nI m) 1 h = m_ri (m_si h 70 0 0 2) 0 := by
  have e60 : (nI (len + m) ≤ (60 : Int32)) = (len + m ≤ 60) := i_le (b := 60) (by omega) (by omega)
  rw [f_X11_type_46, if_neg (by decide), gI_70, eL, nI_add, if_neg (show ¬ nI (len + m) ≤ (60 : Int32) by rw [e60]; exact h60), f_X11_type_72, ao_70, r_h2, bI_ri, if_pos rfl]
theorem r_tyOk {x : Int64} {m len : Nat} (hm : m ≤ 8) (hl : len + m ≤ 60) (eL : m_gi h 70 0 24 = nI len) {g : am_H} {v : Int32} (r : f_X11_type_83 5000 (70, 0) x (nI m) 0 (m_si h 70 0 0 0) = m_ri g v) : f_X11_type_46 (70, 0) x (nI m) 1 h = m_ri g v := by
  have e60 : (nI (len + m) ≤ (60 : Int32)) = (len + m ≤ 60) := i_le (b := 60) (by omega) (by omega)
  rw [f_X11_type_46, if_neg (by decide), gI_70, eL, nI_add, if_pos (show nI (len + m) ≤ (60 : Int32) by rw [e60]; exact hl), f_X11_type_72, ao_70, r_h0, bI_ri, if_neg (by decide)]
  exact r
theorem c_tyIn {x : Int64} {m : Nat} (h1 : 1 ≤ m) (h8 : m ≤ 8) : f_X10_type (69, 0) x (nI m) h = f_X10_type_24 5000 (69, 0) x (nI m) 0 h := by
  have e1 : (nI m < (1 : Int32)) = (m < 1) := i_lt (b := 1) (by omega) (by omega)
  have e2 : (nI m ≤ (8 : Int32)) = (m ≤ 8) := i_le (b := 8) (by omega) (by omega)
  rw [f_X10_type, if_neg (show ¬ nI m < (1 : Int32) by rw [e1]; omega), if_pos (show nI m ≤ (8 : Int32) by rw [e2]; exact h8)]
theorem c_tyBad {x : Int64} {y : Int32} (hy : decide (¬ y < (1 : Int32) ∧ ¬ (8 : Int32) < y) = false) : f_X10_type (69, 0) x y h = m_ex h 1 := by
  have := of_decide_eq_false hy
  rw [f_X10_type]
  by_cases h1 : y < 1
  · rw [if_pos h1, f_X10_type_11]
  · rw [if_neg h1, if_neg (fun z => this ⟨h1, Int32.not_lt.mpr z⟩), f_X10_type_11]
end Tape
theorem op_type {W Cn Tn Sn Qn : Nat} {h : am_H} (R : RR W Cn Tn Sn Qn h) (x : Int64) (y : Int32) : OpOK h (f_L_type (some (69, 0)) x y (some (71, 0)) h) (f_X11_type (70, 0) x y) vI := by
  have R0 := R
  obtain ⟨H, G, rDay, rBlk, rSam, N, rWa, rWc, rWp, rWl, rWo, rWt, rWf, rWw, rWs, rWk, rCo, rTg, rPa, rTp, rSg, rCm, rSb, rDg⟩ := R
  obtain ⟨len, hl, t1, t2, t3⟩ := id rTp
  by_cases hy : decide (¬ y < (1 : Int32) ∧ ¬ (8 : Int32) < y) = false
  · exact ok_ex R0 (c := 1) (b := 0) (by decide) (L_type_x1 _ _ (c_tyBad hy)) (r_tyBad hy)
  · have hy2 : ¬ y < (1 : Int32) ∧ ¬ (8 : Int32) < y := of_decide_eq_true (by simpa using hy)
    obtain ⟨m, m1, m2, rfl⟩ : ∃ m, 1 ≤ m ∧ m ≤ 8 ∧ y = nI m := by
      rcases ix_cases y (n := 9) (by omega) with ⟨m, hm, rfl⟩ | hx
      · refine ⟨m, ?_, by omega, rfl⟩
        rcases Nat.eq_zero_or_pos m with z | z
        · subst z; exact absurd (by decide +kernel : nI 0 < (1 : Int32)) hy2.1
        · exact z
      · exfalso
        rcases hx with hx | hx
        · exact hy2.1 (Int32.lt_trans hx (by decide))
        · exact hy2.2 (Int32.lt_of_lt_of_le (by decide +kernel : (8 : Int32) < nI 9) hx)
    cases hA : allP (fun j => okC (chN x j)) m
    · refine ok_ex R0 (c := 1) (b := 0) (by decide) (L_type_x1 _ _ ?_) ?_
      · rw [c_tyIn m1 m2, c_ty5 H x m2 hl t1, if_neg (by rw [hA]; decide)]
      · rw [r_tyIn m1 m2, hA, bI_f, r_tyNo]
    · by_cases h60 : len + m ≤ 60
      · obtain ⟨g1, a1, a2, a3, a4⟩ := c_ty6 H x m2 h60 t1
        have Fs : Frm (pX [(22, 1)] [14]) h (m_si (m_sl g1 71 0 0 (vI (nI (len + m)))) 70 0 0 0) := (a2.1.sl).si rfl
        obtain ⟨h2, b1, b2, b3, b4⟩ := r_ty6 (G.frm Fs) x m2 h60 ((Fs.1 70 0 24 rfl).trans t2)
        have F2 : Frm (pX [(22, 1), (70, 24)] [14, 50]) h h2 := (Fs.up).trans b2.1.up
        refine ok_u (h1 := g1) (b := (nI (len + m))) (h2 := h2) (L_type_ret _ _ ?_) ?_ ?_ ?_ ?_ ?_ ?_ ?_ ?_
        · rw [c_tyIn m1 m2, c_ty5 H x m2 hl t1, if_pos hA, if_pos h60, a1]
        · rw [r_tyIn m1 m2, hA, bI_t]
          exact r_tyOk (h := (m_sl g1 71 0 0 (vI (nI (len + m))))) m2 h60 (show m_gi g1 70 0 24 = nI len from (a2.1.1 70 0 24 rfl).trans t2) b1
        · rw [b2.2.2.2.2]; rfl
        · rw [b2.2.1]; exact gl_eq
        · exact a2.1.g1
        · exact F2.g1
        · rw [b2.2.2.1]; show m_nc g1 ≤ _; rw [a2.2.2.1]; omega
        · rw [b2.2.2.2.1]; show m_ns g1 ≤ _; rw [a2.2.2.2.1]; omega
        · refine ⟨W, Cn, Tn, Sn, Qn, ⟨H.frm F2, G.frm F2, rDay.frm F2, rBlk.frm F2, rSam.frm F2, N.frm F2, rWa.frm F2, rWc.frm F2, rWp.frm F2, rWl.frm F2, rWo.frm F2, rWt.frm F2, rWf.frm F2, rWw.frm F2, rWs.frm F2, rWk.frm F2, rCo.frm F2, rTg.frm F2, rPa.frm F2, ?_, rSg.frm F2, rCm.frm F2, rSb.frm F2, rDg.frm F2⟩⟩
          refine ⟨len + m, h60, (b2.1.1 22 0 1 rfl).trans a3, b3, fun i hi => ?_⟩
          have k14 : m_gi h2 14 0 i = m_gi g1 14 0 i := b2.1.1 14 0 i rfl
          have k50 : m_gi (m_si (m_sl g1 71 0 0 (vI (nI (len + m)))) 70 0 0 0) 50 0 i = m_gi h 50 0 i := Fs.1 50 0 i rfl
          rw [k14, a4, b4, k50]
          by_cases e : len ≤ i ∧ i < len + m
          · rw [if_pos e, if_pos e]
            exact ⟨rfl, _, (chN_of x (i - len)).1, rfl⟩
          · rw [if_neg e, if_neg e]
            exact t3 i (by omega)
      · refine ok_ex R0 (c := 2) (b := 0) (by decide) (L_type_x2 _ _ ?_) ?_
        · rw [c_tyIn m1 m2, c_ty5 H x m2 hl t1, if_pos hA, if_neg h60]
        · rw [r_tyIn m1 m2, hA, bI_t]
          exact r_tyFull m2 hl (show m_gi (m_op (m_th h)) 70 0 24 = nI len from t2) h60
