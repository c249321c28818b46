/-! ## sets and counts, built from 0 up -/
def setOf (P : Nat → Bool) : Nat → Int32
  | 0 => 0
  | n + 1 => wi (setOf P n) n (P n)
def cnt (P : Nat → Bool) : Nat → Nat
  | 0 => 0
  | n + 1 => cnt P n + if P n then 1 else 0
theorem bt_setOf (P : Nat → Bool) : ∀ {n : Nat}, n ≤ 32 → ∀ {i : Nat}, i < 32 → bt (setOf P n) i = (decide (i < n) && P i)
  | 0, _, i, _ => by simp [setOf, b_0]
  | n + 1, hn, i, hi => by
    rw [setOf, bt_wi _ (by omega) _ hi, bt_setOf P (by omega) hi]
    by_cases e : i = n
    · subst e; simp
    · have : (i < n + 1) = (i < n) := propext (by omega)
      simp only [if_neg e, this]
theorem setOf_or (P : Nat → Bool) {n : Nat} (hn : n < 32) : setOf P n ||| (if P n then one n else 0) = setOf P (n + 1) := by
  apply b_ext
  intro i hi
  rw [b_or, bt_setOf P (by omega) hi, bt_setOf P (by omega) hi]
  cases hp : P n
  · by_cases e : i = n
    · subst e; simp [hp, b_0]
    · have : (i < n + 1) = (i < n) := propext (by omega)
      simp [this, b_0]
  · by_cases e : i = n
    · subst e; simp [hp, bt_one hn hn]
    · have : (i < n + 1) = (i < n) := propext (by omega)
      simp [this, bt_one hn hi, e]
theorem setOf_congr {P Q : Nat → Bool} : ∀ {n : Nat}, (∀ i, i < n → P i = Q i) → setOf P n = setOf Q n
  | 0, _ => rfl
  | n + 1, h => by rw [setOf, setOf, setOf_congr (fun i hi => h i (by omega)), h n (by omega)]
theorem cnt_congr {P Q : Nat → Bool} : ∀ {n : Nat}, (∀ i, i < n → P i = Q i) → cnt P n = cnt Q n
  | 0, _ => rfl
  | n + 1, h => by rw [cnt, cnt, cnt_congr (fun i hi => h i (by omega)), h n (by omega)]
theorem cnt_le (P : Nat → Bool) : ∀ n, cnt P n ≤ n
  | 0 => Nat.le_refl _
  | n + 1 => by rw [cnt]; have := cnt_le P n; split <;> omega
theorem pcn_cnt (s : Int32) : ∀ n, pcn s n = cnt (bt s) n
  | 0 => rfl
  | n + 1 => by rw [pcn, cnt, pcn_cnt s n]
theorem pcn_le (s : Int32) (n : Nat) : pcn s n ≤ n := by rw [pcn_cnt]; exact cnt_le _ n
/-- one more, or one the less -/
theorem pcn_add {s : Int32} {c : Nat} (hc : c < 32) : ∀ n, n ≤ 32 → pcn (s ||| one c) n = pcn s n + if decide (c < n) && !bt s c then 1 else 0
  | 0, _ => by simp [pcn]
  | n + 1, hn => by
    rw [pcn, pcn, pcn_add hc n (by omega), b_or, bt_one hc (show n < 32 by omega)]
    by_cases e : n = c
    · subst e
      cases bt s n <;> simp
    · have h1 : (c < n + 1) = (c < n) := propext (by omega)
      have h2 : decide (n = c) = false := decide_eq_false e
      simp only [h1, h2, Bool.or_false]
      omega
theorem pcn_0 : ∀ n, pcn 0 n = 0
  | 0 => rfl
  | n + 1 => by rw [pcn, pcn_0 n, b_0]; rfl
theorem pcn_pos {s : Int32} : ∀ n, n ≤ 32 → (pcn s n = 0 ↔ ∀ i, i < n → bt s i = false)
  | 0, _ => ⟨fun _ i hi => absurd hi (by omega), fun _ => rfl⟩
  | n + 1, hn => by
    rw [pcn]
    have ih := pcn_pos (s := s) n (by omega)
    constructor
    · intro h i hi
      by_cases e : i = n
      · subst e; cases hb : bt s i
        · rfl
        · rw [hb] at h; simp at h
      · exact ih.mp (by omega) i (by omega)
    · intro h
      rw [ih.mpr (fun i hi => h i (by omega)), h n (by omega)]; rfl
theorem pcn_zero {s : Int32} : pcn s 32 = 0 ↔ s = 0 := by
  rw [pcn_pos 32 (by omega)]
  constructor
  · intro h; apply b_ext; intro i hi; rw [h i hi, b_0]
  · intro h i _; rw [h, b_0]
/-- a set without bits below n is one of below 2^n -/
theorem set_ext {s t : Int32} (n : Nat) (hs : ∀ i, n ≤ i → bt s i = false) (ht : ∀ i, n ≤ i → bt t i = false) (h : ∀ i, i < n → bt s i = bt t i) : s = t := by
  apply b_ext
  intro i _
  rcases Nat.lt_or_ge i n with hi | hi
  · exact h i hi
  · rw [hs i hi, ht i hi]
theorem bt_set_hi (P : Nat → Bool) {n : Nat} (hn : n ≤ 32) {i : Nat} (hi : n ≤ i) : bt (setOf P n) i = false := by
  rcases Nat.lt_or_ge i 32 with h | h
  · rw [bt_setOf P hn h, decide_eq_false (by omega)]; rfl
  · exact b_big h
theorem bt_wi_hi {s : Int32} {n k : Nat} (hk : k < n) (hn : n ≤ 32) (b : Bool) (hs : ∀ i, n ≤ i → bt s i = false) : ∀ i, n ≤ i → bt (wi s k b) i = false := fun i hi => by
  rcases Nat.lt_or_ge i 32 with h | h
  · rw [bt_wi _ (by omega) _ h, if_neg (by omega), hs i hi]
  · exact b_big h
theorem wi_ne0 {s : Int32} {i : Nat} (hi : i < 32) : ¬ wi s i true = 0 := fun z => by
  have := congrArg (fun y => bt y i) z
  simp [bt_wi _ hi _ hi, b_0] at this
/-! ## the class's and the reference's small methods -/
theorem i_nlt {x : Int32} {b : Nat} (h : nI b ≤ x) : ¬ x < nI b := Int32.not_lt.mpr h
theorem n10 : ((1 : Int32) = 0) = False := by decide +kernel
theorem n20 : ((2 : Int32) = 0) = False := by decide +kernel
theorem n30 : ((3 : Int32) = 0) = False := by decide +kernel
theorem n00 : ((0 : Int32) = 0) = True := by decide +kernel
theorem i_m1 {n : Nat} (hn : n < 10000) {x : Int32} (hx : nI n ≤ x) : nI n - 1 < x := by
  have h1 := Int32.le_iff_toInt_le.mp hx
  rw [nI_toInt (by omega)] at h1
  apply Int32.lt_iff_toInt_lt.mpr
  have h2 : (nI n - 1).toInt = (n : Int) - 1 := by
    rw [Int32.toInt_sub, nI_toInt (by omega)]
    have : (1 : Int32).toInt = 1 := rfl
    rw [this]
    exact Int.bmod_eq_of_le (by omega) (by omega)
  omega
theorem i_m1n {n k : Nat} (hn : n < 10000) (hk : k < n) : ¬ nI n - 1 < nI k := by
  have h2 : (nI n - 1).toInt = (n : Int) - 1 := by
    rw [Int32.toInt_sub, nI_toInt (by omega)]
    have : (1 : Int32).toInt = 1 := rfl
    rw [this]
    exact Int.bmod_eq_of_le (by omega) (by omega)
  intro h
  have := Int32.lt_iff_toInt_lt.mp h
  rw [nI_toInt (by omega)] at this
  omega
/-- a number is one of as many as c tells, or not -/
def isIx (x c : Int32) : Bool := decide (¬ x < 0 ∧ ¬ c - 1 < x)
theorem isIx_ok {n k : Nat} (hn : n < 10000) (hk : k < n) : isIx (nI k) (nI n) = true := decide_eq_true ⟨nI_pos (by omega), i_m1n hn hk⟩
theorem isIx_bad {n : Nat} (hn : n < 10000) {x : Int32} (hx : x < 0 ∨ nI n ≤ x) : isIx x (nI n) = false := by
  apply decide_eq_false
  rintro ⟨h1, h2⟩
  rcases hx with q | q
  · exact h1 q
  · exact h2 (i_m1 hn q)
theorem ix_cases (x : Int32) {n : Nat} (hn : n < 10000) : (∃ k, k < n ∧ x = nI k) ∨ (x < 0 ∨ nI n ≤ x) := by
  rcases pk_ix x (n := n) (by omega) with q | q | q
  · exact Or.inr (Or.inl q)
  · exact Or.inr (Or.inr q)
  · exact Or.inl q
theorem nI_m1 {k : Nat} (hk : k < 10000) : ¬ nI k = -1 := fun z => by
  have := congrArg (fun y : Int32 => decide (y < 0)) z
  simp only [decide_eq_false (nI_pos (show k < 2 ^ 31 by omega))] at this
  exact absurd this (by decide)
theorem i_lt {a b : Nat} (ha : a < 10000) (hb : b < 10000) : (nI a < nI b) = (a < b) := propext (nI_ltI (by omega) (by omega))
theorem i_le {a b : Nat} (ha : a < 10000) (hb : b < 10000) : (nI a ≤ nI b) = (a ≤ b) := propext (nI_leI (by omega) (by omega))
theorem i_eq {a b : Nat} (ha : a < 10000) (hb : b < 10000) : (nI a = nI b) = (a = b) := propext (nI_eq (by omega) (by omega))
theorem i_neg {a : Nat} (ha : a < 10000) : (nI a < 0) = False := eq_false (nI_pos (by omega))
theorem i_eq0 {a : Nat} (ha : a < 10000) : (nI a = 0) = (a = 0) := i_eq (b := 0) ha (by omega)
theorem c_checkPerson {k : Nat} (hk : k < 12) {h : am_H} : f_X10_checkPerson (nI k) h = m_rt h none := by
  have e : nI k < (12 : Int32) := nI_lt (b := 12) hk (by decide)
  simp only [f_X10_checkPerson_10, f_X10_checkPerson]
  rw [if_neg (nI_pos (by omega)), if_pos e]
theorem c_checkPerson_bad {x : Int32} (hx : x < 0 ∨ nI 12 ≤ x) {h : am_H} : f_X10_checkPerson x h = m_ex h 0 := by
  simp only [f_X10_checkPerson_10, f_X10_checkPerson]
  rcases hx with hx | hx
  · rw [if_pos hx]
  · rw [if_neg (show ¬ x < (12 : Int32) from i_nlt (b := 12) hx), ite_self]
theorem c_checkFace {k : Nat} (hk : k < 32) {h : am_H} : f_X10_checkFace (nI k) h = m_rt h none := by
  have e : nI k < (32 : Int32) := nI_lt (b := 32) hk (by decide)
  simp only [f_X10_checkFace_10, f_X10_checkFace]
  rw [if_neg (nI_pos (by omega)), if_pos e]
theorem c_checkFace_bad {x : Int32} (hx : x < 0 ∨ nI 32 ≤ x) {h : am_H} : f_X10_checkFace x h = m_ex h 0 := by
  simp only [f_X10_checkFace_10, f_X10_checkFace]
  rcases hx with hx | hx
  · rw [if_pos hx]
  · rw [if_neg (show ¬ x < (32 : Int32) from i_nlt (b := 32) hx), ite_self]
theorem c_checkTag {Tn k : Nat} {h : am_H} (H : ShC h) (e : m_gi h 21 0 0 = nI Tn) (hT : Tn ≤ 30) (hk : k < Tn) : f_X10_checkTag (69, 0) (nI k) h = m_rt h none := by
  have e1 : nI k < nI Tn := nI_lt hk (by omega)
  simp only [f_X10_checkTag_15, f_X10_checkTag, gR_69, pc_tags H, gI_21, e]
  rw [if_neg (nI_pos (by omega)), if_pos e1]
theorem c_checkTag_bad {Tn : Nat} {h : am_H} (H : ShC h) (e : m_gi h 21 0 0 = nI Tn) {x : Int32} (hx : x < 0 ∨ nI Tn ≤ x) : f_X10_checkTag (69, 0) x h = m_ex h 0 := by
  simp only [f_X10_checkTag_15, f_X10_checkTag, gR_69, pc_tags H, gI_21, e]
  rcases hx with hx | hx
  · rw [if_pos hx]
  · rw [if_neg (i_nlt hx), ite_self]
theorem c_workAt {W : Nat} {h : am_H} (H : ShC h) (N : RWn W h) {k : Nat} (hk : k < W) : f_X10_workAt (69, 0) (nI k) h = m_ra h (some (27, k)) := by
  have h20 : k < 20 := Nat.lt_of_lt_of_le hk N.1
  have e1 : ¬ nI k < 0 := nI_pos (by omega)
  have e2 : nI k < nI W := nI_lt hk (by have := N.1; omega)
  simp only [f_X10_workAt, f_X10_checkWork_12, f_X10_checkWork, ao_69, gI_69, N.2.1, if_neg e1, if_pos e2, bV_rt, gR_69, pc_works H, aR_19 h20, (N.2.2.2.2.2 k hk).1]
theorem c_checkWork_bad {W : Nat} {h : am_H} (N : RWn W h) {x : Int32} (hx : x < 0 ∨ nI W ≤ x) : f_X10_checkWork (69, 0) x h = m_ex h 0 := by
  simp only [f_X10_checkWork_12, f_X10_checkWork, gI_69, N.2.1]
  rcases hx with hx | hx
  · rw [if_pos hx]
  · rw [if_neg (i_nlt hx), ite_self]
theorem c_checkWork {W : Nat} {h : am_H} (N : RWn W h) {k : Nat} (hk : k < W) : f_X10_checkWork (69, 0) (nI k) h = m_rt h none := by
  have e1 : ¬ nI k < 0 := nI_pos (by have := N.1; omega)
  have e2 : nI k < nI W := nI_lt hk (by have := N.1; omega)
  simp only [f_X10_checkWork_12, f_X10_checkWork, gI_69, N.2.1, if_neg e1, if_pos e2]
theorem c_workAt_bad {W : Nat} {h : am_H} (N : RWn W h) {x : Int32} (hx : x < 0 ∨ nI W ≤ x) : f_X10_workAt (69, 0) x h = m_ex h 0 := by
  simp only [f_X10_workAt, ao_69, c_checkWork_bad N hx, bV_ex]
theorem r_in {x lo hi : Int32} {h : am_H} : f_X11_in x lo hi h = m_ri h (bI (decide (¬ x < lo ∧ ¬ hi < x))) := by
  simp only [f_X11_in_15, f_X11_in_14, f_X11_in]
  by_cases h1 : x < lo
  · simp only [h1, if_true, rz_0, not_true, false_and, decide_false, bI_f]
  · by_cases h2 : hi < x
    · simp only [h1, h2, if_true, if_false, rz_0, not_true, and_false, decide_false, bI_f]
    · simp only [h1, h2, if_false, rz_1, not_false_eq_true, and_self, decide_true, bI_t]
theorem r_isWork {h : am_H} {x : Int32} : f_X11_isWork (70, 0) x h = m_ri h (bI (isIx x (m_gi h 70 0 4))) := by
  simp only [f_X11_isWork, ao_70, gI_70, r_in, bI_ri, rz_bI, isIx]
theorem r_isTag {h : am_H} {x : Int32} : f_X11_isTag (70, 0) x h = m_ri h (bI (isIx x (m_gi h 70 0 20))) := by
  simp only [f_X11_isTag, ao_70, gI_70, r_in, bI_ri, rz_bI, isIx]
theorem r_isPerson {h : am_H} {x : Int32} : f_X11_isPerson x h = m_ri h (bI (isIx x (nI 12))) := by
  simp only [f_X11_isPerson, r_in, bI_ri, rz_bI, isIx]
  rfl
theorem r_isFace {h : am_H} {x : Int32} : f_X11_isFace x h = m_ri h (bI (isIx x (nI 32))) := by
  simp only [f_X11_isFace, r_in, bI_ri, rz_bI, isIx]
  rfl
theorem r_h0 {h : am_H} : f_X11_holds (70, 0) 0 h = m_ri (m_si h 70 0 0 0) 1 := rfl
theorem r_h1 {h : am_H} : f_X11_holds (70, 0) 1 h = m_ri (m_si h 70 0 0 1) 0 := rfl
theorem r_h2 {h : am_H} : f_X11_holds (70, 0) 2 h = m_ri (m_si h 70 0 0 2) 0 := rfl
theorem r_h3 {h : am_H} : f_X11_holds (70, 0) 3 h = m_ri (m_si h 70 0 0 3) 0 := rfl
theorem r_thrown {h : am_H} : f_X11_thrown (70, 0) h = m_ri h (m_gi h 70 0 0) := rfl
theorem nz_cases {x : Int32} (h : m_nz x = true) : x = 0 ∨ x = 1 := by simpa [m_nz] using h
theorem gi_upK {h : am_H} {s k j b : Nat} {v : Int32} : m_gi (m_si h s k j v) s b j = if b = k then v else m_gi h s b j := by
  rw [m_gi_si]; by_cases e : b = k <;> simp [e]
theorem gi_upJ {h : am_H} {s k j c : Nat} {v : Int32} : m_gi (m_si h s k j v) s k c = if c = j then v else m_gi h s k c := by
  rw [m_gi_si]; by_cases e : c = j <;> simp [e]
/-! bits as the reference writes them -/
theorem one_eq (i : Nat) : (1 : Int32) <<< (nI i &&& 31) = one i := rfl
theorem wi_t (s : Int32) (i : Nat) : s ||| one i = wi s i true := rfl
theorem wi_f (s : Int32) (i : Nat) : s &&& (one i ^^^ (-1)) = wi s i false := rfl
theorem wi_r (s : Int32) {i : Nat} (hi : i < 32) (b : Bool) : (s &&& (one i ^^^ (-1))) ||| (if b then one i else 0) = wi s i b := by
  apply b_ext
  intro j hj
  rw [bt_wi _ hi _ hj, b_or, wi_f, bt_wi _ hi _ hj]
  cases b
  · by_cases e : j = i <;> simp [e, b_0]
  · by_cases e : j = i
    · subst e; simp [bt_one hi hi]
    · simp [e, bt_one hi hj]
theorem wi_r1 (s : Int32) {i : Nat} (hi : i < 32) : (s &&& (one i ^^^ (-1))) ||| one i = wi s i true := wi_r s hi true
theorem wi_r0 (s : Int32) {i : Nat} (hi : i < 32) : (s &&& (one i ^^^ (-1))) ||| 0 = wi s i false := wi_r s hi false
def vI (b : Int32) : Int64 := b.toInt64
def vB (b : Int32) : Int64 := if b = 0 then 0 else 1
theorem sL_o {x : Int64} {h : am_H} {K : am_H → am_R} : m_sL (some (71, 0)) 0 x h K = K (m_sl h 71 0 0 x) := rfl
theorem aL_o {h : am_H} {K : Int64 → am_R} : m_aL (some (71, 0)) 0 h K = K (m_gl h 71 0 0) := rfl
/-- a call of both, told: the helper's answer k, the reference's b; the two belong together then, as before -/
theorem vB_ne : ¬ vB = vI := fun z => by
  have := congrFun z 2
  revert this; decide
theorem nI_ne21 {e : Nat} (he : e < 10000) : nI e ≠ -2100000000 := fun z => by
  have := nI_pos (show e < 2 ^ 31 by omega)
  rw [z] at this
  exact this (by decide)
theorem set_ne21 {P : Nat → Bool} {n : Nat} (hn : n ≤ 31) : setOf P n ≠ -2100000000 := fun z => by
  have := bt_set_hi P (show n ≤ 32 by omega) (show n ≤ 31 from hn)
  rw [z] at this
  revert this; decide +kernel
def OpOK (h : am_H) (r : am_R) (mf : am_H → am_R) (V : Int32 → Int64) : Prop := ∃ (h1 : am_H) (k : Int32) (h2 : am_H) (b : Int32), r = m_ri h1 k ∧ mf h1 = m_ri h2 b ∧ m_gi h2 70 0 0 = k ∧ (k = 0 → m_gl h2 71 0 0 = V b) ∧ m_gi h1 1 = m_gi h 1 ∧ m_gi h2 1 = m_gi h 1 ∧ m_nc h2 ≤ m_nc h + 2 ∧ m_ns h2 ≤ m_ns h + 20 ∧ ((k ≠ 0 ∨ V = vI ∧ b = (-2100000000 : Int32)) → Frm (pX [] [15]) h h2) ∧ ∃ W Cn Tn Sn Qn, RR W Cn Tn Sn Qn h2
/-- the same of one that answers nothing -/
def OpOKv (h : am_H) (r : am_R) (mf : am_H → am_R) : Prop := ∃ (h1 : am_H) (k : Int32) (h2 : am_H), r = m_ri h1 k ∧ mf h1 = m_rt h2 none ∧ m_gi h2 70 0 0 = k ∧ m_gi h1 1 = m_gi h 1 ∧ m_gi h2 1 = m_gi h 1 ∧ m_nc h2 ≤ m_nc h + 2 ∧ m_ns h2 ≤ m_ns h + 20 ∧ (k ≠ 0 → Frm (pX [] [15]) h h2) ∧ ∃ W Cn Tn Sn Qn, RR W Cn Tn Sn Qn h2
/-- a frame of nothing but what was thrown, and what was answered -/
theorem rr_eqv {W Cn Tn Sn Qn : Nat} {h g : am_H} (F : Frm (pX [] []) h g) (R : RR W Cn Tn Sn Qn h) : RR W Cn Tn Sn Qn g := by
  obtain ⟨H, G, rDay, rBlk, rSam, N, rWa, rWc, rWp, rWl, rWo, rWt, rWf, rWw, rWs, rWk, rCo, rTg, rPa, rTp, rSg, rCm, rSb, rDg, rIv⟩ := R
  exact ⟨H.frm F, G.frm F, rDay.frm F, rBlk.frm F, rSam.frm F, N.frm F, rWa.frm F, rWc.frm F, rWp.frm F, rWl.frm F, rWo.frm F, rWt.frm F, rWf.frm F, rWw.frm F, rWs.frm F, rWk.frm F, rCo.frm F, rTg.frm F, rPa.frm F, rTp.frm F, rSg.frm F, rCm.frm F, rSb.frm F, rDg.frm F, rIv.frm F⟩
/-- both refuse: the helper says code, the reference too -/
theorem ok_ex {W Cn Tn Sn Qn : Nat} {h : am_H} (R : RR W Cn Tn Sn Qn h) {r : am_R} {mf : am_H → am_R} {V : Int32 → Int64} {c b : Int32} (hc : c ≠ 0) (eL : r = m_ri (m_op (m_th h)) c) (eM : mf (m_op (m_th h)) = m_ri (m_si (m_op (m_th h)) 70 0 0 c) b) : OpOK h r mf V :=
  ⟨_, c, _, b, eL, eM, gi_eq, fun z => absurd z hc, rfl, rfl, by rw [nc_si]; show m_nc h + 1 ≤ _; omega, by rw [ns_si]; show m_ns h + 6 ≤ _; omega, fun _ => ((Frm.refl _ h).th.op rfl).si rfl, W, Cn, Tn, Sn, Qn, rr_eqv (((Frm.refl _ h).th.op rfl).si rfl) R⟩
theorem ok_exv {W Cn Tn Sn Qn : Nat} {h : am_H} (R : RR W Cn Tn Sn Qn h) {r : am_R} {mf : am_H → am_R} {c : Int32} (eL : r = m_ri (m_op (m_th h)) c) (eM : mf (m_op (m_th h)) = m_rt (m_si (m_op (m_th h)) 70 0 0 c) none) : OpOKv h r mf :=
  ⟨_, c, _, eL, eM, gi_eq, rfl, rfl, by rw [nc_si]; show m_nc h + 1 ≤ _; omega, by rw [ns_si]; show m_ns h + 6 ≤ _; omega, fun _ => ((Frm.refl _ h).th.op rfl).si rfl, W, Cn, Tn, Sn, Qn, rr_eqv (((Frm.refl _ h).th.op rfl).si rfl) R⟩
/-- a question: both answer alike, nothing changes -/
theorem ok_q {W Cn Tn Sn Qn : Nat} {h : am_H} (R : RR W Cn Tn Sn Qn h) {r : am_R} {mf : am_H → am_R} {V : Int32 → Int64} {b : Int32} (eL : r = m_ri (m_sl h 71 0 0 (V b)) 0) (eM : mf (m_sl h 71 0 0 (V b)) = m_ri (m_si (m_sl h 71 0 0 (V b)) 70 0 0 0) b) : OpOK h r mf V :=
  ⟨_, 0, _, b, eL, eM, gi_eq, fun _ => gl_eq, rfl, rfl, Nat.le_add_right _ _, Nat.le_add_right _ _, fun _ => (Frm.refl _ h).sl.si rfl, W, Cn, Tn, Sn, Qn, rr_eqv ((Frm.refl _ h).sl.si rfl) R⟩
/-- what changes something: the class's heap h1, the reference's h2 -/
theorem ok_u {h h1 h2 : am_H} {r : am_R} {mf : am_H → am_R} {V : Int32 → Int64} {b : Int32} (eL : r = m_ri (m_sl h1 71 0 0 (V b)) 0) (eM : mf (m_sl h1 71 0 0 (V b)) = m_ri h2 b) (t : m_gi h2 70 0 0 = 0) (o : m_gl h2 71 0 0 = V b) (s1 : m_gi h1 1 = m_gi h 1) (s2 : m_gi h2 1 = m_gi h 1) (c : m_nc h2 ≤ m_nc h + 2) (n : m_ns h2 ≤ m_ns h + 20) (R : ∃ W Cn Tn Sn Qn, RR W Cn Tn Sn Qn h2) (hv : V = vI → b ≠ -2100000000 := by first | exact fun z => absurd z vB_ne | exact fun _ => nI_ne21 (by omega)) : OpOK h r mf V :=
  ⟨_, 0, _, b, eL, eM, t, fun _ => o, s1, s2, c, n, fun z => z.elim (fun z => absurd rfl z) (fun z => absurd z.2 (hv z.1)), R⟩
/-! ## the helpers of the law -/
theorem L_block_ret (y0 : Int32) (y1 : Int32) (y2 : Int32) {h h1 : am_H} {v : Int32} (e : f_X10_block (69, 0) y0 y1 y2 h = m_ri h1 v) : f_G_block (some (69, 0)) y0 y1 y2 (some (71, 0)) h = m_ri (m_sl h1 71 0 0 (vB v)) 0 := by
  unfold f_G_block f_G_block_18
  rw [ao_69, e, bIx_ri]
  by_cases hv : v = 0
  · rw [if_pos hv, sL_o, vB, if_pos hv]
  · rw [if_neg hv, sL_o, vB, if_neg hv]
theorem L_block_x0 (y0 : Int32) (y1 : Int32) (y2 : Int32) {h h1 : am_H} (e : f_X10_block (69, 0) y0 y1 y2 h = m_ex h1 0) : f_G_block (some (69, 0)) y0 y1 y2 (some (71, 0)) h = m_ri (m_op (m_th h1)) 1 := by
  unfold f_G_block f_G_block_18
  rw [ao_69, e, bIx_ex]
  rfl
theorem L_block_x1 (y0 : Int32) (y1 : Int32) (y2 : Int32) {h h1 : am_H} (e : f_X10_block (69, 0) y0 y1 y2 h = m_ex h1 1) : f_G_block (some (69, 0)) y0 y1 y2 (some (71, 0)) h = m_ri (m_op (m_th h1)) 2 := by
  unfold f_G_block f_G_block_18
  rw [ao_69, e, bIx_ex]
  rfl
theorem L_change_ret (y0 : Int32) (y1 : Int32) {h h1 : am_H} {v : Int32} (e : f_X10_change (69, 0) y0 y1 h = m_ri h1 v) : f_G_change (some (69, 0)) y0 y1 (some (71, 0)) h = m_ri (m_sl h1 71 0 0 (vB v)) 0 := by
  unfold f_G_change f_G_change_16
  rw [ao_69, e, bIx_ri]
  by_cases hv : v = 0
  · rw [if_pos hv, sL_o, vB, if_pos hv]
  · rw [if_neg hv, sL_o, vB, if_neg hv]
theorem L_change_x0 (y0 : Int32) (y1 : Int32) {h h1 : am_H} (e : f_X10_change (69, 0) y0 y1 h = m_ex h1 0) : f_G_change (some (69, 0)) y0 y1 (some (71, 0)) h = m_ri (m_op (m_th h1)) 1 := by
  unfold f_G_change f_G_change_16
  rw [ao_69, e, bIx_ex]
  rfl
theorem L_change_x1 (y0 : Int32) (y1 : Int32) {h h1 : am_H} (e : f_X10_change (69, 0) y0 y1 h = m_ex h1 1) : f_G_change (some (69, 0)) y0 y1 (some (71, 0)) h = m_ri (m_op (m_th h1)) 2 := by
  unfold f_G_change f_G_change_16
  rw [ao_69, e, bIx_ex]
  rfl
theorem L_chapter_ret (y0 : Int32) {h h1 : am_H} {v : Int32} (e : f_X10_chapter (69, 0) y0 h = m_ri h1 v) : f_G_chapter (some (69, 0)) y0 (some (71, 0)) h = m_ri (m_sl h1 71 0 0 (vI v)) 0 := by
  unfold f_G_chapter 
  rw [ao_69, e, bIx_ri, sL_o]; rfl
theorem L_chapter_x0 (y0 : Int32) {h h1 : am_H} (e : f_X10_chapter (69, 0) y0 h = m_ex h1 0) : f_G_chapter (some (69, 0)) y0 (some (71, 0)) h = m_ri (m_op (m_th h1)) 1 := by
  unfold f_G_chapter 
  rw [ao_69, e, bIx_ex]
  rfl
theorem L_chapter_x2 (y0 : Int32) {h h1 : am_H} (e : f_X10_chapter (69, 0) y0 h = m_ex h1 2) : f_G_chapter (some (69, 0)) y0 (some (71, 0)) h = m_ri (m_op (m_th h1)) 2 := by
  unfold f_G_chapter 
  rw [ao_69, e, bIx_ex]
  rfl
theorem L_collect_ret (y0 : Int32) (y1 : Int32) {h h1 : am_H} (e : f_X10_collect (69, 0) y0 y1 h = m_rt h1 none) : f_G_collect (some (69, 0)) y0 y1 h = m_ri h1 0 := by
  unfold f_G_collect 
  rw [ao_69, e, bVx_rt]
theorem L_collect_x0 (y0 : Int32) (y1 : Int32) {h h1 : am_H} (e : f_X10_collect (69, 0) y0 y1 h = m_ex h1 0) : f_G_collect (some (69, 0)) y0 y1 h = m_ri (m_op (m_th h1)) 1 := by
  unfold f_G_collect 
  rw [ao_69, e, bVx_ex]
  rfl
theorem L_collect_x2 (y0 : Int32) (y1 : Int32) {h h1 : am_H} (e : f_X10_collect (69, 0) y0 y1 h = m_ex h1 2) : f_G_collect (some (69, 0)) y0 y1 h = m_ri (m_op (m_th h1)) 2 := by
  unfold f_G_collect 
  rw [ao_69, e, bVx_ex]
  rfl
theorem L_collection_ret (y0 : Int32) (y1 : Int32) {h h1 : am_H} {v : Int32} (e : f_X10_collection (69, 0) y0 y1 h = m_ri h1 v) : f_G_collection (some (69, 0)) y0 y1 (some (71, 0)) h = m_ri (m_sl h1 71 0 0 (vI v)) 0 := by
  unfold f_G_collection 
  rw [ao_69, e, bIx_ri, sL_o]; rfl
theorem L_collection_x1 (y0 : Int32) (y1 : Int32) {h h1 : am_H} (e : f_X10_collection (69, 0) y0 y1 h = m_ex h1 1) : f_G_collection (some (69, 0)) y0 y1 (some (71, 0)) h = m_ri (m_op (m_th h1)) 1 := by
  unfold f_G_collection 
  rw [ao_69, e, bIx_ex]
  rfl
theorem L_collection_x2 (y0 : Int32) (y1 : Int32) {h h1 : am_H} (e : f_X10_collection (69, 0) y0 y1 h = m_ex h1 2) : f_G_collection (some (69, 0)) y0 y1 (some (71, 0)) h = m_ri (m_op (m_th h1)) 2 := by
  unfold f_G_collection 
  rw [ao_69, e, bIx_ex]
  rfl
theorem L_comment_ret (y0 : Int32) (y1 : Int32) (y2 : Int32) {h h1 : am_H} {v : Int32} (e : f_X10_comment (69, 0) y0 y1 y2 h = m_ri h1 v) : f_G_comment (some (69, 0)) y0 y1 y2 (some (71, 0)) h = m_ri (m_sl h1 71 0 0 (vI v)) 0 := by
  unfold f_G_comment 
  rw [ao_69, e, bIx_ri, sL_o]; rfl
theorem L_comment_x0 (y0 : Int32) (y1 : Int32) (y2 : Int32) {h h1 : am_H} (e : f_X10_comment (69, 0) y0 y1 y2 h = m_ex h1 0) : f_G_comment (some (69, 0)) y0 y1 y2 (some (71, 0)) h = m_ri (m_op (m_th h1)) 1 := by
  unfold f_G_comment 
  rw [ao_69, e, bIx_ex]
  rfl
theorem L_comment_x1 (y0 : Int32) (y1 : Int32) (y2 : Int32) {h h1 : am_H} (e : f_X10_comment (69, 0) y0 y1 y2 h = m_ex h1 1) : f_G_comment (some (69, 0)) y0 y1 y2 (some (71, 0)) h = m_ri (m_op (m_th h1)) 2 := by
  unfold f_G_comment 
  rw [ao_69, e, bIx_ex]
  rfl
theorem L_comment_x2 (y0 : Int32) (y1 : Int32) (y2 : Int32) {h h1 : am_H} (e : f_X10_comment (69, 0) y0 y1 y2 h = m_ex h1 2) : f_G_comment (some (69, 0)) y0 y1 y2 (some (71, 0)) h = m_ri (m_op (m_th h1)) 3 := by
  unfold f_G_comment 
  rw [ao_69, e, bIx_ex]
  rfl
theorem L_digest_ret (y0 : Int32) {h h1 : am_H} {v : Int32} (e : f_X10_digest (69, 0) y0 h = m_ri h1 v) : f_G_digest (some (69, 0)) y0 (some (71, 0)) h = m_ri (m_sl h1 71 0 0 (vI v)) 0 := by
  unfold f_G_digest 
  rw [ao_69, e, bIx_ri, sL_o]; rfl
theorem L_digest_x0 (y0 : Int32) {h h1 : am_H} (e : f_X10_digest (69, 0) y0 h = m_ex h1 0) : f_G_digest (some (69, 0)) y0 (some (71, 0)) h = m_ri (m_op (m_th h1)) 1 := by
  unfold f_G_digest 
  rw [ao_69, e, bIx_ex]
  rfl
theorem L_join_ret (y0 : Int32) (y1 : Int32) {h h1 : am_H} {v : Int32} (e : f_X10_join (69, 0) y0 y1 h = m_ri h1 v) : f_G_join (some (69, 0)) y0 y1 (some (71, 0)) h = m_ri (m_sl h1 71 0 0 (vI v)) 0 := by
  unfold f_G_join 
  rw [ao_69, e, bIx_ri, sL_o]; rfl
theorem L_join_x0 (y0 : Int32) (y1 : Int32) {h h1 : am_H} (e : f_X10_join (69, 0) y0 y1 h = m_ex h1 0) : f_G_join (some (69, 0)) y0 y1 (some (71, 0)) h = m_ri (m_op (m_th h1)) 1 := by
  unfold f_G_join 
  rw [ao_69, e, bIx_ex]
  rfl
theorem L_join_x2 (y0 : Int32) (y1 : Int32) {h h1 : am_H} (e : f_X10_join (69, 0) y0 y1 h = m_ex h1 2) : f_G_join (some (69, 0)) y0 y1 (some (71, 0)) h = m_ri (m_op (m_th h1)) 2 := by
  unfold f_G_join 
  rw [ao_69, e, bIx_ex]
  rfl
theorem L_kudos_ret (y0 : Int32) (y1 : Int32) {h h1 : am_H} {v : Int32} (e : f_X10_kudos (69, 0) y0 y1 h = m_ri h1 v) : f_G_kudos (some (69, 0)) y0 y1 (some (71, 0)) h = m_ri (m_sl h1 71 0 0 (vI v)) 0 := by
  unfold f_G_kudos 
  rw [ao_69, e, bIx_ri, sL_o]; rfl
theorem L_kudos_x0 (y0 : Int32) (y1 : Int32) {h h1 : am_H} (e : f_X10_kudos (69, 0) y0 y1 h = m_ex h1 0) : f_G_kudos (some (69, 0)) y0 y1 (some (71, 0)) h = m_ri (m_op (m_th h1)) 1 := by
  unfold f_G_kudos 
  rw [ao_69, e, bIx_ex]
  rfl
theorem L_kudos_x2 (y0 : Int32) (y1 : Int32) {h h1 : am_H} (e : f_X10_kudos (69, 0) y0 y1 h = m_ex h1 2) : f_G_kudos (some (69, 0)) y0 y1 (some (71, 0)) h = m_ri (m_op (m_th h1)) 2 := by
  unfold f_G_kudos 
  rw [ao_69, e, bIx_ex]
  rfl
theorem L_leave_ret (y0 : Int32) (y1 : Int32) {h h1 : am_H} {v : Int32} (e : f_X10_leave (69, 0) y0 y1 h = m_ri h1 v) : f_G_leave (some (69, 0)) y0 y1 (some (71, 0)) h = m_ri (m_sl h1 71 0 0 (vI v)) 0 := by
  unfold f_G_leave 
  rw [ao_69, e, bIx_ri, sL_o]; rfl
theorem L_leave_x0 (y0 : Int32) (y1 : Int32) {h h1 : am_H} (e : f_X10_leave (69, 0) y0 y1 h = m_ex h1 0) : f_G_leave (some (69, 0)) y0 y1 (some (71, 0)) h = m_ri (m_op (m_th h1)) 1 := by
  unfold f_G_leave 
  rw [ao_69, e, bIx_ex]
  rfl
theorem L_leave_x2 (y0 : Int32) (y1 : Int32) {h h1 : am_H} (e : f_X10_leave (69, 0) y0 y1 h = m_ex h1 2) : f_G_leave (some (69, 0)) y0 y1 (some (71, 0)) h = m_ri (m_op (m_th h1)) 2 := by
  unfold f_G_leave 
  rw [ao_69, e, bIx_ex]
  rfl
theorem L_liked_ret (y0 : Int32) {h h1 : am_H} {v : Int32} (e : f_X10_liked (69, 0) y0 h = m_ri h1 v) : f_G_liked (some (69, 0)) y0 (some (71, 0)) h = m_ri (m_sl h1 71 0 0 (vI v)) 0 := by
  unfold f_G_liked 
  rw [ao_69, e, bIx_ri, sL_o]; rfl
theorem L_liked_x0 (y0 : Int32) {h h1 : am_H} (e : f_X10_liked (69, 0) y0 h = m_ex h1 0) : f_G_liked (some (69, 0)) y0 (some (71, 0)) h = m_ri (m_op (m_th h1)) 1 := by
  unfold f_G_liked 
  rw [ao_69, e, bIx_ex]
  rfl
theorem L_lock_ret (y0 : Int32) (y1 : Int32) {h h1 : am_H} {v : Int32} (e : f_X10_lock (69, 0) y0 y1 h = m_ri h1 v) : f_G_lock (some (69, 0)) y0 y1 (some (71, 0)) h = m_ri (m_sl h1 71 0 0 (vB v)) 0 := by
  unfold f_G_lock f_G_lock_16
  rw [ao_69, e, bIx_ri]
  by_cases hv : v = 0
  · rw [if_pos hv, sL_o, vB, if_pos hv]
  · rw [if_neg hv, sL_o, vB, if_neg hv]
theorem L_lock_x0 (y0 : Int32) (y1 : Int32) {h h1 : am_H} (e : f_X10_lock (69, 0) y0 y1 h = m_ex h1 0) : f_G_lock (some (69, 0)) y0 y1 (some (71, 0)) h = m_ri (m_op (m_th h1)) 1 := by
  unfold f_G_lock f_G_lock_16
  rw [ao_69, e, bIx_ex]
  rfl
theorem L_make_ret (y0 : Int32) {h h1 : am_H} {v : Int32} (e : f_X10_make (69, 0) y0 h = m_ri h1 v) : f_G_make (some (69, 0)) y0 (some (71, 0)) h = m_ri (m_sl h1 71 0 0 (vI v)) 0 := by
  unfold f_G_make 
  rw [ao_69, e, bIx_ri, sL_o]; rfl
theorem L_make_x0 (y0 : Int32) {h h1 : am_H} (e : f_X10_make (69, 0) y0 h = m_ex h1 0) : f_G_make (some (69, 0)) y0 (some (71, 0)) h = m_ri (m_op (m_th h1)) 1 := by
  unfold f_G_make 
  rw [ao_69, e, bIx_ex]
  rfl
theorem L_make_x2 (y0 : Int32) {h h1 : am_H} (e : f_X10_make (69, 0) y0 h = m_ex h1 2) : f_G_make (some (69, 0)) y0 (some (71, 0)) h = m_ri (m_op (m_th h1)) 2 := by
  unfold f_G_make 
  rw [ao_69, e, bIx_ex]
  rfl
theorem L_match_ret (y0 : Int32) {h h1 : am_H} {v : Int32} (e : f_X10_match (69, 0) y0 h = m_ri h1 v) : f_G_match (some (69, 0)) y0 (some (71, 0)) h = m_ri (m_sl h1 71 0 0 (vI v)) 0 := by
  unfold f_G_match 
  rw [ao_69, e, bIx_ri, sL_o]; rfl
theorem L_match_x0 (y0 : Int32) {h h1 : am_H} (e : f_X10_match (69, 0) y0 h = m_ex h1 0) : f_G_match (some (69, 0)) y0 (some (71, 0)) h = m_ri (m_op (m_th h1)) 1 := by
  unfold f_G_match 
  rw [ao_69, e, bIx_ex]
  rfl
theorem L_merge_ret (y0 : Int32) (y1 : Int32) {h h1 : am_H} {v : Int32} (e : f_X10_merge (69, 0) y0 y1 h = m_ri h1 v) : f_G_merge (some (69, 0)) y0 y1 (some (71, 0)) h = m_ri (m_sl h1 71 0 0 (vI v)) 0 := by
  unfold f_G_merge 
  rw [ao_69, e, bIx_ri, sL_o]; rfl
theorem L_merge_x0 (y0 : Int32) (y1 : Int32) {h h1 : am_H} (e : f_X10_merge (69, 0) y0 y1 h = m_ex h1 0) : f_G_merge (some (69, 0)) y0 y1 (some (71, 0)) h = m_ri (m_op (m_th h1)) 1 := by
  unfold f_G_merge 
  rw [ao_69, e, bIx_ex]
  rfl
theorem L_merge_x1 (y0 : Int32) (y1 : Int32) {h h1 : am_H} (e : f_X10_merge (69, 0) y0 y1 h = m_ex h1 1) : f_G_merge (some (69, 0)) y0 y1 (some (71, 0)) h = m_ri (m_op (m_th h1)) 2 := by
  unfold f_G_merge 
  rw [ao_69, e, bIx_ex]
  rfl
theorem L_merge_x2 (y0 : Int32) (y1 : Int32) {h h1 : am_H} (e : f_X10_merge (69, 0) y0 y1 h = m_ex h1 2) : f_G_merge (some (69, 0)) y0 y1 (some (71, 0)) h = m_ri (m_op (m_th h1)) 3 := by
  unfold f_G_merge 
  rw [ao_69, e, bIx_ex]
  rfl
theorem L_news_ret (y0 : Int32) {h h1 : am_H} {v : Int32} (e : f_X10_news (69, 0) y0 h = m_ri h1 v) : f_G_news (some (69, 0)) y0 (some (71, 0)) h = m_ri (m_sl h1 71 0 0 (vI v)) 0 := by
  unfold f_G_news 
  rw [ao_69, e, bIx_ri, sL_o]; rfl
theorem L_news_x0 (y0 : Int32) {h h1 : am_H} (e : f_X10_news (69, 0) y0 h = m_ex h1 0) : f_G_news (some (69, 0)) y0 (some (71, 0)) h = m_ri (m_op (m_th h1)) 1 := by
  unfold f_G_news 
  rw [ao_69, e, bIx_ex]
  rfl
theorem L_ofTag_ret (y0 : Int32) (y1 : Int32) {h h1 : am_H} {v : Int32} (e : f_X10_ofTag (69, 0) y0 y1 h = m_ri h1 v) : f_G_ofTag (some (69, 0)) y0 y1 (some (71, 0)) h = m_ri (m_sl h1 71 0 0 (vI v)) 0 := by
  unfold f_G_ofTag 
  rw [ao_69, e, bIx_ri, sL_o]; rfl
theorem L_ofTag_x0 (y0 : Int32) (y1 : Int32) {h h1 : am_H} (e : f_X10_ofTag (69, 0) y0 y1 h = m_ex h1 0) : f_G_ofTag (some (69, 0)) y0 y1 (some (71, 0)) h = m_ri (m_op (m_th h1)) 1 := by
  unfold f_G_ofTag 
  rw [ao_69, e, bIx_ex]
  rfl
theorem L_ofTag_x1 (y0 : Int32) (y1 : Int32) {h h1 : am_H} (e : f_X10_ofTag (69, 0) y0 y1 h = m_ex h1 1) : f_G_ofTag (some (69, 0)) y0 y1 (some (71, 0)) h = m_ri (m_op (m_th h1)) 2 := by
  unfold f_G_ofTag 
  rw [ao_69, e, bIx_ex]
  rfl
theorem L_owners_ret (y0 : Int32) (y1 : Int32) {h h1 : am_H} {v : Int32} (e : f_X10_owners (69, 0) y0 y1 h = m_ri h1 v) : f_G_owners (some (69, 0)) y0 y1 (some (71, 0)) h = m_ri (m_sl h1 71 0 0 (vI v)) 0 := by
  unfold f_G_owners 
  rw [ao_69, e, bIx_ri, sL_o]; rfl
theorem L_owners_x0 (y0 : Int32) (y1 : Int32) {h h1 : am_H} (e : f_X10_owners (69, 0) y0 y1 h = m_ex h1 0) : f_G_owners (some (69, 0)) y0 y1 (some (71, 0)) h = m_ri (m_op (m_th h1)) 1 := by
  unfold f_G_owners 
  rw [ao_69, e, bIx_ex]
  rfl
theorem L_parent_ret (y0 : Int32) (y1 : Int32) (y2 : Int32) {h h1 : am_H} {v : Int32} (e : f_X10_parent (69, 0) y0 y1 y2 h = m_ri h1 v) : f_G_parent (some (69, 0)) y0 y1 y2 (some (71, 0)) h = m_ri (m_sl h1 71 0 0 (vB v)) 0 := by
  unfold f_G_parent f_G_parent_18
  rw [ao_69, e, bIx_ri]
  by_cases hv : v = 0
  · rw [if_pos hv, sL_o, vB, if_pos hv]
  · rw [if_neg hv, sL_o, vB, if_neg hv]
theorem L_parent_x0 (y0 : Int32) (y1 : Int32) (y2 : Int32) {h h1 : am_H} (e : f_X10_parent (69, 0) y0 y1 y2 h = m_ex h1 0) : f_G_parent (some (69, 0)) y0 y1 y2 (some (71, 0)) h = m_ri (m_op (m_th h1)) 1 := by
  unfold f_G_parent f_G_parent_18
  rw [ao_69, e, bIx_ex]
  rfl
theorem L_parent_x1 (y0 : Int32) (y1 : Int32) (y2 : Int32) {h h1 : am_H} (e : f_X10_parent (69, 0) y0 y1 y2 h = m_ex h1 1) : f_G_parent (some (69, 0)) y0 y1 y2 (some (71, 0)) h = m_ri (m_op (m_th h1)) 2 := by
  unfold f_G_parent f_G_parent_18
  rw [ao_69, e, bIx_ex]
  rfl
theorem L_parent_x2 (y0 : Int32) (y1 : Int32) (y2 : Int32) {h h1 : am_H} (e : f_X10_parent (69, 0) y0 y1 y2 h = m_ex h1 2) : f_G_parent (some (69, 0)) y0 y1 y2 (some (71, 0)) h = m_ri (m_op (m_th h1)) 3 := by
  unfold f_G_parent f_G_parent_18
  rw [ao_69, e, bIx_ex]
  rfl
theorem L_pass_ret (y0 : Int32) {h h1 : am_H} {v : Int32} (e : f_X10_pass (69, 0) y0 h = m_ri h1 v) : f_G_pass (some (69, 0)) y0 (some (71, 0)) h = m_ri (m_sl h1 71 0 0 (vI v)) 0 := by
  unfold f_G_pass 
  rw [ao_69, e, bIx_ri, sL_o]; rfl
theorem L_pass_x1 (y0 : Int32) {h h1 : am_H} (e : f_X10_pass (69, 0) y0 h = m_ex h1 1) : f_G_pass (some (69, 0)) y0 (some (71, 0)) h = m_ri (m_op (m_th h1)) 1 := by
  unfold f_G_pass 
  rw [ao_69, e, bIx_ex]
  rfl
theorem L_pass_x2 (y0 : Int32) {h h1 : am_H} (e : f_X10_pass (69, 0) y0 h = m_ex h1 2) : f_G_pass (some (69, 0)) y0 (some (71, 0)) h = m_ri (m_op (m_th h1)) 2 := by
  unfold f_G_pass 
  rw [ao_69, e, bIx_ex]
  rfl
theorem L_post_ret (y0 : Int32) {h h1 : am_H} {v : Int32} (e : f_X10_post (69, 0) y0 h = m_ri h1 v) : f_G_post (some (69, 0)) y0 (some (71, 0)) h = m_ri (m_sl h1 71 0 0 (vI v)) 0 := by
  unfold f_G_post 
  rw [ao_69, e, bIx_ri, sL_o]; rfl
theorem L_post_x0 (y0 : Int32) {h h1 : am_H} (e : f_X10_post (69, 0) y0 h = m_ex h1 0) : f_G_post (some (69, 0)) y0 (some (71, 0)) h = m_ri (m_op (m_th h1)) 1 := by
  unfold f_G_post 
  rw [ao_69, e, bIx_ex]
  rfl
theorem L_post_x2 (y0 : Int32) {h h1 : am_H} (e : f_X10_post (69, 0) y0 h = m_ex h1 2) : f_G_post (some (69, 0)) y0 (some (71, 0)) h = m_ri (m_op (m_th h1)) 2 := by
  unfold f_G_post 
  rw [ao_69, e, bIx_ex]
  rfl
theorem L_put_ret (y0 : Int32) (y1 : Int32) (y2 : Int32) {h h1 : am_H} {v : Int32} (e : f_X10_put (69, 0) y0 y1 y2 h = m_ri h1 v) : f_G_put (some (69, 0)) y0 y1 y2 (some (71, 0)) h = m_ri (m_sl h1 71 0 0 (vB v)) 0 := by
  unfold f_G_put f_G_put_18
  rw [ao_69, e, bIx_ri]
  by_cases hv : v = 0
  · rw [if_pos hv, sL_o, vB, if_pos hv]
  · rw [if_neg hv, sL_o, vB, if_neg hv]
theorem L_put_x0 (y0 : Int32) (y1 : Int32) (y2 : Int32) {h h1 : am_H} (e : f_X10_put (69, 0) y0 y1 y2 h = m_ex h1 0) : f_G_put (some (69, 0)) y0 y1 y2 (some (71, 0)) h = m_ri (m_op (m_th h1)) 1 := by
  unfold f_G_put f_G_put_18
  rw [ao_69, e, bIx_ex]
  rfl
theorem L_reads_ret (y0 : Int32) (y1 : Int32) {h h1 : am_H} {v : Int32} (e : f_X10_reads (69, 0) y0 y1 h = m_ri h1 v) : f_G_reads (some (69, 0)) y0 y1 (some (71, 0)) h = m_ri (m_sl h1 71 0 0 (vI v)) 0 := by
  unfold f_G_reads 
  rw [ao_69, e, bIx_ri, sL_o]; rfl
theorem L_reads_x0 (y0 : Int32) (y1 : Int32) {h h1 : am_H} (e : f_X10_reads (69, 0) y0 y1 h = m_ex h1 0) : f_G_reads (some (69, 0)) y0 y1 (some (71, 0)) h = m_ri (m_op (m_th h1)) 1 := by
  unfold f_G_reads 
  rw [ao_69, e, bIx_ex]
  rfl
theorem L_result_ret (y0 : Int32) (y1 : Int32) {h h1 : am_H} {v : Int32} (e : f_X10_result (69, 0) y0 y1 h = m_ri h1 v) : f_G_result (some (69, 0)) y0 y1 (some (71, 0)) h = m_ri (m_sl h1 71 0 0 (vI v)) 0 := by
  unfold f_G_result 
  rw [ao_69, e, bIx_ri, sL_o]; rfl
theorem L_result_x0 (y0 : Int32) (y1 : Int32) {h h1 : am_H} (e : f_X10_result (69, 0) y0 y1 h = m_ex h1 0) : f_G_result (some (69, 0)) y0 y1 (some (71, 0)) h = m_ri (m_op (m_th h1)) 1 := by
  unfold f_G_result 
  rw [ao_69, e, bIx_ex]
  rfl
theorem L_result_x1 (y0 : Int32) (y1 : Int32) {h h1 : am_H} (e : f_X10_result (69, 0) y0 y1 h = m_ex h1 1) : f_G_result (some (69, 0)) y0 y1 (some (71, 0)) h = m_ri (m_op (m_th h1)) 2 := by
  unfold f_G_result 
  rw [ao_69, e, bIx_ex]
  rfl
theorem L_same_ret (y0 : Int32) (y1 : Int32) {h h1 : am_H} {v : Int32} (e : f_X10_same (69, 0) y0 y1 h = m_ri h1 v) : f_G_same (some (69, 0)) y0 y1 (some (71, 0)) h = m_ri (m_sl h1 71 0 0 (vB v)) 0 := by
  unfold f_G_same f_G_same_16
  rw [ao_69, e, bIx_ri]
  by_cases hv : v = 0
  · rw [if_pos hv, sL_o, vB, if_pos hv]
  · rw [if_neg hv, sL_o, vB, if_neg hv]
theorem L_same_x0 (y0 : Int32) (y1 : Int32) {h h1 : am_H} (e : f_X10_same (69, 0) y0 y1 h = m_ex h1 0) : f_G_same (some (69, 0)) y0 y1 (some (71, 0)) h = m_ri (m_op (m_th h1)) 1 := by
  unfold f_G_same f_G_same_16
  rw [ao_69, e, bIx_ex]
  rfl
theorem L_screen_ret (y0 : Int32) (y1 : Int32) {h h1 : am_H} {v : Int32} (e : f_X10_screen (69, 0) y0 y1 h = m_ri h1 v) : f_G_screen (some (69, 0)) y0 y1 (some (71, 0)) h = m_ri (m_sl h1 71 0 0 (vB v)) 0 := by
  unfold f_G_screen f_G_screen_16
  rw [ao_69, e, bIx_ri]
  by_cases hv : v = 0
  · rw [if_pos hv, sL_o, vB, if_pos hv]
  · rw [if_neg hv, sL_o, vB, if_neg hv]
theorem L_screen_x0 (y0 : Int32) (y1 : Int32) {h h1 : am_H} (e : f_X10_screen (69, 0) y0 y1 h = m_ex h1 0) : f_G_screen (some (69, 0)) y0 y1 (some (71, 0)) h = m_ri (m_op (m_th h1)) 1 := by
  unfold f_G_screen f_G_screen_16
  rw [ao_69, e, bIx_ex]
  rfl
theorem L_search_ret (y0 : Int32) (y1 : Int32) {h h1 : am_H} {v : Int32} (e : f_X10_search (69, 0) y0 y1 h = m_ri h1 v) : f_G_search (some (69, 0)) y0 y1 (some (71, 0)) h = m_ri (m_sl h1 71 0 0 (vI v)) 0 := by
  unfold f_G_search 
  rw [ao_69, e, bIx_ri, sL_o]; rfl
theorem L_search_x0 (y0 : Int32) (y1 : Int32) {h h1 : am_H} (e : f_X10_search (69, 0) y0 y1 h = m_ex h1 0) : f_G_search (some (69, 0)) y0 y1 (some (71, 0)) h = m_ri (m_op (m_th h1)) 1 := by
  unfold f_G_search 
  rw [ao_69, e, bIx_ex]
  rfl
theorem L_search_x1 (y0 : Int32) (y1 : Int32) {h h1 : am_H} (e : f_X10_search (69, 0) y0 y1 h = m_ex h1 1) : f_G_search (some (69, 0)) y0 y1 (some (71, 0)) h = m_ri (m_op (m_th h1)) 2 := by
  unfold f_G_search 
  rw [ao_69, e, bIx_ex]
  rfl
theorem L_sees_ret (y0 : Int32) (y1 : Int32) {h h1 : am_H} {v : Int32} (e : f_X10_sees (69, 0) y0 y1 h = m_ri h1 v) : f_G_sees (some (69, 0)) y0 y1 (some (71, 0)) h = m_ri (m_sl h1 71 0 0 (vB v)) 0 := by
  unfold f_G_sees f_G_sees_16
  rw [ao_69, e, bIx_ri]
  by_cases hv : v = 0
  · rw [if_pos hv, sL_o, vB, if_pos hv]
  · rw [if_neg hv, sL_o, vB, if_neg hv]
theorem L_sees_x0 (y0 : Int32) (y1 : Int32) {h h1 : am_H} (e : f_X10_sees (69, 0) y0 y1 h = m_ex h1 0) : f_G_sees (some (69, 0)) y0 y1 (some (71, 0)) h = m_ri (m_op (m_th h1)) 1 := by
  unfold f_G_sees f_G_sees_16
  rw [ao_69, e, bIx_ex]
  rfl
theorem L_sign_ret (y0 : Int32) (y1 : Int32) (y2 : Int32) (y3 : Int32) {h h1 : am_H} {v : Int32} (e : f_X10_sign (69, 0) y0 y1 y2 y3 h = m_ri h1 v) : f_G_sign (some (69, 0)) y0 y1 y2 y3 (some (71, 0)) h = m_ri (m_sl h1 71 0 0 (vI v)) 0 := by
  unfold f_G_sign 
  rw [ao_69, e, bIx_ri, sL_o]; rfl
theorem L_sign_x0 (y0 : Int32) (y1 : Int32) (y2 : Int32) (y3 : Int32) {h h1 : am_H} (e : f_X10_sign (69, 0) y0 y1 y2 y3 h = m_ex h1 0) : f_G_sign (some (69, 0)) y0 y1 y2 y3 (some (71, 0)) h = m_ri (m_op (m_th h1)) 1 := by
  unfold f_G_sign 
  rw [ao_69, e, bIx_ex]
  rfl
theorem L_sign_x1 (y0 : Int32) (y1 : Int32) (y2 : Int32) (y3 : Int32) {h h1 : am_H} (e : f_X10_sign (69, 0) y0 y1 y2 y3 h = m_ex h1 1) : f_G_sign (some (69, 0)) y0 y1 y2 y3 (some (71, 0)) h = m_ri (m_op (m_th h1)) 2 := by
  unfold f_G_sign 
  rw [ao_69, e, bIx_ex]
  rfl
theorem L_sign_x2 (y0 : Int32) (y1 : Int32) (y2 : Int32) (y3 : Int32) {h h1 : am_H} (e : f_X10_sign (69, 0) y0 y1 y2 y3 h = m_ex h1 2) : f_G_sign (some (69, 0)) y0 y1 y2 y3 (some (71, 0)) h = m_ri (m_op (m_th h1)) 3 := by
  unfold f_G_sign 
  rw [ao_69, e, bIx_ex]
  rfl
theorem L_subscribe_ret (y0 : Int32) (y1 : Int32) (y2 : Int32) {h h1 : am_H} {v : Int32} (e : f_X10_subscribe (69, 0) y0 y1 y2 h = m_ri h1 v) : f_G_subscribe (some (69, 0)) y0 y1 y2 (some (71, 0)) h = m_ri (m_sl h1 71 0 0 (vB v)) 0 := by
  unfold f_G_subscribe f_G_subscribe_18
  rw [ao_69, e, bIx_ri]
  by_cases hv : v = 0
  · rw [if_pos hv, sL_o, vB, if_pos hv]
  · rw [if_neg hv, sL_o, vB, if_neg hv]
theorem L_subscribe_x0 (y0 : Int32) (y1 : Int32) (y2 : Int32) {h h1 : am_H} (e : f_X10_subscribe (69, 0) y0 y1 y2 h = m_ex h1 0) : f_G_subscribe (some (69, 0)) y0 y1 y2 (some (71, 0)) h = m_ri (m_op (m_th h1)) 1 := by
  unfold f_G_subscribe f_G_subscribe_18
  rw [ao_69, e, bIx_ex]
  rfl
theorem L_tag_ret  {h h1 : am_H} {v : Int32} (e : f_X10_tag (69, 0)  h = m_ri h1 v) : f_G_tag (some (69, 0))  (some (71, 0)) h = m_ri (m_sl h1 71 0 0 (vI v)) 0 := by
  unfold f_G_tag 
  rw [ao_69, e, bIx_ri, sL_o]; rfl
theorem L_tag_x2  {h h1 : am_H} (e : f_X10_tag (69, 0)  h = m_ex h1 2) : f_G_tag (some (69, 0))  (some (71, 0)) h = m_ri (m_op (m_th h1)) 1 := by
  unfold f_G_tag 
  rw [ao_69, e, bIx_ex]
  rfl
theorem L_type_ret (y0 : Int64) (y1 : Int32) {h h1 : am_H} {v : Int32} (e : f_X10_type (69, 0) y0 y1 h = m_ri h1 v) : f_G_type (some (69, 0)) y0 y1 (some (71, 0)) h = m_ri (m_sl h1 71 0 0 (vI v)) 0 := by
  unfold f_G_type 
  rw [ao_69, e, bIx_ri, sL_o]; rfl
theorem L_type_x1 (y0 : Int64) (y1 : Int32) {h h1 : am_H} (e : f_X10_type (69, 0) y0 y1 h = m_ex h1 1) : f_G_type (some (69, 0)) y0 y1 (some (71, 0)) h = m_ri (m_op (m_th h1)) 1 := by
  unfold f_G_type 
  rw [ao_69, e, bIx_ex]
  rfl
theorem L_type_x2 (y0 : Int64) (y1 : Int32) {h h1 : am_H} (e : f_X10_type (69, 0) y0 y1 h = m_ex h1 2) : f_G_type (some (69, 0)) y0 y1 (some (71, 0)) h = m_ri (m_op (m_th h1)) 2 := by
  unfold f_G_type 
  rw [ao_69, e, bIx_ex]
  rfl
theorem L_under_ret (y0 : Int32) (y1 : Int32) {h h1 : am_H} {v : Int32} (e : f_X10_under (69, 0) y0 y1 h = m_ri h1 v) : f_G_under (some (69, 0)) y0 y1 (some (71, 0)) h = m_ri (m_sl h1 71 0 0 (vI v)) 0 := by
  unfold f_G_under 
  rw [ao_69, e, bIx_ri, sL_o]; rfl
theorem L_under_x0 (y0 : Int32) (y1 : Int32) {h h1 : am_H} (e : f_X10_under (69, 0) y0 y1 h = m_ex h1 0) : f_G_under (some (69, 0)) y0 y1 (some (71, 0)) h = m_ri (m_op (m_th h1)) 1 := by
  unfold f_G_under 
  rw [ao_69, e, bIx_ex]
  rfl
theorem L_wave_ret (y0 : Int32) {h h1 : am_H} {v : Int32} (e : f_X10_wave (69, 0) y0 h = m_ri h1 v) : f_G_wave (some (69, 0)) y0 (some (71, 0)) h = m_ri (m_sl h1 71 0 0 (vI v)) 0 := by
  unfold f_G_wave 
  rw [ao_69, e, bIx_ri, sL_o]; rfl
theorem L_wave_x1 (y0 : Int32) {h h1 : am_H} (e : f_X10_wave (69, 0) y0 h = m_ex h1 1) : f_G_wave (some (69, 0)) y0 (some (71, 0)) h = m_ri (m_op (m_th h1)) 1 := by
  unfold f_G_wave 
  rw [ao_69, e, bIx_ex]
  rfl
theorem L_work_ret (y0 : Int32) (y1 : Int32) {h h1 : am_H} {v : Int32} (e : f_X10_work (69, 0) y0 y1 h = m_ri h1 v) : f_G_work (some (69, 0)) y0 y1 (some (71, 0)) h = m_ri (m_sl h1 71 0 0 (vI v)) 0 := by
  unfold f_G_work 
  rw [ao_69, e, bIx_ri, sL_o]; rfl
theorem L_work_x0 (y0 : Int32) (y1 : Int32) {h h1 : am_H} (e : f_X10_work (69, 0) y0 y1 h = m_ex h1 0) : f_G_work (some (69, 0)) y0 y1 (some (71, 0)) h = m_ri (m_op (m_th h1)) 1 := by
  unfold f_G_work 
  rw [ao_69, e, bIx_ex]
  rfl
theorem L_work_x1 (y0 : Int32) (y1 : Int32) {h h1 : am_H} (e : f_X10_work (69, 0) y0 y1 h = m_ex h1 1) : f_G_work (some (69, 0)) y0 y1 (some (71, 0)) h = m_ri (m_op (m_th h1)) 2 := by
  unfold f_G_work 
  rw [ao_69, e, bIx_ex]
  rfl
theorem L_work_x2 (y0 : Int32) (y1 : Int32) {h h1 : am_H} (e : f_X10_work (69, 0) y0 y1 h = m_ex h1 2) : f_G_work (some (69, 0)) y0 y1 (some (71, 0)) h = m_ri (m_op (m_th h1)) 3 := by
  unfold f_G_work 
  rw [ao_69, e, bIx_ex]
  rfl
/-! ## who sees what -/
def ownP (h : am_H) (f k : Nat) : Bool := bt (m_gi h 34 0 k) f
def opP (h : am_H) (k s : Nat) : Bool := decide (m_gi h 39 0 k = -1) || !decide (m_gi h 70 0 1 < m_gi h s 0 (m_gi h 39 0 k).toNatClampNeg)
def seenP (h : am_H) (f k : Nat) : Bool := ownP h f k || (!decide (m_gi h 37 0 k = -1) && opP h k 45 && (decide (m_gi h 38 0 k = 0) || !decide (12 ≤ f)))
def toldP (h : am_H) (f k : Nat) : Bool := seenP h f k && (ownP h f k || opP h k 46)
theorem i12_le {f : Nat} (hf : f < 10000) : ((12 : Int32) ≤ nI f) = (12 ≤ f) := i_le (a := 12) (by omega) hf
section Seen
variable {W Cn : Nat} {h : am_H} {k f : Nat}
theorem c_isOwnedBy (a : RWa W h) (hk : k < W) (hf : f < 32) : f_X9_isOwnedBy (27, k) (nI f) h = m_ri h (bI (ownP h f k)) := by
  simp only [f_X9_isOwnedBy, gI_27, c_has hf, bJ_ri, rz_bI, (a k hk).2.1, ownP]
theorem r_isOwner (G : ShM h) (a : RWa W h) (hk : k < W) (h20 : k < 20) (hf : f < 32) : f_X11_isOwner (70, 0) (nI f) (nI k) h = m_ri h (bI (ownP h f k)) := by
  simp only [f_X11_isOwner_24, f_X11_isOwner_23, f_X11_isOwner, gR_70, pm_6 G, aI_34 h20, r_has hf, bI_ri, i12_le (show f < 10000 by omega), rz_0, rz_1, bI_eq0, ownP]
  by_cases h1 : 12 ≤ f
  · rw [if_pos h1, (a k hk).2.2.2 f h1]; rfl
  · rw [if_neg h1]; cases bt (m_gi h 34 0 k) f <;> rfl
theorem c_isPosted (p : RWp W h) (hk : k < W) : f_X9_isPosted (27, k) h = m_ri h (bI (!decide (m_gi h 37 0 k = -1))) := by
  simp only [f_X9_isPosted_13, f_X9_isPosted, gI_27, (p k hk).1, rz_0, rz_1]
  by_cases e : m_gi h 37 0 k = -1
  · rw [if_pos e, decide_eq_true e]; rfl
  · rw [if_neg e, decide_eq_false e]; rfl
theorem c_isSeenBy (a : RWa W h) (p : RWp W h) (l : RWl W h) (o : RWo W Cn h) (C : RCo Cn h) (hk : k < W) (hf : f < 32) : f_X9_isSeenBy (27, k) (nI f) (m_gi h 70 0 1) h = m_ri h (bI (seenP h f k)) := by
  simp only [f_X9_isSeenBy_63, f_X9_isSeenBy_62, f_X9_isSeenBy_58, f_X9_isSeenBy_33, f_X9_isSeenBy_28, f_X9_isSeenBy, ao_27, gI_27, gR_27, c_isOwnedBy a hk hf, c_isPosted p hk, bI_ri, rz_0, rz_1, bI_eq0, l.1 k hk, i12_le (show f < 10000 by omega), seenP]
  cases ownP h f k
  · rcases o k hk with ⟨o1, o2⟩ | ⟨c, hc, o1, o2⟩
    · simp only [o1, opP, o2]
      by_cases e1 : m_gi h 37 0 k = -1 <;> by_cases e2 : m_gi h 38 0 k = 0 <;> by_cases e3 : 12 ≤ f <;> simp [e1, e2, e3] <;> rfl
    · have hc6 : c < 6 := Nat.lt_of_lt_of_le hc C.1
      simp only [o1, opP, o2, gI_28, (C.2.2.2.2 c hc).2.1, eq_false (nI_m1 (show c < 10000 by omega)), nI_clamp (show c < 2 ^ 31 by omega)]
      by_cases e4 : m_gi h 70 0 1 < m_gi h 45 0 c <;> by_cases e1 : m_gi h 37 0 k = -1 <;> by_cases e2 : m_gi h 38 0 k = 0 <;> by_cases e3 : 12 ≤ f <;> simp [e1, e2, e3, e4] <;> rfl
  · simp
    rfl
theorem r_isSeen (G : ShM h) (a : RWa W h) (o : RWo W Cn h) (C : RCo Cn h) (hk : k < W) (h20 : k < 20) (hf : f < 32) : f_X11_isSeen (70, 0) (nI f) (nI k) h = m_ri h (bI (seenP h f k)) := by
  simp only [f_X11_isSeen_77, f_X11_isSeen_76, f_X11_isSeen_72, f_X11_isSeen_33, f_X11_isSeen_28, f_X11_isSeen, ao_70, gI_70, gR_70, pm_11 G, aI_39 h20, r_isOwner G a hk h20 hf, bI_ri, rz_0, rz_1, bI_eq0, pm_9 G, aI_37 h20, pm_10 G, aI_38 h20, i12_le (show f < 10000 by omega), seenP]
  rcases o k hk with ⟨o1, o2⟩ | ⟨c, hc, o1, o2⟩
  · simp only [opP, o2, if_true]
    cases ownP h f k <;> by_cases e1 : m_gi h 37 0 k = -1 <;> by_cases e2 : m_gi h 38 0 k = 0 <;> by_cases e3 : 12 ≤ f <;> simp [e1, e2, e3] <;> rfl
  · have hc6 : c < 6 := Nat.lt_of_lt_of_le hc C.1
    simp only [opP, o2, eq_false (nI_m1 (show c < 10000 by omega)), if_false, pm_18 G, aI_45 hc6, nI_clamp (show c < 2 ^ 31 by omega)]
    cases ownP h f k <;> by_cases e4 : m_gi h 70 0 1 < m_gi h 45 0 c <;> by_cases e1 : m_gi h 37 0 k = -1 <;> by_cases e2 : m_gi h 38 0 k = 0 <;> by_cases e3 : 12 ≤ f <;> simp [e1, e2, e3, e4] <;> rfl
theorem c_ownersToldTo (a : RWa W h) (p : RWp W h) (l : RWl W h) (o : RWo W Cn h) (C : RCo Cn h) (hk : k < W) (hf : f < 32) : f_X9_ownersToldTo (27, k) (nI f) (m_gi h 70 0 1) h = m_ri h (if toldP h f k then m_gi h 34 0 k else 0) := by
  simp only [f_X9_ownersToldTo_53, f_X9_ownersToldTo_52, f_X9_ownersToldTo_45, f_X9_ownersToldTo_23, f_X9_ownersToldTo_18, f_X9_ownersToldTo, ao_27, gI_27, gR_27, c_isOwnedBy a hk hf, c_isSeenBy a p l o C hk hf, bI_ri, bI_eq0, (a k hk).2.1, toldP]
  rcases o k hk with ⟨o1, o2⟩ | ⟨c, hc, o1, o2⟩
  · simp only [o1, opP, o2]
    cases seenP h f k <;> cases ownP h f k <;> simp
  · have hc6 : c < 6 := Nat.lt_of_lt_of_le hc C.1
    simp only [o1, opP, o2, gI_28, (C.2.2.2.2 c hc).2.2, eq_false (nI_m1 (show c < 10000 by omega)), nI_clamp (show c < 2 ^ 31 by omega)]
    cases seenP h f k <;> cases ownP h f k <;> by_cases e4 : m_gi h 70 0 1 < m_gi h 46 0 c <;> simp [e4]
theorem r_areTold (G : ShM h) (a : RWa W h) (o : RWo W Cn h) (C : RCo Cn h) (hk : k < W) (h20 : k < 20) (hf : f < 32) : f_X11_areTold (70, 0) (nI f) (nI k) h = m_ri h (bI (toldP h f k)) := by
  simp only [f_X11_areTold_61, f_X11_areTold_60, f_X11_areTold_56, f_X11_areTold_33, f_X11_areTold_28, f_X11_areTold, ao_70, gI_70, gR_70, pm_11 G, aI_39 h20, r_isOwner G a hk h20 hf, r_isSeen G a o C hk h20 hf, bI_ri, rz_0, rz_1, bI_eq0, toldP]
  rcases o k hk with ⟨o1, o2⟩ | ⟨c, hc, o1, o2⟩
  · simp only [opP, o2, if_true]
    cases seenP h f k <;> cases ownP h f k <;> simp <;> rfl
  · have hc6 : c < 6 := Nat.lt_of_lt_of_le hc C.1
    simp only [opP, o2, eq_false (nI_m1 (show c < 10000 by omega)), if_false, pm_19 G, aI_46 hc6, nI_clamp (show c < 2 ^ 31 by omega)]
    cases seenP h f k <;> cases ownP h f k <;> by_cases e4 : m_gi h 70 0 1 < m_gi h 46 0 c <;> simp [e4] <;> rfl
end Seen
