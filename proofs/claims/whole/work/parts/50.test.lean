/-! ## sets and counts, built from 0 up -/
def setOf (P : Nat → Bool) : Nat → Int32
  | 0 => 0
  | n + 1 => wi (setOf P n) n (P n)
def cnt (P : Nat → Bool) : Nat → Nat
  | 0 => 0
  | n + 1 => cnt P n + if P n then 1 else 0
theorem bt_setOf (P : Nat → Bool) : ∀ {n : Nat}, n ≤ 32 → ∀ {i : Nat}, i < 32 → bt (setOf P n) i = (decide (i < n) && P i)
  | 0, _, i, _ => by simp [setOf, b_0]
  | n + 1, hn, i, hi => by
    rw [setOf, bt_wi _ (by omega) _ hi, bt_setOf P (by omega) hi]
    by_cases e : i = n
    · subst e; simp
    · have : (i < n + 1) = (i < n) := propext (by omega)
      simp only [if_neg e, this]
theorem setOf_or (P : Nat → Bool) {n : Nat} (hn : n < 32) : setOf P n ||| (if P n then one n else 0) = setOf P (n + 1) := by
  apply b_ext
  intro i hi
  rw [b_or, bt_setOf P (by omega) hi, bt_setOf P (by omega) hi]
  cases hp : P n
  · by_cases e : i = n
    · subst e; simp [hp, b_0]
    · have : (i < n + 1) = (i < n) := propext (by omega)
      simp [this, b_0]
  · by_cases e : i = n
    · subst e; simp [hp, bt_one hn hn]
    · have : (i < n + 1) = (i < n) := propext (by omega)
      simp [this, bt_one hn hi, e]
theorem setOf_congr {P Q : Nat → Bool} : ∀ {n : Nat}, (∀ i, i < n → P i = Q i) → setOf P n = setOf Q n
  | 0, _ => rfl
  | n + 1, h => by rw [setOf, setOf, setOf_congr (fun i hi => h i (by omega)), h n (by omega)]
theorem cnt_congr {P Q : Nat → Bool} : ∀ {n : Nat}, (∀ i, i < n → P i = Q i) → cnt P n = cnt Q n
  | 0, _ => rfl
  | n + 1, h => by rw [cnt, cnt, cnt_congr (fun i hi => h i (by omega)), h n (by omega)]
theorem cnt_le (P : Nat → Bool) : ∀ n, cnt P n ≤ n
  | 0 => Nat.le_refl _
  | n + 1 => by rw [cnt]; have := cnt_le P n; split <;> omega
theorem pcn_cnt (s : Int32) : ∀ n, pcn s n = cnt (bt s) n
  | 0 => rfl
  | n + 1 => by rw [pcn, cnt, pcn_cnt s n]
theorem pcn_le (s : Int32) (n : Nat) : pcn s n ≤ n := by rw [pcn_cnt]; exact cnt_le _ n
/-- one more, or one the less -/
theorem pcn_add {s : Int32} {c : Nat} (hc : c < 32) : ∀ n, n ≤ 32 → pcn (s ||| one c) n = pcn s n + if decide (c < n) && !bt s c then 1 else 0
  | 0, _ => by simp [pcn]
  | n + 1, hn => by
    rw [pcn, pcn, pcn_add hc n (by omega), b_or, bt_one hc (show n < 32 by omega)]
    by_cases e : n = c
    · subst e
      cases bt s n <;> simp
    · have h1 : (c < n + 1) = (c < n) := propext (by omega)
      have h2 : decide (n = c) = false := decide_eq_false e
      simp only [h1, h2, Bool.or_false]
      omega
theorem pcn_0 : ∀ n, pcn 0 n = 0
  | 0 => rfl
  | n + 1 => by rw [pcn, pcn_0 n, b_0]; rfl
theorem pcn_pos {s : Int32} : ∀ n, n ≤ 32 → (pcn s n = 0 ↔ ∀ i, i < n → bt s i = false)
  | 0, _ => ⟨fun _ i hi => absurd hi (by omega), fun _ => rfl⟩
  | n + 1, hn => by
    rw [pcn]
    have ih := pcn_pos (s := s) n (by omega)
    constructor
    · intro h i hi
      by_cases e : i = n
      · subst e; cases hb : bt s i
        · rfl
        · rw [hb] at h; simp at h
      · exact ih.mp (by omega) i (by omega)
    · intro h
      rw [ih.mpr (fun i hi => h i (by omega)), h n (by omega)]; rfl
theorem pcn_zero {s : Int32} : pcn s 32 = 0 ↔ s = 0 := by
  rw [pcn_pos 32 (by omega)]
  constructor
  · intro h; apply b_ext; intro i hi; rw [h i hi, b_0]
  · intro h i _; rw [h, b_0]
/-- a set without bits below n is one of below 2^n -/
theorem set_ext {s t : Int32} (n : Nat) (hs : ∀ i, n ≤ i → bt s i = false) (ht : ∀ i, n ≤ i → bt t i = false) (h : ∀ i, i < n → bt s i = bt t i) : s = t := by
  apply b_ext
  intro i _
  rcases Nat.lt_or_ge i n with hi | hi
  · exact h i hi
  · rw [hs i hi, ht i hi]
theorem bt_set_hi (P : Nat → Bool) {n : Nat} (hn : n ≤ 32) {i : Nat} (hi : n ≤ i) : bt (setOf P n) i = false := by
  rcases Nat.lt_or_ge i 32 with h | h
  · rw [bt_setOf P hn h, decide_eq_false (by omega)]; rfl
  · exact b_big h
theorem bt_wi_hi {s : Int32} {n k : Nat} (hk : k < n) (hn : n ≤ 32) (b : Bool) (hs : ∀ i, n ≤ i → bt s i = false) : ∀ i, n ≤ i → bt (wi s k b) i = false := fun i hi => by
  rcases Nat.lt_or_ge i 32 with h | h
  · rw [bt_wi _ (by omega) _ h, if_neg (by omega), hs i hi]
  · exact b_big h
theorem wi_ne0 {s : Int32} {i : Nat} (hi : i < 32) : ¬ wi s i true = 0 := fun z => by
  have := congrArg (fun y => bt y i) z
  simp [bt_wi _ hi _ hi, b_0] at this
/-! ## the class's and the reference's small methods -/
theorem i_nlt {x : Int32} {b : Nat} (h : nI b ≤ x) : ¬ x < nI b := Int32.not_lt.mpr h
theorem n10 : ((1 : Int32) = 0) = False := by decide +kernel
theorem n20 : ((2 : Int32) = 0) = False := by decide +kernel
theorem n30 : ((3 : Int32) = 0) = False := by decide +kernel
theorem n00 : ((0 : Int32) = 0) = True := by decide +kernel
theorem i_m1 {n : Nat} (hn : n < 10000) {x : Int32} (hx : nI n ≤ x) : nI n - 1 < x := by
  have h1 := Int32.le_iff_toInt_le.mp hx
  rw [nI_toInt (by omega)] at h1
  apply Int32.lt_iff_toInt_lt.mpr
  have h2 : (nI n - 1).toInt = (n : Int) - 1 := by
    rw [Int32.toInt_sub, nI_toInt (by omega)]
    have : (1 : Int32).toInt = 1 := rfl
    rw [this]
    exact Int.bmod_eq_of_le (by omega) (by omega)
  omega
theorem i_m1n {n k : Nat} (hn : n < 10000) (hk : k < n) : ¬ nI n - 1 < nI k := by
  have h2 : (nI n - 1).toInt = (n : Int) - 1 := by
    rw [Int32.toInt_sub, nI_toInt (by omega)]
    have : (1 : Int32).toInt = 1 := rfl
    rw [this]
    exact Int.bmod_eq_of_le (by omega) (by omega)
  intro h
  have := Int32.lt_iff_toInt_lt.mp h
  rw [nI_toInt (by omega)] at this
  omega
/-- a number is one of as many as c tells, or not -/
def isIx (x c : Int32) : Bool := decide (¬ x < 0 ∧ ¬ c - 1 < x)
theorem isIx_ok {n k : Nat} (hn : n < 10000) (hk : k < n) : isIx (nI k) (nI n) = true := decide_eq_true ⟨nI_pos (by omega), i_m1n hn hk⟩
theorem isIx_bad {n : Nat} (hn : n < 10000) {x : Int32} (hx : x < 0 ∨ nI n ≤ x) : isIx x (nI n) = false := by
  apply decide_eq_false
  rintro ⟨h1, h2⟩
  rcases hx with q | q
  · exact h1 q
  · exact h2 (i_m1 hn q)
theorem ix_cases (x : Int32) {n : Nat} (hn : n < 10000) : (∃ k, k < n ∧ x = nI k) ∨ (x < 0 ∨ nI n ≤ x) := by
  rcases pk_ix x (n := n) (by omega) with q | q | q
  · exact Or.inr (Or.inl q)
  · exact Or.inr (Or.inr q)
  · exact Or.inl q
theorem nI_m1 {k : Nat} (hk : k < 10000) : ¬ nI k = -1 := fun z => by
  have := congrArg (fun y : Int32 => decide (y < 0)) z
  simp only [decide_eq_false (nI_pos (show k < 2 ^ 31 by omega))] at this
  exact absurd this (by decide)
theorem i_lt {a b : Nat} (ha : a < 10000) (hb : b < 10000) : (nI a < nI b) = (a < b) := propext (nI_ltI (by omega) (by omega))
theorem i_le {a b : Nat} (ha : a < 10000) (hb : b < 10000) : (nI a ≤ nI b) = (a ≤ b) := propext (nI_leI (by omega) (by omega))
theorem i_eq {a b : Nat} (ha : a < 10000) (hb : b < 10000) : (nI a = nI b) = (a = b) := propext (nI_eq (by omega) (by omega))
theorem i_neg {a : Nat} (ha : a < 10000) : (nI a < 0) = False := eq_false (nI_pos (by omega))
theorem i_eq0 {a : Nat} (ha : a < 10000) : (nI a = 0) = (a = 0) := i_eq (b := 0) ha (by omega)
theorem c_checkPerson {k : Nat} (hk : k < 12) {h : am_H} : f_X10_checkPerson (nI k) h = m_rt h none := by
  have e : nI k < (12 : Int32) := nI_lt (b := 12) hk (by decide)
  simp only [f_X10_checkPerson_10, f_X10_checkPerson]
  rw [if_neg (nI_pos (by omega)), if_pos e]
theorem c_checkPerson_bad {x : Int32} (hx : x < 0 ∨ nI 12 ≤ x) {h : am_H} : f_X10_checkPerson x h = m_ex h 0 := by
  simp only [f_X10_checkPerson_10, f_X10_checkPerson]
  rcases hx with hx | hx
  · rw [if_pos hx]
  · rw [if_neg (show ¬ x < (12 : Int32) from i_nlt (b := 12) hx), ite_self]
theorem c_checkFace {k : Nat} (hk : k < 32) {h : am_H} : f_X10_checkFace (nI k) h = m_rt h none := by
  have e : nI k < (32 : Int32) := nI_lt (b := 32) hk (by decide)
  simp only [f_X10_checkFace_10, f_X10_checkFace]
  rw [if_neg (nI_pos (by omega)), if_pos e]
theorem c_checkFace_bad {x : Int32} (hx : x < 0 ∨ nI 32 ≤ x) {h : am_H} : f_X10_checkFace x h = m_ex h 0 := by
  simp only [f_X10_checkFace_10, f_X10_checkFace]
  rcases hx with hx | hx
  · rw [if_pos hx]
  · rw [if_neg (show ¬ x < (32 : Int32) from i_nlt (b := 32) hx), ite_self]
theorem c_checkTag {Tn k : Nat} {h : am_H} (H : ShC h) (e : m_gi h 21 0 0 = nI Tn) (hT : Tn ≤ 30) (hk : k < Tn) : f_X10_checkTag (69, 0) (nI k) h = m_rt h none := by
  have e1 : nI k < nI Tn := nI_lt hk (by omega)
  simp only [f_X10_checkTag_15, f_X10_checkTag, gR_69, pc_tags H, gI_21, e]
  rw [if_neg (nI_pos (by omega)), if_pos e1]
theorem c_checkTag_bad {Tn : Nat} {h : am_H} (H : ShC h) (e : m_gi h 21 0 0 = nI Tn) {x : Int32} (hx : x < 0 ∨ nI Tn ≤ x) : f_X10_checkTag (69, 0) x h = m_ex h 0 := by
  simp only [f_X10_checkTag_15, f_X10_checkTag, gR_69, pc_tags H, gI_21, e]
  rcases hx with hx | hx
  · rw [if_pos hx]
  · rw [if_neg (i_nlt hx), ite_self]
theorem c_workAt {W : Nat} {h : am_H} (H : ShC h) (N : RWn W h) {k : Nat} (hk : k < W) : f_X10_workAt (69, 0) (nI k) h = m_ra h (some (27, k)) := by
  have h20 : k < 20 := Nat.lt_of_lt_of_le hk N.1
  have e1 : ¬ nI k < 0 := nI_pos (by omega)
  have e2 : nI k < nI W := nI_lt hk (by have := N.1; omega)
  simp only [f_X10_workAt, f_X10_checkWork_12, f_X10_checkWork, ao_69, gI_69, N.2.1, if_neg e1, if_pos e2, bV_rt, gR_69, pc_works H, aR_19 h20, (N.2.2.2.2.2 k hk).1]
theorem c_checkWork_bad {W : Nat} {h : am_H} (N : RWn W h) {x : Int32} (hx : x < 0 ∨ nI W ≤ x) : f_X10_checkWork (69, 0) x h = m_ex h 0 := by
  simp only [f_X10_checkWork_12, f_X10_checkWork, gI_69, N.2.1]
  rcases hx with hx | hx
  · rw [if_pos hx]
  · rw [if_neg (i_nlt hx), ite_self]
theorem c_checkWork {W : Nat} {h : am_H} (N : RWn W h) {k : Nat} (hk : k < W) : f_X10_checkWork (69, 0) (nI k) h = m_rt h none := by
  have e1 : ¬ nI k < 0 := nI_pos (by have := N.1; omega)
  have e2 : nI k < nI W := nI_lt hk (by have := N.1; omega)
  simp only [f_X10_checkWork_12, f_X10_checkWork, gI_69, N.2.1, if_neg e1, if_pos e2]
theorem c_workAt_bad {W : Nat} {h : am_H} (N : RWn W h) {x : Int32} (hx : x < 0 ∨ nI W ≤ x) : f_X10_workAt (69, 0) x h = m_ex h 0 := by
  simp only [f_X10_workAt, ao_69, c_checkWork_bad N hx, bV_ex]
theorem r_in {x lo hi : Int32} {h : am_H} : f_X11_in x lo hi h = m_ri h (bI (decide (¬ x < lo ∧ ¬ hi < x))) := by
  simp only [f_X11_in_15, f_X11_in_14, f_X11_in]
  by_cases h1 : x < lo
  · simp only [h1, if_true, rz_0, not_true, false_and, decide_false, bI_f]
  · by_cases h2 : hi < x
    · simp only [h1, h2, if_true, if_false, rz_0, not_true, and_false, decide_false, bI_f]
    · simp only [h1, h2, if_false, rz_1, not_false_eq_true, and_self, decide_true, bI_t]
theorem r_isWork {h : am_H} {x : Int32} : f_X11_isWork (70, 0) x h = m_ri h (bI (isIx x (m_gi h 70 0 4))) := by
  simp only [f_X11_isWork, ao_70, gI_70, r_in, bI_ri, rz_bI, isIx]
theorem r_isTag {h : am_H} {x : Int32} : f_X11_isTag (70, 0) x h = m_ri h (bI (isIx x (m_gi h 70 0 20))) := by
  simp only [f_X11_isTag, ao_70, gI_70, r_in, bI_ri, rz_bI, isIx]
theorem r_isPerson {h : am_H} {x : Int32} : f_X11_isPerson x h = m_ri h (bI (isIx x (nI 12))) := by
  simp only [f_X11_isPerson, r_in, bI_ri, rz_bI, isIx]
  rfl
theorem r_isFace {h : am_H} {x : Int32} : f_X11_isFace x h = m_ri h (bI (isIx x (nI 32))) := by
  simp only [f_X11_isFace, r_in, bI_ri, rz_bI, isIx]
  rfl
theorem r_h0 {h : am_H} : f_X11_holds (70, 0) 0 h = m_ri (m_si h 70 0 0 0) 1 := rfl
theorem r_h1 {h : am_H} : f_X11_holds (70, 0) 1 h = m_ri (m_si h 70 0 0 1) 0 := rfl
theorem r_h2 {h : am_H} : f_X11_holds (70, 0) 2 h = m_ri (m_si h 70 0 0 2) 0 := rfl
theorem r_h3 {h : am_H} : f_X11_holds (70, 0) 3 h = m_ri (m_si h 70 0 0 3) 0 := rfl
theorem r_thrown {h : am_H} : f_X11_thrown (70, 0) h = m_ri h (m_gi h 70 0 0) := rfl
theorem nz_cases {x : Int32} (h : m_nz x = true) : x = 0 ∨ x = 1 := by simpa [m_nz] using h
theorem gi_upK {h : am_H} {s k j b : Nat} {v : Int32} : m_gi (m_si h s k j v) s b j = if b = k then v else m_gi h s b j := by
  rw [m_gi_si]; by_cases e : b = k <;> simp [e]
theorem gi_upJ {h : am_H} {s k j c : Nat} {v : Int32} : m_gi (m_si h s k j v) s k c = if c = j then v else m_gi h s k c := by
  rw [m_gi_si]; by_cases e : c = j <;> simp [e]
/-! bits as the reference writes them -/
theorem one_eq (i : Nat) : (1 : Int32) <<< (nI i &&& 31) = one i := rfl
theorem wi_t (s : Int32) (i : Nat) : s ||| one i = wi s i true := rfl
theorem wi_f (s : Int32) (i : Nat) : s &&& (one i ^^^ (-1)) = wi s i false := rfl
theorem wi_r (s : Int32) {i : Nat} (hi : i < 32) (b : Bool) : (s &&& (one i ^^^ (-1))) ||| (if b then one i else 0) = wi s i b := by
  apply b_ext
  intro j hj
  rw [bt_wi _ hi _ hj, b_or, wi_f, bt_wi _ hi _ hj]
  cases b
  · by_cases e : j = i <;> simp [e, b_0]
  · by_cases e : j = i
    · subst e; simp [bt_one hi hi]
    · simp [e, bt_one hi hj]
theorem wi_r1 (s : Int32) {i : Nat} (hi : i < 32) : (s &&& (one i ^^^ (-1))) ||| one i = wi s i true := wi_r s hi true
theorem wi_r0 (s : Int32) {i : Nat} (hi : i < 32) : (s &&& (one i ^^^ (-1))) ||| 0 = wi s i false := wi_r s hi false
def vI (b : Int32) : Int64 := b.toInt64
def vB (b : Int32) : Int64 := if b = 0 then 0 else 1
theorem sL_o {x : Int64} {h : am_H} {K : am_H → am_R} : m_sL (some (71, 0)) 0 x h K = K (m_sl h 71 0 0 x) := rfl
theorem aL_o {h : am_H} {K : Int64 → am_R} : m_aL (some (71, 0)) 0 h K = K (m_gl h 71 0 0) := rfl
/-- a call of both, told: the helper's answer k, the reference's b; the two belong together then, as before -/
def OpOK (h : am_H) (r : am_R) (mf : am_H → am_R) (V : Int32 → Int64) : Prop := ∃ (h1 : am_H) (k : Int32) (h2 : am_H) (b : Int32), r = m_ri h1 k ∧ mf h1 = m_ri h2 b ∧ m_gi h2 70 0 0 = k ∧ (k = 0 → m_gl h2 71 0 0 = V b) ∧ m_gi h1 1 = m_gi h 1 ∧ m_gi h2 1 = m_gi h 1 ∧ m_nc h2 ≤ m_nc h + 2 ∧ m_ns h2 ≤ m_ns h + 20 ∧ ∃ W Cn Tn Sn Qn, RR W Cn Tn Sn Qn h2
/-- the same of one that answers nothing -/
def OpOKv (h : am_H) (r : am_R) (mf : am_H → am_R) : Prop := ∃ (h1 : am_H) (k : Int32) (h2 : am_H), r = m_ri h1 k ∧ mf h1 = m_rt h2 none ∧ m_gi h2 70 0 0 = k ∧ m_gi h1 1 = m_gi h 1 ∧ m_gi h2 1 = m_gi h 1 ∧ m_nc h2 ≤ m_nc h + 2 ∧ m_ns h2 ≤ m_ns h + 20 ∧ ∃ W Cn Tn Sn Qn, RR W Cn Tn Sn Qn h2
/-- a frame of nothing but what was thrown, and what was answered -/
theorem rr_eqv {W Cn Tn Sn Qn : Nat} {h g : am_H} (F : Frm (pX [] []) h g) (R : RR W Cn Tn Sn Qn h) : RR W Cn Tn Sn Qn g := by
  obtain ⟨H, G, rDay, rBlk, rSam, N, rWa, rWc, rWp, rWl, rWo, rWt, rWf, rWw, rWs, rWk, rCo, rTg, rPa, rTp, rSg, rCm, rSb, rDg⟩ := R
  exact ⟨H.frm F, G.frm F, rDay.frm F, rBlk.frm F, rSam.frm F, N.frm F, rWa.frm F, rWc.frm F, rWp.frm F, rWl.frm F, rWo.frm F, rWt.frm F, rWf.frm F, rWw.frm F, rWs.frm F, rWk.frm F, rCo.frm F, rTg.frm F, rPa.frm F, rTp.frm F, rSg.frm F, rCm.frm F, rSb.frm F, rDg.frm F⟩
/-- both refuse: the helper says code, the reference too -/
theorem ok_ex {W Cn Tn Sn Qn : Nat} {h : am_H} (R : RR W Cn Tn Sn Qn h) {r : am_R} {mf : am_H → am_R} {V : Int32 → Int64} {c b : Int32} (hc : c ≠ 0) (eL : r = m_ri (m_op (m_th h)) c) (eM : mf (m_op (m_th h)) = m_ri (m_si (m_op (m_th h)) 70 0 0 c) b) : OpOK h r mf V :=
  ⟨_, c, _, b, eL, eM, gi_eq, fun z => absurd z hc, rfl, rfl, by rw [nc_si]; show m_nc h + 1 ≤ _; omega, by rw [ns_si]; show m_ns h + 6 ≤ _; omega, W, Cn, Tn, Sn, Qn, rr_eqv (((Frm.refl _ h).th.op rfl).si rfl) R⟩
theorem ok_exv {W Cn Tn Sn Qn : Nat} {h : am_H} (R : RR W Cn Tn Sn Qn h) {r : am_R} {mf : am_H → am_R} {c : Int32} (eL : r = m_ri (m_op (m_th h)) c) (eM : mf (m_op (m_th h)) = m_rt (m_si (m_op (m_th h)) 70 0 0 c) none) : OpOKv h r mf :=
  ⟨_, c, _, eL, eM, gi_eq, rfl, rfl, by rw [nc_si]; show m_nc h + 1 ≤ _; omega, by rw [ns_si]; show m_ns h + 6 ≤ _; omega, W, Cn, Tn, Sn, Qn, rr_eqv (((Frm.refl _ h).th.op rfl).si rfl) R⟩
/-- a question: both answer alike, nothing changes -/
theorem ok_q {W Cn Tn Sn Qn : Nat} {h : am_H} (R : RR W Cn Tn Sn Qn h) {r : am_R} {mf : am_H → am_R} {V : Int32 → Int64} {b : Int32} (eL : r = m_ri (m_sl h 71 0 0 (V b)) 0) (eM : mf (m_sl h 71 0 0 (V b)) = m_ri (m_si (m_sl h 71 0 0 (V b)) 70 0 0 0) b) : OpOK h r mf V :=
  ⟨_, 0, _, b, eL, eM, gi_eq, fun _ => gl_eq, rfl, rfl, Nat.le_add_right _ _, Nat.le_add_right _ _, W, Cn, Tn, Sn, Qn, rr_eqv ((Frm.refl _ h).sl.si rfl) R⟩
/-- what changes something: the class's heap h1, the reference's h2 -/
theorem ok_u {h h1 h2 : am_H} {r : am_R} {mf : am_H → am_R} {V : Int32 → Int64} {b : Int32} (eL : r = m_ri (m_sl h1 71 0 0 (V b)) 0) (eM : mf (m_sl h1 71 0 0 (V b)) = m_ri h2 b) (t : m_gi h2 70 0 0 = 0) (o : m_gl h2 71 0 0 = V b) (s1 : m_gi h1 1 = m_gi h 1) (s2 : m_gi h2 1 = m_gi h 1) (c : m_nc h2 ≤ m_nc h + 2) (n : m_ns h2 ≤ m_ns h + 20) (R : ∃ W Cn Tn Sn Qn, RR W Cn Tn Sn Qn h2) : OpOK h r mf V :=
  ⟨_, 0, _, b, eL, eM, t, fun _ => o, s1, s2, c, n, R⟩
/-! ## the helpers of the law -/
theorem L_block_ret (y0 : Int32) (y1 : Int32) (y2 : Int32) {h h1 : am_H} {v : Int32} (e : f_X10_block (69, 0) y0 y1 y2 h = m_ri h1 v) : f_L_block (some (69, 0)) y0 y1 y2 (some (71, 0)) h = m_ri (m_sl h1 71 0 0 (vB v)) 0 := by
  unfold f_L_block f_L_block_18
  rw [ao_69, e, bIx_ri]
  by_cases hv : v = 0
  · rw [if_pos hv, sL_o, vB, if_pos hv]
  · rw [if_neg hv, sL_o, vB, if_neg hv]
theorem L_block_x0 (y0 : Int32) (y1 : Int32) (y2 : Int32) {h h1 : am_H} (e : f_X10_block (69, 0) y0 y1 y2 h = m_ex h1 0) : f_L_block (some (69, 0)) y0 y1 y2 (some (71, 0)) h = m_ri (m_op (m_th h1)) 1 := by
  unfold f_L_block f_L_block_18
  rw [ao_69, e, bIx_ex]
  rfl
theorem L_block_x1 (y0 : Int32) (y1 : Int32) (y2 : Int32) {h h1 : am_H} (e : f_X10_block (69, 0) y0 y1 y2 h = m_ex h1 1) : f_L_block (some (69, 0)) y0 y1 y2 (some (71, 0)) h = m_ri (m_op (m_th h1)) 2 := by
  unfold f_L_block f_L_block_18
  rw [ao_69, e, bIx_ex]
  rfl
theorem L_change_ret (y0 : Int32) (y1 : Int32) {h h1 : am_H} {v : Int32} (e : f_X10_change (69, 0) y0 y1 h = m_ri h1 v) : f_L_change (some (69, 0)) y0 y1 (some (71, 0)) h = m_ri (m_sl h1 71 0 0 (vB v)) 0 := by
  unfold f_L_change f_L_change_16
  rw [ao_69, e, bIx_ri]
  by_cases hv : v = 0
  · rw [if_pos hv, sL_o, vB, if_pos hv]
  · rw [if_neg hv, sL_o, vB, if_neg hv]
theorem L_change_x0 (y0 : Int32) (y1 : Int32) {h h1 : am_H} (e : f_X10_change (69, 0) y0 y1 h = m_ex h1 0) : f_L_change (some (69, 0)) y0 y1 (some (71, 0)) h = m_ri (m_op (m_th h1)) 1 := by
  unfold f_L_change f_L_change_16
  rw [ao_69, e, bIx_ex]
  rfl
theorem L_change_x1 (y0 : Int32) (y1 : Int32) {h h1 : am_H} (e : f_X10_change (69, 0) y0 y1 h = m_ex h1 1) : f_L_change (some (69, 0)) y0 y1 (some (71, 0)) h = m_ri (m_op (m_th h1)) 2 := by
  unfold f_L_change f_L_change_16
  rw [ao_69, e, bIx_ex]
  rfl
theorem L_chapter_ret (y0 : Int32) {h h1 : am_H} {v : Int32} (e : f_X10_chapter (69, 0) y0 h = m_ri h1 v) : f_L_chapter (some (69, 0)) y0 (some (71, 0)) h = m_ri (m_sl h1 71 0 0 (vI v)) 0 := by
  unfold f_L_chapter 
  rw [ao_69, e, bIx_ri, sL_o]; rfl
theorem L_chapter_x0 (y0 : Int32) {h h1 : am_H} (e : f_X10_chapter (69, 0) y0 h = m_ex h1 0) : f_L_chapter (some (69, 0)) y0 (some (71, 0)) h = m_ri (m_op (m_th h1)) 1 := by
  unfold f_L_chapter 
  rw [ao_69, e, bIx_ex]
  rfl
theorem L_chapter_x2 (y0 : Int32) {h h1 : am_H} (e : f_X10_chapter (69, 0) y0 h = m_ex h1 2) : f_L_chapter (some (69, 0)) y0 (some (71, 0)) h = m_ri (m_op (m_th h1)) 2 := by
  unfold f_L_chapter 
  rw [ao_69, e, bIx_ex]
  rfl
theorem L_collect_ret (y0 : Int32) (y1 : Int32) {h h1 : am_H} (e : f_X10_collect (69, 0) y0 y1 h = m_rt h1 none) : f_L_collect (some (69, 0)) y0 y1 h = m_ri h1 0 := by
  unfold f_L_collect 
  rw [ao_69, e, bVx_rt]
theorem L_collect_x0 (y0 : Int32) (y1 : Int32) {h h1 : am_H} (e : f_X10_collect (69, 0) y0 y1 h = m_ex h1 0) : f_L_collect (some (69, 0)) y0 y1 h = m_ri (m_op (m_th h1)) 1 := by
  unfold f_L_collect 
  rw [ao_69, e, bVx_ex]
  rfl
theorem L_collect_x2 (y0 : Int32) (y1 : Int32) {h h1 : am_H} (e : f_X10_collect (69, 0) y0 y1 h = m_ex h1 2) : f_L_collect (some (69, 0)) y0 y1 h = m_ri (m_op (m_th h1)) 2 := by
  unfold f_L_collect 
  rw [ao_69, e, bVx_ex]
  rfl
theorem L_collection_ret (y0 : Int32) (y1 : Int32) {h h1 : am_H} {v : Int32} (e : f_X10_collection (69, 0) y0 y1 h = m_ri h1 v) : f_L_collection (some (69, 0)) y0 y1 (some (71, 0)) h = m_ri (m_sl h1 71 0 0 (vI v)) 0 := by
  unfold f_L_collection 
  rw [ao_69, e, bIx_ri, sL_o]; rfl
theorem L_collection_x1 (y0 : Int32) (y1 : Int32) {h h1 : am_H} (e : f_X10_collection (69, 0) y0 y1 h = m_ex h1 1) : f_L_collection (some (69, 0)) y0 y1 (some (71, 0)) h = m_ri (m_op (m_th h1)) 1 := by
  unfold f_L_collection 
  rw [ao_69, e, bIx_ex]
  rfl
theorem L_collection_x2 (y0 : Int32) (y1 : Int32) {h h1 : am_H} (e : f_X10_collection (69, 0) y0 y1 h = m_ex h1 2) : f_L_collection (some (69, 0)) y0 y1 (some (71, 0)) h = m_ri (m_op (m_th h1)) 2 := by
  unfold f_L_collection 
  rw [ao_69, e, bIx_ex]
  rfl
theorem L_comment_ret (y0 : Int32) (y1 : Int32) (y2 : Int32) {h h1 : am_H} {v : Int32} (e : f_X10_comment (69, 0) y0 y1 y2 h = m_ri h1 v) : f_L_comment (some (69, 0)) y0 y1 y2 (some (71, 0)) h = m_ri (m_sl h1 71 0 0 (vI v)) 0 := by
  unfold f_L_comment 
  rw [ao_69, e, bIx_ri, sL_o]; rfl
theorem L_comment_x0 (y0 : Int32) (y1 : Int32) (y2 : Int32) {h h1 : am_H} (e : f_X10_comment (69, 0) y0 y1 y2 h = m_ex h1 0) : f_L_comment (some (69, 0)) y0 y1 y2 (some (71, 0)) h = m_ri (m_op (m_th h1)) 1 := by
  unfold f_L_comment 
  rw [ao_69, e, bIx_ex]
  rfl
theorem L_comment_x1 (y0 : Int32) (y1 : Int32) (y2 : Int32) {h h1 : am_H} (e : f_X10_comment (69, 0) y0 y1 y2 h = m_ex h1 1) : f_L_comment (some (69, 0)) y0 y1 y2 (some (71, 0)) h = m_ri (m_op (m_th h1)) 2 := by
  unfold f_L_comment 
  rw [ao_69, e, bIx_ex]
  rfl
theorem L_comment_x2 (y0 : Int32) (y1 : Int32) (y2 : Int32) {h h1 : am_H} (e : f_X10_comment (69, 0) y0 y1 y2 h = m_ex h1 2) : f_L_comment (some (69, 0)) y0 y1 y2 (some (71, 0)) h = m_ri (m_op (m_th h1)) 3 := by
  unfold f_L_comment 
  rw [ao_69, e, bIx_ex]
  rfl
theorem L_digest_ret (y0 : Int32) {h h1 : am_H} {v : Int32} (e : f_X10_digest (69, 0) y0 h = m_ri h1 v) : f_L_digest (some (69, 0)) y0 (some (71, 0)) h = m_ri (m_sl h1 71 0 0 (vI v)) 0 := by
  unfold f_L_digest 
  rw [ao_69, e, bIx_ri, sL_o]; rfl
theorem L_digest_x0 (y0 : Int32) {h h1 : am_H} (e : f_X10_digest (69, 0) y0 h = m_ex h1 0) : f_L_digest (some (69, 0)) y0 (some (71, 0)) h = m_ri (m_op (m_th h1)) 1 := by
  unfold f_L_digest 
  rw [ao_69, e, bIx_ex]
  rfl
theorem L_join_ret (y0 : Int32) (y1 : Int32) {h h1 : am_H} {v : Int32} (e : f_X10_join (69, 0) y0 y1 h = m_ri h1 v) : f_L_join (some (69, 0)) y0 y1 (some (71, 0)) h = m_ri (m_sl h1 71 0 0 (vI v)) 0 := by
  unfold f_L_join 
  rw [ao_69, e, bIx_ri, sL_o]; rfl
theorem L_join_x0 (y0 : Int32) (y1 : Int32) {h h1 : am_H} (e : f_X10_join (69, 0) y0 y1 h = m_ex h1 0) : f_L_join (some (69, 0)) y0 y1 (some (71, 0)) h = m_ri (m_op (m_th h1)) 1 := by
  unfold f_L_join 
  rw [ao_69, e, bIx_ex]
  rfl
theorem L_join_x2 (y0 : Int32) (y1 : Int32) {h h1 : am_H} (e : f_X10_join (69, 0) y0 y1 h = m_ex h1 2) : f_L_join (some (69, 0)) y0 y1 (some (71, 0)) h = m_ri (m_op (m_th h1)) 2 := by
  unfold f_L_join 
  rw [ao_69, e, bIx_ex]
  rfl
theorem L_kudos_ret (y0 : Int32) (y1 : Int32) {h h1 : am_H} {v : Int32} (e : f_X10_kudos (69, 0) y0 y1 h = m_ri h1 v) : f_L_kudos (some (69, 0)) y0 y1 (some (71, 0)) h = m_ri (m_sl h1 71 0 0 (vI v)) 0 := by
  unfold f_L_kudos 
  rw [ao_69, e, bIx_ri, sL_o]; rfl
theorem L_kudos_x0 (y0 : Int32) (y1 : Int32) {h h1 : am_H} (e : f_X10_kudos (69, 0) y0 y1 h = m_ex h1 0) : f_L_kudos (some (69, 0)) y0 y1 (some (71, 0)) h = m_ri (m_op (m_th h1)) 1 := by
  unfold f_L_kudos 
  rw [ao_69, e, bIx_ex]
  rfl
theorem L_kudos_x2 (y0 : Int32) (y1 : Int32) {h h1 : am_H} (e : f_X10_kudos (69, 0) y0 y1 h = m_ex h1 2) : f_L_kudos (some (69, 0)) y0 y1 (some (71, 0)) h = m_ri (m_op (m_th h1)) 2 := by
  unfold f_L_kudos 
  rw [ao_69, e, bIx_ex]
  rfl
theorem L_leave_ret (y0 : Int32) (y1 : Int32) {h h1 : am_H} {v : Int32} (e : f_X10_leave (69, 0) y0 y1 h = m_ri h1 v) : f_L_leave (some (69, 0)) y0 y1 (some (71, 0)) h = m_ri (m_sl h1 71 0 0 (vI v)) 0 := by
  unfold f_L_leave 
  rw [ao_69, e, bIx_ri, sL_o]; rfl
theorem L_leave_x0 (y0 : Int32) (y1 : Int32) {h h1 : am_H} (e : f_X10_leave (69, 0) y0 y1 h = m_ex h1 0) : f_L_leave (some (69, 0)) y0 y1 (some (71, 0)) h = m_ri (m_op (m_th h1)) 1 := by
  unfold f_L_leave 
  rw [ao_69, e, bIx_ex]
  rfl
theorem L_leave_x2 (y0 : Int32) (y1 : Int32) {h h1 : am_H} (e : f_X10_leave (69, 0) y0 y1 h = m_ex h1 2) : f_L_leave (some (69, 0)) y0 y1 (some (71, 0)) h = m_ri (m_op (m_th h1)) 2 := by
  unfold f_L_leave 
  rw [ao_69, e, bIx_ex]
  rfl
theorem L_liked_ret (y0 : Int32) {h h1 : am_H} {v : Int32} (e : f_X10_liked (69, 0) y0 h = m_ri h1 v) : f_L_liked (some (69, 0)) y0 (some (71, 0)) h = m_ri (m_sl h1 71 0 0 (vI v)) 0 := by
  unfold f_L_liked 
  rw [ao_69, e, bIx_ri, sL_o]; rfl
theorem L_liked_x0 (y0 : Int32) {h h1 : am_H} (e : f_X10_liked (69, 0) y0 h = m_ex h1 0) : f_L_liked (some (69, 0)) y0 (some (71, 0)) h = m_ri (m_op (m_th h1)) 1 := by
  unfold f_L_liked 
  rw [ao_69, e, bIx_ex]
  rfl
theorem L_lock_ret (y0 : Int32) (y1 : Int32) {h h1 : am_H} {v : Int32} (e : f_X10_lock (69, 0) y0 y1 h = m_ri h1 v) : f_L_lock (some (69, 0)) y0 y1 (some (71, 0)) h = m_ri (m_sl h1 71 0 0 (vB v)) 0 := by
  unfold f_L_lock f_L_lock_16
  rw [ao_69, e, bIx_ri]
  by_cases hv : v = 0
  · rw [if_pos hv, sL_o, vB, if_pos hv]
  · rw [if_neg hv, sL_o, vB, if_neg hv]
theorem L_lock_x0 (y0 : Int32) (y1 : Int32) {h h1 : am_H} (e : f_X10_lock (69, 0) y0 y1 h = m_ex h1 0) : f_L_lock (some (69, 0)) y0 y1 (some (71, 0)) h = m_ri (m_op (m_th h1)) 1 := by
  unfold f_L_lock f_L_lock_16
  rw [ao_69, e, bIx_ex]
  rfl
theorem L_make_ret (y0 : Int32) {h h1 : am_H} {v : Int32} (e : f_X10_make (69, 0) y0 h = m_ri h1 v) : f_L_make (some (69, 0)) y0 (some (71, 0)) h = m_ri (m_sl h1 71 0 0 (vI v)) 0 := by
  unfold f_L_make 
  rw [ao_69, e, bIx_ri, sL_o]; rfl
theorem L_make_x0 (y0 : Int32) {h h1 : am_H} (e : f_X10_make (69, 0) y0 h = m_ex h1 0) : f_L_make (some (69, 0)) y0 (some (71, 0)) h = m_ri (m_op (m_th h1)) 1 := by
  unfold f_L_make 
  rw [ao_69, e, bIx_ex]
  rfl
theorem L_make_x2 (y0 : Int32) {h h1 : am_H} (e : f_X10_make (69, 0) y0 h = m_ex h1 2) : f_L_make (some (69, 0)) y0 (some (71, 0)) h = m_ri (m_op (m_th h1)) 2 := by
  unfold f_L_make 
  rw [ao_69, e, bIx_ex]
  rfl
theorem L_match_ret (y0 : Int32) {h h1 : am_H} {v : Int32} (e : f_X10_match (69, 0) y0 h = m_ri h1 v) : f_L_match (some (69, 0)) y0 (some (71, 0)) h = m_ri (m_sl h1 71 0 0 (vI v)) 0 := by
  unfold f_L_match 
  rw [ao_69, e, bIx_ri, sL_o]; rfl
theorem L_match_x0 (y0 : Int32) {h h1 : am_H} (e : f_X10_match (69, 0) y0 h = m_ex h1 0) : f_L_match (some (69, 0)) y0 (some (71, 0)) h = m_ri (m_op (m_th h1)) 1 := by
  unfold f_L_match 
  rw [ao_69, e, bIx_ex]
  rfl
theorem L_merge_ret (y0 : Int32) (y1 : Int32) {h h1 : am_H} {v : Int32} (e : f_X10_merge (69, 0) y0 y1 h = m_ri h1 v) : f_L_merge (some (69, 0)) y0 y1 (some (71, 0)) h = m_ri (m_sl h1 71 0 0 (vI v)) 0 := by
  unfold f_L_merge 
  rw [ao_69, e, bIx_ri, sL_o]; rfl
theorem L_merge_x0 (y0 : Int32) (y1 : Int32) {h h1 : am_H} (e : f_X10_merge (69, 0) y0 y1 h = m_ex h1 0) : f_L_merge (some (69, 0)) y0 y1 (some (71, 0)) h = m_ri (m_op (m_th h1)) 1 := by
  unfold f_L_merge 
  rw [ao_69, e, bIx_ex]
  rfl
theorem L_merge_x1 (y0 : Int32) (y1 : Int32) {h h1 : am_H} (e : f_X10_merge (69, 0) y0 y1 h = m_ex h1 1) : f_L_merge (some (69, 0)) y0 y1 (some (71, 0)) h = m_ri (m_op (m_th h1)) 2 := by
  unfold f_L_merge 
  rw [ao_69, e, bIx_ex]
  rfl
theorem L_merge_x2 (y0 : Int32) (y1 : Int32) {h h1 : am_H} (e : f_X10_merge (69, 0) y0 y1 h = m_ex h1 2) : f_L_merge (some (69, 0)) y0 y1 (some (71, 0)) h = m_ri (m_op (m_th h1)) 3 := by
  unfold f_L_merge 
  rw [ao_69, e, bIx_ex]
  rfl
theorem L_news_ret (y0 : Int32) {h h1 : am_H} {v : Int32} (e : f_X10_news (69, 0) y0 h = m_ri h1 v) : f_L_news (some (69, 0)) y0 (some (71, 0)) h = m_ri (m_sl h1 71 0 0 (vI v)) 0 := by
  unfold f_L_news 
  rw [ao_69, e, bIx_ri, sL_o]; rfl
theorem L_news_x0 (y0 : Int32) {h h1 : am_H} (e : f_X10_news (69, 0) y0 h = m_ex h1 0) : f_L_news (some (69, 0)) y0 (some (71, 0)) h = m_ri (m_op (m_th h1)) 1 := by
  unfold f_L_news 
  rw [ao_69, e, bIx_ex]
  rfl
theorem L_ofTag_ret (y0 : Int32) (y1 : Int32) {h h1 : am_H} {v : Int32} (e : f_X10_ofTag (69, 0) y0 y1 h = m_ri h1 v) : f_L_ofTag (some (69, 0)) y0 y1 (some (71, 0)) h = m_ri (m_sl h1 71 0 0 (vI v)) 0 := by
  unfold f_L_ofTag 
  rw [ao_69, e, bIx_ri, sL_o]; rfl
theorem L_ofTag_x0 (y0 : Int32) (y1 : Int32) {h h1 : am_H} (e : f_X10_ofTag (69, 0) y0 y1 h = m_ex h1 0) : f_L_ofTag (some (69, 0)) y0 y1 (some (71, 0)) h = m_ri (m_op (m_th h1)) 1 := by
  unfold f_L_ofTag 
  rw [ao_69, e, bIx_ex]
  rfl
theorem L_ofTag_x1 (y0 : Int32) (y1 : Int32) {h h1 : am_H} (e : f_X10_ofTag (69, 0) y0 y1 h = m_ex h1 1) : f_L_ofTag (some (69, 0)) y0 y1 (some (71, 0)) h = m_ri (m_op (m_th h1)) 2 := by
  unfold f_L_ofTag 
  rw [ao_69, e, bIx_ex]
  rfl
theorem L_owners_ret (y0 : Int32) (y1 : Int32) {h h1 : am_H} {v : Int32} (e : f_X10_owners (69, 0) y0 y1 h = m_ri h1 v) : f_L_owners (some (69, 0)) y0 y1 (some (71, 0)) h = m_ri (m_sl h1 71 0 0 (vI v)) 0 := by
  unfold f_L_owners 
  rw [ao_69, e, bIx_ri, sL_o]; rfl
theorem L_owners_x0 (y0 : Int32) (y1 : Int32) {h h1 : am_H} (e : f_X10_owners (69, 0) y0 y1 h = m_ex h1 0) : f_L_owners (some (69, 0)) y0 y1 (some (71, 0)) h = m_ri (m_op (m_th h1)) 1 := by
  unfold f_L_owners 
  rw [ao_69, e, bIx_ex]
  rfl
theorem L_parent_ret (y0 : Int32) (y1 : Int32) (y2 : Int32) {h h1 : am_H} {v : Int32} (e : f_X10_parent (69, 0) y0 y1 y2 h = m_ri h1 v) : f_L_parent (some (69, 0)) y0 y1 y2 (some (71, 0)) h = m_ri (m_sl h1 71 0 0 (vB v)) 0 := by
  unfold f_L_parent f_L_parent_18
  rw [ao_69, e, bIx_ri]
  by_cases hv : v = 0
  · rw [if_pos hv, sL_o, vB, if_pos hv]
  · rw [if_neg hv, sL_o, vB, if_neg hv]
theorem L_parent_x0 (y0 : Int32) (y1 : Int32) (y2 : Int32) {h h1 : am_H} (e : f_X10_parent (69, 0) y0 y1 y2 h = m_ex h1 0) : f_L_parent (some (69, 0)) y0 y1 y2 (some (71, 0)) h = m_ri (m_op (m_th h1)) 1 := by
  unfold f_L_parent f_L_parent_18
  rw [ao_69, e, bIx_ex]
  rfl
theorem L_parent_x1 (y0 : Int32) (y1 : Int32) (y2 : Int32) {h h1 : am_H} (e : f_X10_parent (69, 0) y0 y1 y2 h = m_ex h1 1) : f_L_parent (some (69, 0)) y0 y1 y2 (some (71, 0)) h = m_ri (m_op (m_th h1)) 2 := by
  unfold f_L_parent f_L_parent_18
  rw [ao_69, e, bIx_ex]
  rfl
theorem L_parent_x2 (y0 : Int32) (y1 : Int32) (y2 : Int32) {h h1 : am_H} (e : f_X10_parent (69, 0) y0 y1 y2 h = m_ex h1 2) : f_L_parent (some (69, 0)) y0 y1 y2 (some (71, 0)) h = m_ri (m_op (m_th h1)) 3 := by
  unfold f_L_parent f_L_parent_18
  rw [ao_69, e, bIx_ex]
  rfl
theorem L_pass_ret (y0 : Int32) {h h1 : am_H} {v : Int32} (e : f_X10_pass (69, 0) y0 h = m_ri h1 v) : f_L_pass (some (69, 0)) y0 (some (71, 0)) h = m_ri (m_sl h1 71 0 0 (vI v)) 0 := by
  unfold f_L_pass 
  rw [ao_69, e, bIx_ri, sL_o]; rfl
theorem L_pass_x1 (y0 : Int32) {h h1 : am_H} (e : f_X10_pass (69, 0) y0 h = m_ex h1 1) : f_L_pass (some (69, 0)) y0 (some (71, 0)) h = m_ri (m_op (m_th h1)) 1 := by
  unfold f_L_pass 
  rw [ao_69, e, bIx_ex]
  rfl
theorem L_pass_x2 (y0 : Int32) {h h1 : am_H} (e : f_X10_pass (69, 0) y0 h = m_ex h1 2) : f_L_pass (some (69, 0)) y0 (some (71, 0)) h = m_ri (m_op (m_th h1)) 2 := by
  unfold f_L_pass 
  rw [ao_69, e, bIx_ex]
  rfl
theorem L_post_ret (y0 : Int32) {h h1 : am_H} {v : Int32} (e : f_X10_post (69, 0) y0 h = m_ri h1 v) : f_L_post (some (69, 0)) y0 (some (71, 0)) h = m_ri (m_sl h1 71 0 0 (vI v)) 0 := by
  unfold f_L_post 
  rw [ao_69, e, bIx_ri, sL_o]; rfl
theorem L_post_x0 (y0 : Int32) {h h1 : am_H} (e : f_X10_post (69, 0) y0 h = m_ex h1 0) : f_L_post (some (69, 0)) y0 (some (71, 0)) h = m_ri (m_op (m_th h1)) 1 := by
  unfold f_L_post 
  rw [ao_69, e, bIx_ex]
  rfl
theorem L_post_x2 (y0 : Int32) {h h1 : am_H} (e : f_X10_post (69, 0) y0 h = m_ex h1 2) : f_L_post (some (69, 0)) y0 (some (71, 0)) h = m_ri (m_op (m_th h1)) 2 := by
  unfold f_L_post 
  rw [ao_69, e, bIx_ex]
  rfl
theorem L_put_ret (y0 : Int32) (y1 : Int32) (y2 : Int32) {h h1 : am_H} {v : Int32} (e : f_X10_put (69, 0) y0 y1 y2 h = m_ri h1 v) : f_L_put (some (69, 0)) y0 y1 y2 (some (71, 0)) h = m_ri (m_sl h1 71 0 0 (vB v)) 0 := by
  unfold f_L_put f_L_put_18
  rw [ao_69, e, bIx_ri]
  by_cases hv : v = 0
  · rw [if_pos hv, sL_o, vB, if_pos hv]
  · rw [if_neg hv, sL_o, vB, if_neg hv]
theorem L_put_x0 (y0 : Int32) (y1 : Int32) (y2 : Int32) {h h1 : am_H} (e : f_X10_put (69, 0) y0 y1 y2 h = m_ex h1 0) : f_L_put (some (69, 0)) y0 y1 y2 (some (71, 0)) h = m_ri (m_op (m_th h1)) 1 := by
  unfold f_L_put f_L_put_18
  rw [ao_69, e, bIx_ex]
  rfl
theorem L_reads_ret (y0 : Int32) (y1 : Int32) {h h1 : am_H} {v : Int32} (e : f_X10_reads (69, 0) y0 y1 h = m_ri h1 v) : f_L_reads (some (69, 0)) y0 y1 (some (71, 0)) h = m_ri (m_sl h1 71 0 0 (vI v)) 0 := by
  unfold f_L_reads 
  rw [ao_69, e, bIx_ri, sL_o]; rfl
theorem L_reads_x0 (y0 : Int32) (y1 : Int32) {h h1 : am_H} (e : f_X10_reads (69, 0) y0 y1 h = m_ex h1 0) : f_L_reads (some (69, 0)) y0 y1 (some (71, 0)) h = m_ri (m_op (m_th h1)) 1 := by
  unfold f_L_reads 
  rw [ao_69, e, bIx_ex]
  rfl
theorem L_result_ret (y0 : Int32) (y1 : Int32) {h h1 : am_H} {v : Int32} (e : f_X10_result (69, 0) y0 y1 h = m_ri h1 v) : f_L_result (some (69, 0)) y0 y1 (some (71, 0)) h = m_ri (m_sl h1 71 0 0 (vI v)) 0 := by
  unfold f_L_result 
  rw [ao_69, e, bIx_ri, sL_o]; rfl
theorem L_result_x0 (y0 : Int32) (y1 : Int32) {h h1 : am_H} (e : f_X10_result (69, 0) y0 y1 h = m_ex h1 0) : f_L_result (some (69, 0)) y0 y1 (some (71, 0)) h = m_ri (m_op (m_th h1)) 1 := by
  unfold f_L_result 
  rw [ao_69, e, bIx_ex]
  rfl
theorem L_result_x1 (y0 : Int32) (y1 : Int32) {h h1 : am_H} (e : f_X10_result (69, 0) y0 y1 h = m_ex h1 1) : f_L_result (some (69, 0)) y0 y1 (some (71, 0)) h = m_ri (m_op (m_th h1)) 2 := by
  unfold f_L_result 
  rw [ao_69, e, bIx_ex]
  rfl
theorem L_same_ret (y0 : Int32) (y1 : Int32) {h h1 : am_H} {v : Int32} (e : f_X10_same (69, 0) y0 y1 h = m_ri h1 v) : f_L_same (some (69, 0)) y0 y1 (some (71, 0)) h = m_ri (m_sl h1 71 0 0 (vB v)) 0 := by
  unfold f_L_same f_L_same_16
  rw [ao_69, e, bIx_ri]
  by_cases hv : v = 0
  · rw [if_pos hv, sL_o, vB, if_pos hv]
  · rw [if_neg hv, sL_o, vB, if_neg hv]
theorem L_same_x0 (y0 : Int32) (y1 : Int32) {h h1 : am_H} (e : f_X10_same (69, 0) y0 y1 h = m_ex h1 0) : f_L_same (some (69, 0)) y0 y1 (some (71, 0)) h = m_ri (m_op (m_th h1)) 1 := by
  unfold f_L_same f_L_same_16
  rw [ao_69, e, bIx_ex]
  rfl
theorem L_screen_ret (y0 : Int32) (y1 : Int32) {h h1 : am_H} {v : Int32} (e : f_X10_screen (69, 0) y0 y1 h = m_ri h1 v) : f_L_screen (some (69, 0)) y0 y1 (some (71, 0)) h = m_ri (m_sl h1 71 0 0 (vB v)) 0 := by
  unfold f_L_screen f_L_screen_16
  rw [ao_69, e, bIx_ri]
  by_cases hv : v = 0
  · rw [if_pos hv, sL_o, vB, if_pos hv]
  · rw [if_neg hv, sL_o, vB, if_neg hv]
theorem L_screen_x0 (y0 : Int32) (y1 : Int32) {h h1 : am_H} (e : f_X10_screen (69, 0) y0 y1 h = m_ex h1 0) : f_L_screen (some (69, 0)) y0 y1 (some (71, 0)) h = m_ri (m_op (m_th h1)) 1 := by
  unfold f_L_screen f_L_screen_16
  rw [ao_69, e, bIx_ex]
  rfl
theorem L_search_ret (y0 : Int32) (y1 : Int32) {h h1 : am_H} {v : Int32} (e : f_X10_search (69, 0) y0 y1 h = m_ri h1 v) : f_L_search (some (69, 0)) y0 y1 (some (71, 0)) h = m_ri (m_sl h1 71 0 0 (vI v)) 0 := by
  unfold f_L_search 
  rw [ao_69, e, bIx_ri, sL_o]; rfl
theorem L_search_x0 (y0 : Int32) (y1 : Int32) {h h1 : am_H} (e : f_X10_search (69, 0) y0 y1 h = m_ex h1 0) : f_L_search (some (69, 0)) y0 y1 (some (71, 0)) h = m_ri (m_op (m_th h1)) 1 := by
  unfold f_L_search 
  rw [ao_69, e, bIx_ex]
  rfl
theorem L_search_x1 (y0 : Int32) (y1 : Int32) {h h1 : am_H} (e : f_X10_search (69, 0) y0 y1 h = m_ex h1 1) : f_L_search (some (69, 0)) y0 y1 (some (71, 0)) h = m_ri (m_op (m_th h1)) 2 := by
  unfold f_L_search 
  rw [ao_69, e, bIx_ex]
  rfl
theorem L_sees_ret (y0 : Int32) (y1 : Int32) {h h1 : am_H} {v : Int32} (e : f_X10_sees (69, 0) y0 y1 h = m_ri h1 v) : f_L_sees (some (69, 0)) y0 y1 (some (71, 0)) h = m_ri (m_sl h1 71 0 0 (vB v)) 0 := by
  unfold f_L_sees f_L_sees_16
  rw [ao_69, e, bIx_ri]
  by_cases hv : v = 0
  · rw [if_pos hv, sL_o, vB, if_pos hv]
  · rw [if_neg hv, sL_o, vB, if_neg hv]
theorem L_sees_x0 (y0 : Int32) (y1 : Int32) {h h1 : am_H} (e : f_X10_sees (69, 0) y0 y1 h = m_ex h1 0) : f_L_sees (some (69, 0)) y0 y1 (some (71, 0)) h = m_ri (m_op (m_th h1)) 1 := by
  unfold f_L_sees f_L_sees_16
  rw [ao_69, e, bIx_ex]
  rfl
theorem L_sign_ret (y0 : Int32) (y1 : Int32) (y2 : Int32) (y3 : Int32) {h h1 : am_H} {v : Int32} (e : f_X10_sign (69, 0) y0 y1 y2 y3 h = m_ri h1 v) : f_L_sign (some (69, 0)) y0 y1 y2 y3 (some (71, 0)) h = m_ri (m_sl h1 71 0 0 (vI v)) 0 := by
  unfold f_L_sign 
  rw [ao_69, e, bIx_ri, sL_o]; rfl
theorem L_sign_x0 (y0 : Int32) (y1 : Int32) (y2 : Int32) (y3 : Int32) {h h1 : am_H} (e : f_X10_sign (69, 0) y0 y1 y2 y3 h = m_ex h1 0) : f_L_sign (some (69, 0)) y0 y1 y2 y3 (some (71, 0)) h = m_ri (m_op (m_th h1)) 1 := by
  unfold f_L_sign 
  rw [ao_69, e, bIx_ex]
  rfl
theorem L_sign_x1 (y0 : Int32) (y1 : Int32) (y2 : Int32) (y3 : Int32) {h h1 : am_H} (e : f_X10_sign (69, 0) y0 y1 y2 y3 h = m_ex h1 1) : f_L_sign (some (69, 0)) y0 y1 y2 y3 (some (71, 0)) h = m_ri (m_op (m_th h1)) 2 := by
  unfold f_L_sign 
  rw [ao_69, e, bIx_ex]
  rfl
theorem L_sign_x2 (y0 : Int32) (y1 : Int32) (y2 : Int32) (y3 : Int32) {h h1 : am_H} (e : f_X10_sign (69, 0) y0 y1 y2 y3 h = m_ex h1 2) : f_L_sign (some (69, 0)) y0 y1 y2 y3 (some (71, 0)) h = m_ri (m_op (m_th h1)) 3 := by
  unfold f_L_sign 
  rw [ao_69, e, bIx_ex]
  rfl
theorem L_subscribe_ret (y0 : Int32) (y1 : Int32) (y2 : Int32) {h h1 : am_H} {v : Int32} (e : f_X10_subscribe (69, 0) y0 y1 y2 h = m_ri h1 v) : f_L_subscribe (some (69, 0)) y0 y1 y2 (some (71, 0)) h = m_ri (m_sl h1 71 0 0 (vB v)) 0 := by
  unfold f_L_subscribe f_L_subscribe_18
  rw [ao_69, e, bIx_ri]
  by_cases hv : v = 0
  · rw [if_pos hv, sL_o, vB, if_pos hv]
  · rw [if_neg hv, sL_o, vB, if_neg hv]
theorem L_subscribe_x0 (y0 : Int32) (y1 : Int32) (y2 : Int32) {h h1 : am_H} (e : f_X10_subscribe (69, 0) y0 y1 y2 h = m_ex h1 0) : f_L_subscribe (some (69, 0)) y0 y1 y2 (some (71, 0)) h = m_ri (m_op (m_th h1)) 1 := by
  unfold f_L_subscribe f_L_subscribe_18
  rw [ao_69, e, bIx_ex]
  rfl
theorem L_tag_ret  {h h1 : am_H} {v : Int32} (e : f_X10_tag (69, 0)  h = m_ri h1 v) : f_L_tag (some (69, 0))  (some (71, 0)) h = m_ri (m_sl h1 71 0 0 (vI v)) 0 := by
  unfold f_L_tag 
  rw [ao_69, e, bIx_ri, sL_o]; rfl
theorem L_tag_x2  {h h1 : am_H} (e : f_X10_tag (69, 0)  h = m_ex h1 2) : f_L_tag (some (69, 0))  (some (71, 0)) h = m_ri (m_op (m_th h1)) 1 := by
  unfold f_L_tag 
  rw [ao_69, e, bIx_ex]
  rfl
theorem L_type_ret (y0 : Int64) (y1 : Int32) {h h1 : am_H} {v : Int32} (e : f_X10_type (69, 0) y0 y1 h = m_ri h1 v) : f_L_type (some (69, 0)) y0 y1 (some (71, 0)) h = m_ri (m_sl h1 71 0 0 (vI v)) 0 := by
  unfold f_L_type 
  rw [ao_69, e, bIx_ri, sL_o]; rfl
theorem L_type_x1 (y0 : Int64) (y1 : Int32) {h h1 : am_H} (e : f_X10_type (69, 0) y0 y1 h = m_ex h1 1) : f_L_type (some (69, 0)) y0 y1 (some (71, 0)) h = m_ri (m_op (m_th h1)) 1 := by
  unfold f_L_type 
  rw [ao_69, e, bIx_ex]
  rfl
theorem L_type_x2 (y0 : Int64) (y1 : Int32) {h h1 : am_H} (e : f_X10_type (69, 0) y0 y1 h = m_ex h1 2) : f_L_type (some (69, 0)) y0 y1 (some (71, 0)) h = m_ri (m_op (m_th h1)) 2 := by
  unfold f_L_type 
  rw [ao_69, e, bIx_ex]
  rfl
theorem L_under_ret (y0 : Int32) (y1 : Int32) {h h1 : am_H} {v : Int32} (e : f_X10_under (69, 0) y0 y1 h = m_ri h1 v) : f_L_under (some (69, 0)) y0 y1 (some (71, 0)) h = m_ri (m_sl h1 71 0 0 (vI v)) 0 := by
  unfold f_L_under 
  rw [ao_69, e, bIx_ri, sL_o]; rfl
theorem L_under_x0 (y0 : Int32) (y1 : Int32) {h h1 : am_H} (e : f_X10_under (69, 0) y0 y1 h = m_ex h1 0) : f_L_under (some (69, 0)) y0 y1 (some (71, 0)) h = m_ri (m_op (m_th h1)) 1 := by
  unfold f_L_under 
  rw [ao_69, e, bIx_ex]
  rfl
theorem L_wave_ret (y0 : Int32) {h h1 : am_H} {v : Int32} (e : f_X10_wave (69, 0) y0 h = m_ri h1 v) : f_L_wave (some (69, 0)) y0 (some (71, 0)) h = m_ri (m_sl h1 71 0 0 (vI v)) 0 := by
  unfold f_L_wave 
  rw [ao_69, e, bIx_ri, sL_o]; rfl
theorem L_wave_x1 (y0 : Int32) {h h1 : am_H} (e : f_X10_wave (69, 0) y0 h = m_ex h1 1) : f_L_wave (some (69, 0)) y0 (some (71, 0)) h = m_ri (m_op (m_th h1)) 1 := by
  unfold f_L_wave 
  rw [ao_69, e, bIx_ex]
  rfl
theorem L_work_ret (y0 : Int32) (y1 : Int32) {h h1 : am_H} {v : Int32} (e : f_X10_work (69, 0) y0 y1 h = m_ri h1 v) : f_L_work (some (69, 0)) y0 y1 (some (71, 0)) h = m_ri (m_sl h1 71 0 0 (vI v)) 0 := by
  unfold f_L_work 
  rw [ao_69, e, bIx_ri, sL_o]; rfl
theorem L_work_x0 (y0 : Int32) (y1 : Int32) {h h1 : am_H} (e : f_X10_work (69, 0) y0 y1 h = m_ex h1 0) : f_L_work (some (69, 0)) y0 y1 (some (71, 0)) h = m_ri (m_op (m_th h1)) 1 := by
  unfold f_L_work 
  rw [ao_69, e, bIx_ex]
  rfl
theorem L_work_x1 (y0 : Int32) (y1 : Int32) {h h1 : am_H} (e : f_X10_work (69, 0) y0 y1 h = m_ex h1 1) : f_L_work (some (69, 0)) y0 y1 (some (71, 0)) h = m_ri (m_op (m_th h1)) 2 := by
  unfold f_L_work 
  rw [ao_69, e, bIx_ex]
  rfl
theorem L_work_x2 (y0 : Int32) (y1 : Int32) {h h1 : am_H} (e : f_X10_work (69, 0) y0 y1 h = m_ex h1 2) : f_L_work (some (69, 0)) y0 y1 (some (71, 0)) h = m_ri (m_op (m_th h1)) 3 := by
  unfold f_L_work 
  rw [ao_69, e, bIx_ex]
  rfl
/-! ## who sees what -/
def ownP (h : am_H) (f k : Nat) : Bool := bt (m_gi h 34 0 k) f
def opP (h : am_H) (k s : Nat) : Bool := decide (m_gi h 39 0 k = -1) || !decide (m_gi h 70 0 1 < m_gi h s 0 (m_gi h 39 0 k).toNatClampNeg)
def seenP (h : am_H) (f k : Nat) : Bool := ownP h f k || (!decide (m_gi h 37 0 k = -1) && opP h k 45 && (decide (m_gi h 38 0 k = 0) || !decide (12 ≤ f)))
def toldP (h : am_H) (f k : Nat) : Bool := seenP h f k && (ownP h f k || opP h k 46)
theorem i12_le {f : Nat} (hf : f < 10000) : ((12 : Int32) ≤ nI f) = (12 ≤ f) := i_le (a := 12) (by omega) hf
section Seen
variable {W Cn : Nat} {h : am_H} {k f : Nat}
theorem c_isOwnedBy (a : RWa W h) (hk : k < W) (hf : f < 32) : f_X9_isOwnedBy (27, k) (nI f) h = m_ri h (bI (ownP h f k)) := by
  simp only [f_X9_isOwnedBy, gI_27, c_has hf, bJ_ri, rz_bI, (a k hk).2.1, ownP]
theorem r_isOwner (G : ShM h) (a : RWa W h) (hk : k < W) (h20 : k < 20) (hf : f < 32) : f_X11_isOwner (70, 0) (nI f) (nI k) h = m_ri h (bI (ownP h f k)) := by
  simp only [f_X11_isOwner_24, f_X11_isOwner_23, f_X11_isOwner, gR_70, pm_6 G, aI_34 h20, r_has hf, bI_ri, i12_le (show f < 10000 by omega), rz_0, rz_1, bI_eq0, ownP]
  by_cases h1 : 12 ≤ f
  · rw [if_pos h1, (a k hk).2.2.2 f h1]; rfl
  · rw [if_neg h1]; cases bt (m_gi h 34 0 k) f <;> rfl
theorem c_isPosted (p : RWp W h) (hk : k < W) : f_X9_isPosted (27, k) h = m_ri h (bI (!decide (m_gi h 37 0 k = -1))) := by
  simp only [f_X9_isPosted_13, f_X9_isPosted, gI_27, (p k hk).1, rz_0, rz_1]
  by_cases e : m_gi h 37 0 k = -1
  · rw [if_pos e, decide_eq_true e]; rfl
  · rw [if_neg e, decide_eq_false e]; rfl
theorem c_isSeenBy (a : RWa W h) (p : RWp W h) (l : RWl W h) (o : RWo W Cn h) (C : RCo Cn h) (hk : k < W) (hf : f < 32) : f_X9_isSeenBy (27, k) (nI f) (m_gi h 70 0 1) h = m_ri h (bI (seenP h f k)) := by
  simp only [f_X9_isSeenBy_63, f_X9_isSeenBy_62, f_X9_isSeenBy_58, f_X9_isSeenBy_33, f_X9_isSeenBy_28, f_X9_isSeenBy, ao_27, gI_27, gR_27, c_isOwnedBy a hk hf, c_isPosted p hk, bI_ri, rz_0, rz_1, bI_eq0, l.1 k hk, i12_le (show f < 10000 by omega), seenP]
  cases ownP h f k
  · rcases o k hk with ⟨o1, o2⟩ | ⟨c, hc, o1, o2⟩
    · simp only [o1, opP, o2]
      by_cases e1 : m_gi h 37 0 k = -1 <;> by_cases e2 : m_gi h 38 0 k = 0 <;> by_cases e3 : 12 ≤ f <;> simp [e1, e2, e3] <;> rfl
    · have hc6 : c < 6 := Nat.lt_of_lt_of_le hc C.1
      simp only [o1, opP, o2, gI_28, (C.2.2.2.2 c hc).2.1, eq_false (nI_m1 (show c < 10000 by omega)), nI_clamp (show c < 2 ^ 31 by omega)]
      by_cases e4 : m_gi h 70 0 1 < m_gi h 45 0 c <;> by_cases e1 : m_gi h 37 0 k = -1 <;> by_cases e2 : m_gi h 38 0 k = 0 <;> by_cases e3 : 12 ≤ f <;> simp [e1, e2, e3, e4] <;> rfl
  · simp
    rfl
theorem r_isSeen (G : ShM h) (a : RWa W h) (o : RWo W Cn h) (C : RCo Cn h) (hk : k < W) (h20 : k < 20) (hf : f < 32) : f_X11_isSeen (70, 0) (nI f) (nI k) h = m_ri h (bI (seenP h f k)) := by
  simp only [f_X11_isSeen_77, f_X11_isSeen_76, f_X11_isSeen_72, f_X11_isSeen_33, f_X11_isSeen_28, f_X11_isSeen, ao_70, gI_70, gR_70, pm_11 G, aI_39 h20, r_isOwner G a hk h20 hf, bI_ri, rz_0, rz_1, bI_eq0, pm_9 G, aI_37 h20, pm_10 G, aI_38 h20, i12_le (show f < 10000 by omega), seenP]
  rcases o k hk with ⟨o1, o2⟩ | ⟨c, hc, o1, o2⟩
  · simp only [opP, o2, if_true]
    cases ownP h f k <;> by_cases e1 : m_gi h 37 0 k = -1 <;> by_cases e2 : m_gi h 38 0 k = 0 <;> by_cases e3 : 12 ≤ f <;> simp [e1, e2, e3] <;> rfl
  · have hc6 : c < 6 := Nat.lt_of_lt_of_le hc C.1
    simp only [opP, o2, eq_false (nI_m1 (show c < 10000 by omega)), if_false, pm_18 G, aI_45 hc6, nI_clamp (show c < 2 ^ 31 by omega)]
    cases ownP h f k <;> by_cases e4 : m_gi h 70 0 1 < m_gi h 45 0 c <;> by_cases e1 : m_gi h 37 0 k = -1 <;> by_cases e2 : m_gi h 38 0 k = 0 <;> by_cases e3 : 12 ≤ f <;> simp [e1, e2, e3, e4] <;> rfl
theorem c_ownersToldTo (a : RWa W h) (p : RWp W h) (l : RWl W h) (o : RWo W Cn h) (C : RCo Cn h) (hk : k < W) (hf : f < 32) : f_X9_ownersToldTo (27, k) (nI f) (m_gi h 70 0 1) h = m_ri h (if toldP h f k then m_gi h 34 0 k else 0) := by
  simp only [f_X9_ownersToldTo_53, f_X9_ownersToldTo_52, f_X9_ownersToldTo_45, f_X9_ownersToldTo_23, f_X9_ownersToldTo_18, f_X9_ownersToldTo, ao_27, gI_27, gR_27, c_isOwnedBy a hk hf, c_isSeenBy a p l o C hk hf, bI_ri, bI_eq0, (a k hk).2.1, toldP]
  rcases o k hk with ⟨o1, o2⟩ | ⟨c, hc, o1, o2⟩
  · simp only [o1, opP, o2]
    cases seenP h f k <;> cases ownP h f k <;> simp
  · have hc6 : c < 6 := Nat.lt_of_lt_of_le hc C.1
    simp only [o1, opP, o2, gI_28, (C.2.2.2.2 c hc).2.2, eq_false (nI_m1 (show c < 10000 by omega)), nI_clamp (show c < 2 ^ 31 by omega)]
    cases seenP h f k <;> cases ownP h f k <;> by_cases e4 : m_gi h 70 0 1 < m_gi h 46 0 c <;> simp [e4]
theorem r_areTold (G : ShM h) (a : RWa W h) (o : RWo W Cn h) (C : RCo Cn h) (hk : k < W) (h20 : k < 20) (hf : f < 32) : f_X11_areTold (70, 0) (nI f) (nI k) h = m_ri h (bI (toldP h f k)) := by
  simp only [f_X11_areTold_61, f_X11_areTold_60, f_X11_areTold_56, f_X11_areTold_33, f_X11_areTold_28, f_X11_areTold, ao_70, gI_70, gR_70, pm_11 G, aI_39 h20, r_isOwner G a hk h20 hf, r_isSeen G a o C hk h20 hf, bI_ri, rz_0, rz_1, bI_eq0, toldP]
  rcases o k hk with ⟨o1, o2⟩ | ⟨c, hc, o1, o2⟩
  · simp only [opP, o2, if_true]
    cases seenP h f k <;> cases ownP h f k <;> simp <;> rfl
  · have hc6 : c < 6 := Nat.lt_of_lt_of_le hc C.1
    simp only [opP, o2, eq_false (nI_m1 (show c < 10000 by omega)), if_false, pm_19 G, aI_46 hc6, nI_clamp (show c < 2 ^ 31 by omega)]
    cases seenP h f k <;> cases ownP h f k <;> by_cases e4 : m_gi h 70 0 1 < m_gi h 46 0 c <;> simp [e4] <;> rfl
end Seen
theorem op_lock {W Cn Tn Sn Qn : Nat} {h : am_H} (R : RR W Cn Tn Sn Qn h) (x : Int32) (b : Bool) : OpOK h (f_L_lock (some (69, 0)) x (bI b) (some (71, 0)) h) (f_X11_lock (70, 0) x (bI b)) vB := by
  have R0 := R
  obtain ⟨H, G, rDay, rBlk, rSam, N, rWa, rWc, rWp, rWl, rWo, rWt, rWf, rWw, rWs, rWk, rCo, rTg, rPa, rTp, rSg, rCm, rSb, rDg⟩ := R
  have hW := N.1
  rcases ix_cases x (n := W) (by omega) with ⟨k, hk, rfl⟩ | hx
  · have h20 : k < 20 := by omega
    have hz := rWl.2.1 k h20
    have e0 := rWl.1 k hk
    refine ok_u (h1 := (m_si h 27 k 5 (bI b))) (b := m_gi h 38 0 k) (h2 := (m_si (m_si (m_sl (m_si h 27 k 5 (bI b)) 71 0 0 (vB (m_gi h 38 0 k))) 70 0 0 0) 38 0 k (bI b))) (L_lock_ret _ _ ?_) ?_ rfl rfl rfl rfl (Nat.le_add_right _ _) (Nat.le_add_right _ _) ?_
    · rw [← e0] at hz ⊢
      simp only [f_X10_lock, ao_69, c_workAt H N hk, bR_ra, gI_27, pZ_27 (nz_bI b), rz_of hz]
    · simp (decide := true) only [f_X11_lock_14, f_X11_lock, nz_0, nz_1, rz_bI, rz_0, rz_1, bI_eq0, bI_t, bI_f, bI_ri, bI_ex, bR_ra, bR_ex, bV_rt, bV_ex, bW_rt, bJ_ri, bIx_ri, bIx_ex, bVx_rt, bVx_ex, gi_ne, gi_eq, gi_sr, gi_sl, gi_th, gi_op, gr_si, gr_sl, gr_th, gr_op, gr_ne, gl_si, gl_sr, gl_th, gl_op, gl_eq, gi_al, gr_al, gl_al, nx_si, nx_sr, nx_sl, nx_th, nx_op, nx_al, nx_als, nc_si, nc_sr, nc_sl, nc_th, nc_op, nc_al, ns_si, ns_sr, ns_sl, ns_th, ns_op, ns_al, aI_31, sZ_31, aI_32, sI_32, aI_33, sI_33, aI_34, sI_34, aI_35, sI_35, aI_36, sI_36, aI_37, sI_37, aI_38, sZ_38, aI_39, sI_39, aI_40, sI_40, aI_41, sI_41, aI_42, sZ_42, aI_43, sZ_43, aI_44, sI_44, aI_45, sI_45, aI_46, sI_46, aI_47, sI_47, aI_48, sI_48, aI_49, sI_49, aI_50, sI_50, aI_51, sZ_51, aI_52, sZ_52, aI_53, sZ_53, aI_54, sI_54, aI_55, sI_55, aI_56, sI_56, aI_57, sI_57, aI_58, sZ_58, aI_59, sI_59, aI_60, sI_60, aI_61, sI_61, aI_62, sI_62, aI_63, sZ_63, aI_64, sZ_64, aI_65, sZ_65, aI_66, sI_66, aI_67, sI_67, aI_68, sZ_68, gI_70, gR_70, pI_70, pR_70, pZ_70, ao_70, aL_71, sL_71, pm_2 G, pm_3 G, pm_5 G, pm_6 G, pm_7 G, pm_8 G, pm_9 G, pm_10 G, pm_11 G, pm_12 G, pm_13 G, pm_14 G, pm_15 G, pm_16 G, pm_18 G, pm_19 G, pm_21 G, pm_22 G, pm_23 G, pm_25 G, pm_26 G, pm_27 G, pm_28 G, pm_31 G, pm_32 G, pm_33 G, pm_34 G, pm_35 G, pm_36 G, pm_38 G, pm_39 G, pm_40 G, pm_41 G, pm_42 G, pm_43 G, pm_44 G, pm_45 G, pm_46 G, r_isWork, N.2.2.1, isIx_ok (show W < 10000 by omega) hk, r_h0, n10, if_false, h20, nz_bI, rz_of hz]
    · have F : Frm (pX [(27, 5)] [38]) h (m_si (m_si (m_sl (m_si h 27 k 5 (bI b)) 71 0 0 (vB (m_gi h 38 0 k))) 70 0 0 0) 38 0 k (bI b)) := (((Frm.refl _ h).si rfl).sl.si rfl).si rfl
      refine ⟨W, Cn, Tn, Sn, Qn, ⟨H.frm F, G.frm F, rDay.frm F, rBlk.frm F, rSam.frm F, N.frm F, rWa.frm F, rWc.frm F, rWp.frm F, ?_, rWo.frm F, rWt.frm F, rWf.frm F, rWw.frm F, rWs.frm F, rWk.frm F, rCo.frm F, rTg.frm F, rPa.frm F, rTp.frm F, rSg.frm F, rCm.frm F, rSb.frm F, rDg.frm F⟩⟩
      have e1 : ∀ j, m_gi (m_si (m_si (m_sl (m_si h 27 k 5 (bI b)) 71 0 0 (vB (m_gi h 38 0 k))) 70 0 0 0) 38 0 k (bI b)) 27 j 5 = if j = k then bI b else m_gi h 27 j 5 := fun j => show m_gi (m_si h 27 k 5 (bI b)) 27 j 5 = _ from gi_upK
      have e2 : ∀ j, m_gi (m_si (m_si (m_sl (m_si h 27 k 5 (bI b)) 71 0 0 (vB (m_gi h 38 0 k))) 70 0 0 0) 38 0 k (bI b)) 38 0 j = if j = k then bI b else m_gi h 38 0 j := fun j => gi_upJ
      obtain ⟨a1, a2, a3⟩ := rWl
      refine ⟨fun j hj => ?_, fun j hj => ?_, fun j h1 h2 => ?_⟩
      · rw [e1, e2, a1 j hj]
      · rw [e2]; split
        · exact nz_bI b
        · exact a2 j hj
      · rw [e2, if_neg (by omega)]; exact a3 j h1 h2
  · refine ok_ex R0 (c := 1) (b := 0) (by decide) (L_lock_x0 _ _ ?_) ?_
    · simp only [f_X10_lock, ao_69, c_workAt_bad N hx, bR_ex]
    · simp (decide := true) only [f_X11_lock_14, f_X11_lock, nz_0, nz_1, rz_bI, rz_0, rz_1, bI_eq0, bI_t, bI_f, bI_ri, bI_ex, bR_ra, bR_ex, bV_rt, bV_ex, bW_rt, bJ_ri, bIx_ri, bIx_ex, bVx_rt, bVx_ex, gi_ne, gi_eq, gi_sr, gi_sl, gi_th, gi_op, gr_si, gr_sl, gr_th, gr_op, gr_ne, gl_si, gl_sr, gl_th, gl_op, gl_eq, gi_al, gr_al, gl_al, nx_si, nx_sr, nx_sl, nx_th, nx_op, nx_al, nx_als, nc_si, nc_sr, nc_sl, nc_th, nc_op, nc_al, ns_si, ns_sr, ns_sl, ns_th, ns_op, ns_al, aI_31, sZ_31, aI_32, sI_32, aI_33, sI_33, aI_34, sI_34, aI_35, sI_35, aI_36, sI_36, aI_37, sI_37, aI_38, sZ_38, aI_39, sI_39, aI_40, sI_40, aI_41, sI_41, aI_42, sZ_42, aI_43, sZ_43, aI_44, sI_44, aI_45, sI_45, aI_46, sI_46, aI_47, sI_47, aI_48, sI_48, aI_49, sI_49, aI_50, sI_50, aI_51, sZ_51, aI_52, sZ_52, aI_53, sZ_53, aI_54, sI_54, aI_55, sI_55, aI_56, sI_56, aI_57, sI_57, aI_58, sZ_58, aI_59, sI_59, aI_60, sI_60, aI_61, sI_61, aI_62, sI_62, aI_63, sZ_63, aI_64, sZ_64, aI_65, sZ_65, aI_66, sI_66, aI_67, sI_67, aI_68, sZ_68, gI_70, gR_70, pI_70, pR_70, pZ_70, ao_70, aL_71, sL_71, pm_2 G, pm_3 G, pm_5 G, pm_6 G, pm_7 G, pm_8 G, pm_9 G, pm_10 G, pm_11 G, pm_12 G, pm_13 G, pm_14 G, pm_15 G, pm_16 G, pm_18 G, pm_19 G, pm_21 G, pm_22 G, pm_23 G, pm_25 G, pm_26 G, pm_27 G, pm_28 G, pm_31 G, pm_32 G, pm_33 G, pm_34 G, pm_35 G, pm_36 G, pm_38 G, pm_39 G, pm_40 G, pm_41 G, pm_42 G, pm_43 G, pm_44 G, pm_45 G, pm_46 G, r_isWork, N.2.2.1, isIx_bad (show W < 10000 by omega) hx, r_h1, n00, if_true]
theorem op_screen {W Cn Tn Sn Qn : Nat} {h : am_H} (R : RR W Cn Tn Sn Qn h) (x : Int32) (b : Bool) : OpOK h (f_L_screen (some (69, 0)) x (bI b) (some (71, 0)) h) (f_X11_screen (70, 0) x (bI b)) vB := by
  have R0 := R
  obtain ⟨H, G, rDay, rBlk, rSam, N, rWa, rWc, rWp, rWl, rWo, rWt, rWf, rWw, rWs, rWk, rCo, rTg, rPa, rTp, rSg, rCm, rSb, rDg⟩ := R
  have hW := N.1
  rcases ix_cases x (n := W) (by omega) with ⟨k, hk, rfl⟩ | hx
  · have h20 : k < 20 := by omega
    have hz := rWs.2.1 k h20
    have e0 := rWs.1 k hk
    refine ok_u (h1 := (m_si h 27 k 10 (bI b))) (b := m_gi h 43 0 k) (h2 := (m_si (m_si (m_sl (m_si h 27 k 10 (bI b)) 71 0 0 (vB (m_gi h 43 0 k))) 70 0 0 0) 43 0 k (bI b))) (L_screen_ret _ _ ?_) ?_ rfl rfl rfl rfl (Nat.le_add_right _ _) (Nat.le_add_right _ _) ?_
    · rw [← e0] at hz ⊢
      simp only [f_X10_screen, ao_69, c_workAt H N hk, bR_ra, gI_27, pZ_27 (nz_bI b), rz_of hz]
    · simp (decide := true) only [f_X11_screen_14, f_X11_screen, nz_0, nz_1, rz_bI, rz_0, rz_1, bI_eq0, bI_t, bI_f, bI_ri, bI_ex, bR_ra, bR_ex, bV_rt, bV_ex, bW_rt, bJ_ri, bIx_ri, bIx_ex, bVx_rt, bVx_ex, gi_ne, gi_eq, gi_sr, gi_sl, gi_th, gi_op, gr_si, gr_sl, gr_th, gr_op, gr_ne, gl_si, gl_sr, gl_th, gl_op, gl_eq, gi_al, gr_al, gl_al, nx_si, nx_sr, nx_sl, nx_th, nx_op, nx_al, nx_als, nc_si, nc_sr, nc_sl, nc_th, nc_op, nc_al, ns_si, ns_sr, ns_sl, ns_th, ns_op, ns_al, aI_31, sZ_31, aI_32, sI_32, aI_33, sI_33, aI_34, sI_34, aI_35, sI_35, aI_36, sI_36, aI_37, sI_37, aI_38, sZ_38, aI_39, sI_39, aI_40, sI_40, aI_41, sI_41, aI_42, sZ_42, aI_43, sZ_43, aI_44, sI_44, aI_45, sI_45, aI_46, sI_46, aI_47, sI_47, aI_48, sI_48, aI_49, sI_49, aI_50, sI_50, aI_51, sZ_51, aI_52, sZ_52, aI_53, sZ_53, aI_54, sI_54, aI_55, sI_55, aI_56, sI_56, aI_57, sI_57, aI_58, sZ_58, aI_59, sI_59, aI_60, sI_60, aI_61, sI_61, aI_62, sI_62, aI_63, sZ_63, aI_64, sZ_64, aI_65, sZ_65, aI_66, sI_66, aI_67, sI_67, aI_68, sZ_68, gI_70, gR_70, pI_70, pR_70, pZ_70, ao_70, aL_71, sL_71, pm_2 G, pm_3 G, pm_5 G, pm_6 G, pm_7 G, pm_8 G, pm_9 G, pm_10 G, pm_11 G, pm_12 G, pm_13 G, pm_14 G, pm_15 G, pm_16 G, pm_18 G, pm_19 G, pm_21 G, pm_22 G, pm_23 G, pm_25 G, pm_26 G, pm_27 G, pm_28 G, pm_31 G, pm_32 G, pm_33 G, pm_34 G, pm_35 G, pm_36 G, pm_38 G, pm_39 G, pm_40 G, pm_41 G, pm_42 G, pm_43 G, pm_44 G, pm_45 G, pm_46 G, r_isWork, N.2.2.1, isIx_ok (show W < 10000 by omega) hk, r_h0, n10, if_false, h20, nz_bI, rz_of hz]
    · have F : Frm (pX [(27, 10)] [43]) h (m_si (m_si (m_sl (m_si h 27 k 10 (bI b)) 71 0 0 (vB (m_gi h 43 0 k))) 70 0 0 0) 43 0 k (bI b)) := (((Frm.refl _ h).si rfl).sl.si rfl).si rfl
      refine ⟨W, Cn, Tn, Sn, Qn, ⟨H.frm F, G.frm F, rDay.frm F, rBlk.frm F, rSam.frm F, N.frm F, rWa.frm F, rWc.frm F, rWp.frm F, rWl.frm F, rWo.frm F, rWt.frm F, rWf.frm F, rWw.frm F, ?_, rWk.frm F, rCo.frm F, rTg.frm F, rPa.frm F, rTp.frm F, rSg.frm F, rCm.frm F, rSb.frm F, rDg.frm F⟩⟩
      have e1 : ∀ j, m_gi (m_si (m_si (m_sl (m_si h 27 k 10 (bI b)) 71 0 0 (vB (m_gi h 43 0 k))) 70 0 0 0) 43 0 k (bI b)) 27 j 10 = if j = k then bI b else m_gi h 27 j 10 := fun j => show m_gi (m_si h 27 k 10 (bI b)) 27 j 10 = _ from gi_upK
      have e2 : ∀ j, m_gi (m_si (m_si (m_sl (m_si h 27 k 10 (bI b)) 71 0 0 (vB (m_gi h 43 0 k))) 70 0 0 0) 43 0 k (bI b)) 43 0 j = if j = k then bI b else m_gi h 43 0 j := fun j => gi_upJ
      obtain ⟨a1, a2, a3⟩ := rWs
      refine ⟨fun j hj => ?_, fun j hj => ?_, fun j h1 h2 => ?_⟩
      · rw [e1, e2, a1 j hj]
      · rw [e2]; split
        · exact nz_bI b
        · exact a2 j hj
      · rw [e2, if_neg (by omega)]; exact a3 j h1 h2
  · refine ok_ex R0 (c := 1) (b := 0) (by decide) (L_screen_x0 _ _ ?_) ?_
    · simp only [f_X10_screen, ao_69, c_workAt_bad N hx, bR_ex]
    · simp (decide := true) only [f_X11_screen_14, f_X11_screen, nz_0, nz_1, rz_bI, rz_0, rz_1, bI_eq0, bI_t, bI_f, bI_ri, bI_ex, bR_ra, bR_ex, bV_rt, bV_ex, bW_rt, bJ_ri, bIx_ri, bIx_ex, bVx_rt, bVx_ex, gi_ne, gi_eq, gi_sr, gi_sl, gi_th, gi_op, gr_si, gr_sl, gr_th, gr_op, gr_ne, gl_si, gl_sr, gl_th, gl_op, gl_eq, gi_al, gr_al, gl_al, nx_si, nx_sr, nx_sl, nx_th, nx_op, nx_al, nx_als, nc_si, nc_sr, nc_sl, nc_th, nc_op, nc_al, ns_si, ns_sr, ns_sl, ns_th, ns_op, ns_al, aI_31, sZ_31, aI_32, sI_32, aI_33, sI_33, aI_34, sI_34, aI_35, sI_35, aI_36, sI_36, aI_37, sI_37, aI_38, sZ_38, aI_39, sI_39, aI_40, sI_40, aI_41, sI_41, aI_42, sZ_42, aI_43, sZ_43, aI_44, sI_44, aI_45, sI_45, aI_46, sI_46, aI_47, sI_47, aI_48, sI_48, aI_49, sI_49, aI_50, sI_50, aI_51, sZ_51, aI_52, sZ_52, aI_53, sZ_53, aI_54, sI_54, aI_55, sI_55, aI_56, sI_56, aI_57, sI_57, aI_58, sZ_58, aI_59, sI_59, aI_60, sI_60, aI_61, sI_61, aI_62, sI_62, aI_63, sZ_63, aI_64, sZ_64, aI_65, sZ_65, aI_66, sI_66, aI_67, sI_67, aI_68, sZ_68, gI_70, gR_70, pI_70, pR_70, pZ_70, ao_70, aL_71, sL_71, pm_2 G, pm_3 G, pm_5 G, pm_6 G, pm_7 G, pm_8 G, pm_9 G, pm_10 G, pm_11 G, pm_12 G, pm_13 G, pm_14 G, pm_15 G, pm_16 G, pm_18 G, pm_19 G, pm_21 G, pm_22 G, pm_23 G, pm_25 G, pm_26 G, pm_27 G, pm_28 G, pm_31 G, pm_32 G, pm_33 G, pm_34 G, pm_35 G, pm_36 G, pm_38 G, pm_39 G, pm_40 G, pm_41 G, pm_42 G, pm_43 G, pm_44 G, pm_45 G, pm_46 G, r_isWork, N.2.2.1, isIx_bad (show W < 10000 by omega) hx, r_h1, n00, if_true]
theorem op_sees {W Cn Tn Sn Qn : Nat} {h : am_H} (R : RR W Cn Tn Sn Qn h) (x y : Int32) : OpOK h (f_L_sees (some (69, 0)) x y (some (71, 0)) h) (f_X11_sees (70, 0) x y) vB := by
  have R0 := R
  obtain ⟨H, G, rDay, rBlk, rSam, N, rWa, rWc, rWp, rWl, rWo, rWt, rWf, rWw, rWs, rWk, rCo, rTg, rPa, rTp, rSg, rCm, rSb, rDg⟩ := R
  have hW := N.1
  obtain ⟨D, hD, d1, d2⟩ := id rDay
  rcases ix_cases x (n := 32) (by omega) with ⟨f, hf, rfl⟩ | hx
  · rcases ix_cases y (n := W) (by omega) with ⟨k, hk, rfl⟩ | hy
    · have h20 : k < 20 := by omega
      refine ok_q R0 (b := bI (seenP h f k)) (L_sees_ret _ _ ?_) ?_
      · simp only [f_X10_sees, c_checkFace hf, bV_rt, ao_69, c_workAt H N hk, bR_ra, gI_69, ao_27, d1, ← d2, c_isSeenBy rWa rWp rWl rWo rCo hk hf, bI_ri, rz_bI]
      · skip
        have R2 : RR W Cn Tn Sn Qn (m_si (m_sl h 71 0 0 (vB (bI (seenP h f k)))) 70 0 0 0) := rr_eqv ((Frm.refl _ h).sl.si rfl) R0
        have e := r_isSeen R2.G R2.rWa R2.rWo R2.rCo hk h20 hf
        have es : seenP (m_si (m_sl h 71 0 0 (vB (bI (seenP h f k)))) 70 0 0 0) f k = seenP h f k := rfl
        simp (decide := true) only [f_X11_sees_41, f_X11_sees_40, f_X11_sees_21, f_X11_sees_20, f_X11_sees, ao_70, bI_ri, r_isFace, r_isWork, gi_sl, N.2.2.1, isIx_ok (show 32 < 10000 by omega) hf, isIx_ok (show W < 10000 by omega) hk, bI_t, r_h0, n10, if_false, e, es, bI_eq0, rz_0, rz_1]
        cases seenP h f k <;> rfl
    · refine ok_ex R0 (c := 1) (b := 0) (by decide) (L_sees_x0 _ _ ?_) ?_
      · simp only [f_X10_sees, c_checkFace hf, bV_rt, ao_69, c_workAt_bad N hy, bR_ex]
      · simp (decide := true) only [f_X11_sees_41, f_X11_sees_40, f_X11_sees_21, f_X11_sees_20, f_X11_sees, ao_70, bI_ri, r_isFace, r_isWork, gi_th, gi_op, N.2.2.1, isIx_ok (show 32 < 10000 by omega) hf, isIx_bad (show W < 10000 by omega) hy, bI_t, bI_f, r_h1, n10, n00, if_false, if_true, rz_0]
  · refine ok_ex R0 (c := 1) (b := 0) (by decide) (L_sees_x0 _ _ ?_) ?_
    · simp only [f_X10_sees, c_checkFace_bad hx, bV_ex]
    · simp (decide := true) only [f_X11_sees_41, f_X11_sees_40, f_X11_sees_21, f_X11_sees_20, f_X11_sees, ao_70, bI_ri, r_isFace, isIx_bad (show 32 < 10000 by omega) hx, bI_f, r_h1, n00, if_true, rz_0]
/-! ## a loop's frame -/
def Lp (P : Nat → Nat → Bool) (h g : am_H) : Prop := Frm P h g ∧ m_gl g = m_gl h ∧ m_nc g = m_nc h ∧ m_ns g = m_ns h
theorem Lp.refl (P : Nat → Nat → Bool) (h : am_H) : Lp P h h := ⟨Frm.refl P h, rfl, rfl, rfl⟩
theorem Lp.si {P : Nat → Nat → Bool} {h g : am_H} (F : Lp P h g) {s k j : Nat} {v : Int32} (p : P s j = false) : Lp P h (m_si g s k j v) := ⟨F.1.si p, F.2⟩
theorem Lp.cp {P : Nat → Nat → Bool} {h g : am_H} (F : Lp P h g) {s k sp t w dp n : Nat} (p : ∀ j, P t j = false) : Lp P h (m_cp g s k sp t w dp n) := ⟨F.1.cp p, F.2⟩
theorem Lp.trans {P : Nat → Nat → Bool} {a b c : am_H} (h1 : Lp P a b) (h2 : Lp P b c) : Lp P a c := ⟨h1.1.trans h2.1, h2.2.1.trans h1.2.1, h2.2.2.1.trans h1.2.2.1, h2.2.2.2.trans h1.2.2.2⟩
/-! ## ways up -/
def Pth (R : Nat → Nat → Prop) : Nat → Nat → Nat → Prop
  | 0, t, u => R t u
  | n + 1, t, u => Pth R n t u ∨ (Pth R n t n ∧ Pth R n n u)
theorem Pth.tg {R : Nat → Nat → Prop} : ∀ {n t u : Nat}, Pth R n t u → Relation.TransGen R t u
  | 0, _, _, h => Relation.TransGen.single h
  | _ + 1, _, _, h => by
    rcases h with h | ⟨h1, h2⟩
    · exact Pth.tg h
    · exact Relation.TransGen.trans (Pth.tg h1) (Pth.tg h2)
theorem Pth.tr {R : Nat → Nat → Prop} : ∀ {n m t u : Nat}, m < n → Pth R n t m → Pth R n m u → Pth R n t u
  | 0, m, _, _, hm, _, _ => absurd hm (Nat.not_lt_zero _)
  | n + 1, m, t, u, hm, h1, h2 => by
    rcases Nat.lt_or_ge m n with hn | hn
    · rcases h1 with h1 | ⟨a1, a2⟩ <;> rcases h2 with h2 | ⟨b1, b2⟩
      · exact Or.inl (Pth.tr hn h1 h2)
      · exact Or.inr ⟨Pth.tr hn h1 b1, b2⟩
      · exact Or.inr ⟨a1, Pth.tr hn a2 h2⟩
      · exact Or.inr ⟨a1, b2⟩
    · have e : m = n := by omega
      subst e
      have k1 : Pth R m t m := by rcases h1 with h1 | h1
                                  · exact h1
                                  · exact h1.1
      have k2 : Pth R m m u := by rcases h2 with h2 | h2
                                  · exact h2
                                  · exact h2.2
      exact Or.inr ⟨k1, k2⟩
theorem Pth.le {R : Nat → Nat → Prop} {t u : Nat} : ∀ {n : Nat}, R t u → Pth R n t u
  | 0, h => h
  | _ + 1, h => Or.inl (Pth.le h)
theorem Pth.of_tg {R : Nat → Nat → Prop} {N : Nat} (hR : ∀ a b, R a b → a < N) {t u : Nat} (h : Relation.TransGen R t u) : Pth R N t u := by
  induction h with
  | single h => exact Pth.le h
  | tail _ h2 ih => exact Pth.tr (hR _ _ h2) ih (Pth.le h2)
theorem Pth.self {R : Nat → Nat → Prop} {n u : Nat} : Pth R (n + 1) n u ↔ Pth R n n u := by
  constructor
  · rintro (h | h)
    · exact h
    · exact h.2
  · exact Or.inl
theorem m_gi_cp {h : am_H} {s k sp t w dp n a b c : Nat} : m_gi (m_cp h s k sp t w dp n) a b c = if a = t ∧ b = w then (if dp ≤ c ∧ c < dp + n then m_gi h s k (sp + (c - dp)) else m_gi h t w c) else m_gi h a b c := rfl
theorem cpy_12 {h : am_H} {K : am_H → am_R} : m_cpy (some (12, 0)) 0 (some (13, 0)) 0 30 h K = K (m_cp h 12 0 0 13 0 0 30) := rfl
section Above
variable {Tn : Nat} {h : am_H}
theorem c_fa27 (hT : Tn ≤ 30) {R : Nat → Nat → Prop} {b : Nat} (hb : b < Tn) (rc : Nat × Nat → Int32 → am_H → am_R) (H : ShC h) (e0 : m_gi h 21 0 0 = nI Tn) : ∀ (n k : Nat) (g : am_H), k ≤ Tn → Tn < k + n → Lp (pX [] [13]) h g →
    (∀ t u, t < k → u < 32 → (bt (m_gi g 13 0 t) u = true ↔ Pth R (b + 1) t u)) → (∀ t u, k ≤ t → t < 30 → u < 32 → (bt (m_gi g 13 0 t) u = true ↔ Pth R b t u)) →
    (∀ t u, Tn ≤ t → t < 30 → u < 32 → ¬ Pth R (b + 1) t u) →
    ∃ g', f_X7_findAbove_27 rc n (21, 0) (nI b) (nI k) g = rc (21, 0) (nI (b + 1)) g' ∧ Lp (pX [] [13]) h g' ∧ ∀ t u, t < 30 → u < 32 → (bt (m_gi g' 13 0 t) u = true ↔ Pth R (b + 1) t u)
  | 0, k, g, h1, h2, _, _, _, _ => by omega
  | n + 1, k, g, h1, h2, F, i1, i2, i3 => by
    have e1 : m_gi g 21 0 0 = nI Tn := by rw [F.1.1 21 0 0 rfl, e0]
    have p3 : m_gr g 21 0 3 = some (13, 0) := by rw [F.1.2.1 21 0 3 rfl, pc_abv H]
    rw [f_X7_findAbove_27]
    simp only [gI_21, e1, gR_21, p3, i_le (show Tn < 10000 by omega) (show k < 10000 by omega), nI_1]
    by_cases hk : Tn ≤ k
    · have : k = Tn := by omega
      subst this
      rw [if_pos (Nat.le_refl _)]
      refine ⟨g, rfl, F, fun t u ht hu => ?_⟩
      rcases Nat.lt_or_ge t k with q | q
      · exact i1 t u q hu
      · rw [i2 t u q ht hu]
        exact ⟨fun z => Or.inl z, fun z => absurd z (i3 t u q ht hu)⟩
    · rw [if_neg hk]
      have hk2 : k < Tn := by omega
      have hb32 : b < 32 := by omega
      simp only [aI_13 (show k < 30 by omega), aI_13 (show b < 30 by omega), sI_13 (show k < 30 by omega), c_has hb32, bJ_ri, bI_eq0, f_X7_findAbove_63, nI_1, gR_21, p3]
      have rowb : ∀ u, u < 32 → (bt (m_gi g 13 0 b) u = true ↔ Pth R b b u) := fun u hu => by
        rcases Nat.lt_or_ge b k with q | q
        · rw [i1 b u q hu, Pth.self]
        · exact i2 b u q (by omega) hu
      by_cases hkb : bt (m_gi g 13 0 k) b = true
      · rw [if_neg (by rw [hkb]; simp)]
        refine c_fa27 hT hb rc H e0 n (k + 1) _ hk2 (by omega) (F.si (s := 13) (k := 0) (j := k) rfl) (fun t u ht hu => ?_) (fun t u ht ht2 hu => ?_) i3
        · rw [gi_upJ]
          by_cases e : t = k
          · subst e
            rw [if_pos rfl, b_or, Bool.or_eq_true, i2 t u (Nat.le_refl _) (by omega) hu, rowb u hu]
            exact ⟨fun z => z.elim Or.inl (fun z => Or.inr ⟨(i2 t b (Nat.le_refl _) (by omega) hb32).mp hkb, z⟩), fun z => z.elim Or.inl (fun z => Or.inr z.2)⟩
          · rw [if_neg e]; exact i1 t u (by omega) hu
        · rw [gi_upJ, if_neg (by omega)]; exact i2 t u (by omega) ht2 hu
      · rw [if_pos (by simpa using hkb)]
        refine c_fa27 hT hb rc H e0 n (k + 1) g hk2 (by omega) F (fun t u ht hu => ?_) (fun t u ht ht2 hu => i2 t u (by omega) ht2 hu) i3
        by_cases e : t = k
        · subst e
          rw [i2 t u (Nat.le_refl _) (by omega) hu]
          exact ⟨fun z => Or.inl z, fun z => z.elim id (fun z => absurd ((i2 t b (Nat.le_refl _) (by omega) hb32).mpr z.1) hkb)⟩
        · exact i1 t u (by omega) hu
theorem c_fa17 (hT : Tn ≤ 30) {R : Nat → Nat → Prop} (H : ShC h) (e0 : m_gi h 21 0 0 = nI Tn) (hR : ∀ a b, R a b → a < Tn) : ∀ (n b : Nat) (g : am_H), b ≤ Tn → Tn < b + n → Lp (pX [] [13]) h g →
    (∀ t u, t < 30 → u < 32 → (bt (m_gi g 13 0 t) u = true ↔ Pth R b t u)) →
    ∃ g', f_X7_findAbove_17 n (21, 0) (nI b) g = m_rt g' none ∧ Lp (pX [] [13]) h g' ∧ ∀ t u, t < 30 → u < 32 → (bt (m_gi g' 13 0 t) u = true ↔ Pth R Tn t u)
  | 0, b, g, h1, h2, _, _ => by omega
  | n + 1, b, g, h1, h2, F, i1 => by
    have e1 : m_gi g 21 0 0 = nI Tn := by rw [F.1.1 21 0 0 rfl, e0]
    rw [f_X7_findAbove_17]
    simp only [gI_21, e1, i_le (show Tn < 10000 by omega) (show b < 10000 by omega)]
    by_cases hk : Tn ≤ b
    · have : b = Tn := by omega
      subst this
      rw [if_pos (Nat.le_refl _)]
      exact ⟨g, rfl, F, i1⟩
    · rw [if_neg hk]
      have np : ∀ m t u, Tn ≤ t → ¬ Pth R m t u := fun m t u ht z => by
        have q : ∀ {a c : Nat}, Relation.TransGen R a c → a < Tn := fun {a c} w => by
          induction w with
          | single h => exact hR _ _ h
          | tail _ _ ih => exact ih
        have := q (Pth.tg z)
        omega
      obtain ⟨g1, r1, F1, j1⟩ := c_fa27 (h := h) hT (R := R) (b := b) (by omega) (f_X7_findAbove_17 n) H e0 5000 0 g (by omega) (by omega) F (fun t u ht => absurd ht (by omega)) (fun t u _ ht hu => i1 t u ht hu) (fun t u ht _ _ => np _ t u ht)
      obtain ⟨g2, r2, F2, j2⟩ := c_fa17 hT H e0 hR n (b + 1) g1 (by omega) (by omega) F1 j1
      exact ⟨g2, by rw [show (0 : Int32) = nI 0 from nI_0.symm, r1, r2], F2, j2⟩
theorem c_findAbove0 (hT : Tn ≤ 30) (H : ShC h) (e0 : m_gi h 21 0 0 = nI Tn) (hR : ∀ a b, a < 30 → bt (m_gi h 12 0 a) b = true → a < Tn) (n : Nat) (hn : 100 ≤ n) :
    ∃ g, f_X7_findAbove_17 n (21, 0) 0 (m_cp h 12 0 0 13 0 0 30) = m_rt g none ∧ Lp (pX [] [13]) h g ∧ ∀ t u, t < 30 → u < 32 → (bt (m_gi g 13 0 t) u = true ↔ Relation.TransGen (fun a b => a < 30 ∧ bt (m_gi h 12 0 a) b = true) t u) := by
  have F0 : Lp (pX [] [13]) h (m_cp h 12 0 0 13 0 0 30) := (Lp.refl _ h).cp (fun _ => rfl)
  have i0 : ∀ t u, t < 30 → u < 32 → (bt (m_gi (m_cp h 12 0 0 13 0 0 30) 13 0 t) u = true ↔ Pth (fun a b => a < 30 ∧ bt (m_gi h 12 0 a) b = true) 0 t u) := fun t u ht hu => by
    rw [m_gi_cp, if_pos ⟨rfl, rfl⟩, if_pos (by omega)]
    have e : 0 + (t - 0) = t := by omega
    rw [e]
    exact ⟨fun z => ⟨ht, z⟩, fun z => z.2⟩
  obtain ⟨g, r, F, j⟩ := c_fa17 (h := h) hT (R := fun a b => a < 30 ∧ bt (m_gi h 12 0 a) b = true) H e0 (fun a b z => hR a b z.1 z.2) n 0 _ (by omega) (by omega) F0 i0
  rw [nI_0] at r
  exact ⟨g, r, F, fun t u ht hu => (j t u ht hu).trans ⟨Pth.tg, fun z => Pth.of_tg (fun a b q => hR a b q.1 q.2) z⟩⟩
theorem c_fa_end (H : ShC h) {g : am_H} (r : f_X7_findAbove_17 5000 (21, 0) 0 (m_cp h 12 0 0 13 0 0 30) = m_rt g none) : f_X7_findAbove (21, 0) h = m_rt g none := by
  rw [f_X7_findAbove, gR_21, pc_par H, gR_21, pc_abv H, cpy_12]
  exact r
theorem c_findAbove (hT : Tn ≤ 30) (H : ShC h) (e0 : m_gi h 21 0 0 = nI Tn) (hR : ∀ a b, a < 30 → bt (m_gi h 12 0 a) b = true → a < Tn) :
    ∃ g, f_X7_findAbove (21, 0) h = m_rt g none ∧ Lp (pX [] [13]) h g ∧ ∀ t u, t < 30 → u < 32 → (bt (m_gi g 13 0 t) u = true ↔ Relation.TransGen (fun a b => a < 30 ∧ bt (m_gi h 12 0 a) b = true) t u) := by
  obtain ⟨g, r, F, j⟩ := c_findAbove0 hT H e0 hR 5000 (by decide)
  exact ⟨g, c_fa_end H r, F, j⟩
end Above
/-! ## tags: kinds, meanings, what is above -/
theorem cnt_mono {P Q : Nat → Bool} : ∀ {n : Nat}, (∀ i, i < n → P i = true → Q i = true) → cnt P n ≤ cnt Q n
  | 0, _ => Nat.le_refl _
  | n + 1, h => by
    have ih := cnt_mono (P := P) (Q := Q) (n := n) (fun i hi => h i (by omega))
    rw [cnt, cnt]
    have := h n (by omega)
    cases hp : P n
    · simp; omega
    · rw [this hp]; simp; exact ih
theorem cnt_lt {P Q : Nat → Bool} : ∀ {n i : Nat}, i < n → (∀ i, i < n → P i = true → Q i = true) → P i = false → Q i = true → cnt P n < cnt Q n
  | 0, _, hi, _, _, _ => absurd hi (by omega)
  | n + 1, i, hi, h, hp, hq => by
    rw [cnt, cnt]
    by_cases e : i = n
    · subst e
      have := cnt_mono (P := P) (Q := Q) (n := i) (fun j hj => h j (by omega))
      rw [hp, hq]; simp; omega
    · have ih := cnt_lt (P := P) (Q := Q) (n := n) (i := i) (by omega) (fun j hj => h j (by omega)) hp hq
      have := h n (by omega)
      cases hpn : P n
      · simp; omega
      · rw [this hpn]; simp; omega
theorem pcn_lt {s t : Int32} (hst : ∀ i, i < 32 → bt s i = true → bt t i = true) (hne : s ≠ t) : pcn s 32 < pcn t 32 := by
  rw [pcn_cnt, pcn_cnt]
  have : ∃ i, i < 32 ∧ bt s i = false ∧ bt t i = true := by
    apply Classical.byContradiction
    intro hn
    apply hne
    apply b_ext
    intro i hi
    cases hs : bt s i
    · cases ht : bt t i
      · rfl
      · exact absurd ⟨i, hi, hs, ht⟩ hn
    · rw [hst i hi hs]
  obtain ⟨i, hi, h1, h2⟩ := this
  exact cnt_lt hi hst h1 h2
/-- x with the f k of all k below n that c holds of -/
def orS (f : Nat → Int32) (c : Nat → Bool) (x : Int32) : Nat → Int32
  | 0 => x
  | n + 1 => orS f c x n ||| (if c n then f n else 0)
theorem bt_orS {f : Nat → Int32} {c : Nat → Bool} {x : Int32} {i : Nat} : ∀ {n : Nat}, bt (orS f c x n) i = true ↔ bt x i = true ∨ ∃ k, k < n ∧ c k = true ∧ bt (f k) i = true
  | 0 => ⟨Or.inl, fun h => h.elim id (fun ⟨k, hk, _⟩ => absurd hk (by omega))⟩
  | n + 1 => by
    rw [orS, b_or, Bool.or_eq_true, bt_orS (n := n)]
    constructor
    · rintro ((h | ⟨k, hk, h1, h2⟩) | h)
      · exact Or.inl h
      · exact Or.inr ⟨k, by omega, h1, h2⟩
      · cases hc : c n
        · rw [hc] at h; simp [b_0] at h
        · rw [hc] at h; exact Or.inr ⟨n, by omega, hc, by simpa using h⟩
    · rintro (h | ⟨k, hk, h1, h2⟩)
      · exact Or.inl (Or.inl h)
      · by_cases e : k = n
        · subst e; right; rw [h1]; simpa using h2
        · exact Or.inl (Or.inr ⟨k, by omega, h1, h2⟩)
section Tags
variable {W Tn : Nat} {h : am_H} {t : Nat}
theorem c_kindOf (H : ShC h) (T : RTg Tn h) (ht : t < Tn) : f_X7_kindOf (21, 0) (nI t) h = m_ri h (m_gi h 47 0 t) := by
  have hT := T.1
  simp only [f_X7_kindOf_27, f_X7_kindOf, gR_21, pc_mean H, aI_11 (show t < 30 by omega)]
  rcases T.2.2.2.1 t ht with ⟨a, b⟩ | ⟨a, b⟩ | ⟨a, m, hm, hne, b, _, _⟩
  · rw [b, if_pos rfl, a]
  · rw [b, if_neg (nI_m1 (by omega)), if_pos rfl, a]
  · rw [b, if_neg (nI_m1 (by omega)), if_neg (by rw [i_eq (by omega) (by omega)]; exact hne), a]
theorem r_meaning (G : ShM h) (T : RTg Tn h) (ht : t < Tn) : f_X11_meaning (70, 0) (nI t) h = m_ri h (m_gi h 11 0 t) := by
  have hT := T.1
  simp only [f_X11_meaning_34, f_X11_meaning, gR_70, pm_21 G, aI_47 (show t < 30 by omega), pm_22 G, aI_48 (show t < 30 by omega)]
  rcases T.2.2.2.1 t ht with ⟨a, b⟩ | ⟨a, b⟩ | ⟨a, m, hm, hne, b, b2, _⟩
  · rw [a, b]; rfl
  · rw [a, b]; rfl
  · rw [a, b, b2]; rfl
theorem c_isAbove (H : ShC h) (ht : t < 30) {u : Nat} (hu : u < 32) : f_X7_isAbove (21, 0) (nI u) (nI t) h = m_ri h (bI (bt (m_gi h 13 0 t) u)) := by
  simp only [f_X7_isAbove, gR_21, pc_abv H, aI_13 ht, c_has hu, bJ_ri, rz_bI]
theorem c_isParent (H : ShC h) (ht : t < 30) {u : Nat} (hu : u < 32) : f_X7_isParent (21, 0) (nI u) (nI t) h = m_ri h (bI (bt (m_gi h 12 0 t) u)) := by
  simp only [f_X7_isParent, gR_21, pc_par H, aI_12 ht, c_has hu, bJ_ri, rz_bI]
theorem or_0 (x : Int32) : x ||| 0 = x := by
  apply b_ext; intro i _; rw [b_or, b_0, Bool.or_false]
theorem r_abv19 (G : ShM h) (e : m_gi h 70 0 20 = nI Tn) (hT : Tn ≤ 30) (rc : Nat × Nat → Int32 → Int32 → am_H → am_R) (s : Int32) : ∀ (n k : Nat), k ≤ Tn → Tn < k + n →
    f_X11_aboveOf_19 rc n (70, 0) (orS (fun j => m_gi h 49 0 j) (bt s) s k) s (nI k) h = rc (70, 0) (orS (fun j => m_gi h 49 0 j) (bt s) s Tn) s h
  | 0, k, h1, h2 => by omega
  | n + 1, k, h1, h2 => by
    rw [f_X11_aboveOf_19]
    simp only [gI_70, e, i_le (show Tn < 10000 by omega) (show k < 10000 by omega)]
    by_cases hk : Tn ≤ k
    · rw [if_pos hk, show k = Tn by omega]
    · rw [if_neg hk]
      have ih := r_abv19 G e hT rc s n (k + 1) (by omega) (by omega)
      rw [orS] at ih
      simp only [r_has (show k < 32 by omega), bI_ri, gR_70, pm_23 G, aI_49 (show k < 30 by omega), f_X11_aboveOf_49, nI_1, bI_eq0]
      cases hb : bt s k
      · rw [hb] at ih
        simpa using ih
      · rw [hb] at ih
        simpa using ih
theorem r_abv9 (G : ShM h) (T : RTg Tn h) (A : RPa Tn h) (ht : t < 30) : ∀ (n : Nat) (s b : Int32), (∀ u, u < 32 → bt s u = true → bt (m_gi h 13 0 t) u = true) → (∀ u, bt (m_gi h 49 0 t) u = true → bt s u = true) →
    (b = -1 ∨ s = orS (fun j => m_gi h 49 0 j) (bt b) b Tn) → (34 ≤ n + pcn s 32 ∨ (s = b ∧ 1 ≤ n)) → f_X11_aboveOf_9 n (70, 0) s b h = m_ri h (m_gi h 13 0 t)
  | 0, s, b, _, _, _, h4 => by
    have := pcn_le s 32
    omega
  | n + 1, s, b, h1, h2, h3, h4 => by
    have hT := T.1
    obtain ⟨A1, A2, A3⟩ := A
    have hi : ∀ {u v : Nat}, v < 32 → Relation.TransGen (fun a b => a < 30 ∧ bt (m_gi h 49 0 a) b = true) u v → v < Tn := fun {u v} _ w => by
      cases w with
      | single q => exact (A2 _ _ q.1 q.2).2.1
      | tail _ q => exact (A2 _ _ q.1 q.2).2.1
    rw [f_X11_aboveOf_9]
    by_cases e : s = b
    · rw [if_pos e]
      rcases h3 with h3 | h3
      · exfalso
        have q := h1 31 (by omega) (by rw [e, h3]; exact b_m1 31 (by omega))
        have := hi (by omega) ((A3 t 31 ht (by omega)).mp q)
        omega
      · rw [← e] at h3
        have hc : ∀ k, k < Tn → bt s k = true → ∀ u, bt (m_gi h 49 0 k) u = true → bt s u = true := fun k hk hb u hu => by
          rw [h3]; exact bt_orS.mpr (Or.inr ⟨k, hk, hb, hu⟩)
        congr 1
        apply b_ext
        intro u hu
        cases hs : bt s u
        · cases ha : bt (m_gi h 13 0 t) u
          · rfl
          · exfalso
            have w := (A3 t u ht hu).mp ha
            have : bt s u = true := by
              clear hs ha hu
              induction w with
              | single q => exact h2 _ q.2
              | tail w q ih => exact hc _ (A2 _ _ q.1 q.2).1 ih _ q.2
            rw [this] at hs; cases hs
        · exact (h1 u hu hs).symm
    · rw [if_neg e]
      replace h4 : 34 ≤ n + 1 + pcn s 32 := h4.elim id (fun z => absurd z.1 e)
      have e0 : orS (fun j => m_gi h 49 0 j) (bt s) s 0 = s := rfl
      have key := r_abv19 G T.2.2.1 hT (f_X11_aboveOf_9 n) s 5000 0 (by omega) (by omega)
      rw [e0, nI_0] at key
      rw [key]
      apply r_abv9 G T ⟨A1, A2, A3⟩ ht n
      · intro u hu hb
        rcases bt_orS.mp hb with q | ⟨k, hk, q1, q2⟩
        · exact h1 u hu q
        · exact (A3 t u ht hu).mpr (Relation.TransGen.tail ((A3 t k ht (by omega)).mp (h1 k (by omega) q1)) ⟨by omega, q2⟩)
      · intro u hu
        exact bt_orS.mpr (Or.inl (h2 u hu))
      · exact Or.inr rfl
      · by_cases e2 : s = orS (fun j => m_gi h 49 0 j) (bt s) s Tn
        · have := pcn_le s 32
          exact Or.inr ⟨e2.symm, by omega⟩
        · have := pcn_lt (fun u _ hu => bt_orS.mpr (Or.inl hu)) e2
          left
          omega
theorem r_aboveOf (G : ShM h) (T : RTg Tn h) (A : RPa Tn h) (ht : t < 30) : f_X11_aboveOf (70, 0) (nI t) h = m_ri h (m_gi h 13 0 t) := by
  simp only [f_X11_aboveOf, gR_70, pm_23 G, aI_49 ht]
  exact r_abv9 G T A ht 5000 _ _ (fun u hu hb => (A.2.2 t u ht hu).mpr (Relation.TransGen.single ⟨ht, hb⟩)) (fun u hu => hu) (Or.inl rfl) (Or.inl (by omega))
/-- where a set of tags belongs -/
def blg (h : am_H) (s : Int32) : Nat → Int32
  | 0 => 0
  | n + 1 => blg h s n ||| (if bt s n && !decide (m_gi h 11 0 n = -1) then one (m_gi h 11 0 n).toNatClampNeg ||| m_gi h 13 0 (m_gi h 11 0 n).toNatClampNeg else 0)
def mns (h : am_H) (s : Int32) : Nat → Int32
  | 0 => 0
  | n + 1 => mns h s n ||| (if bt s n && !decide (m_gi h 11 0 n = -1) then one (m_gi h 11 0 n).toNatClampNeg else 0)
theorem t_mean (T : RTg Tn h) (ht : t < Tn) : m_gi h 11 0 t = -1 ∨ ∃ m, m < Tn ∧ m_gi h 11 0 t = nI m := by
  rcases T.2.2.2.1 t ht with ⟨_, b⟩ | ⟨_, b⟩ | ⟨_, m, hm, _, b, _⟩
  · exact Or.inl b
  · exact Or.inr ⟨t, ht, b⟩
  · exact Or.inr ⟨m, hm, b⟩
theorem c_belongUnder4 (H : ShC h) (T : RTg Tn h) (s : Int32) : ∀ (n k : Nat), k ≤ Tn → Tn < k + n → f_X7_belongUnder_4 n (21, 0) s (blg h s k) (nI k) h = m_ri h (blg h s Tn)
  | 0, k, h1, h2 => by omega
  | n + 1, k, h1, h2 => by
    have hT := T.1
    rw [f_X7_belongUnder_4]
    simp only [gI_21, T.2.1, i_le (show Tn < 10000 by omega) (show k < 10000 by omega)]
    by_cases hk : Tn ≤ k
    · rw [if_pos hk, show k = Tn by omega]
    · rw [if_neg hk]
      have ih := c_belongUnder4 H T s n (k + 1) (by omega) (by omega)
      rw [blg] at ih
      simp only [c_has (show k < 32 by omega), bJ_ri, gR_21, pc_mean H, pc_abv H, aI_11 (show k < 30 by omega), f_X7_belongUnder_53, nI_1, bI_eq0]
      cases hb : bt s k
      · rw [hb] at ih; simpa [or_0] using ih
      · rw [hb] at ih
        rcases t_mean T (show k < Tn by omega) with q | ⟨m, hm, q⟩
        · rw [q] at ih ⊢; simpa [or_0] using ih
        · rw [q, nI_clamp (show m < 2 ^ 31 by omega)] at ih
          rw [q]
          simp only [aI_13 (show m < 30 by omega), eq_false (nI_m1 (show m < 10000 by omega)), if_false, one_eq] at ih ⊢
          simpa using ih
theorem c_belongUnder (H : ShC h) (T : RTg Tn h) (s : Int32) : f_X7_belongUnder (21, 0) s h = m_ri h (blg h s Tn) := by
  rw [f_X7_belongUnder]
  have := c_belongUnder4 H T s 5000 0 (by omega) (by have := T.1; omega)
  rw [nI_0] at this
  exact this
theorem c_meaningsOf4 (H : ShC h) (T : RTg Tn h) (s : Int32) : ∀ (n k : Nat), k ≤ Tn → Tn < k + n → f_X7_meaningsOf_4 n (21, 0) s (mns h s k) (nI k) h = m_ri h (mns h s Tn)
  | 0, k, h1, h2 => by omega
  | n + 1, k, h1, h2 => by
    have hT := T.1
    rw [f_X7_meaningsOf_4]
    simp only [gI_21, T.2.1, i_le (show Tn < 10000 by omega) (show k < 10000 by omega)]
    by_cases hk : Tn ≤ k
    · rw [if_pos hk, show k = Tn by omega]
    · rw [if_neg hk]
      have ih := c_meaningsOf4 H T s n (k + 1) (by omega) (by omega)
      rw [mns] at ih
      simp only [c_has (show k < 32 by omega), bJ_ri, gR_21, pc_mean H, aI_11 (show k < 30 by omega), f_X7_meaningsOf_41, nI_1, bI_eq0]
      cases hb : bt s k
      · rw [hb] at ih; simpa [or_0] using ih
      · rw [hb] at ih
        rcases t_mean T (show k < Tn by omega) with q | ⟨m, hm, q⟩
        · rw [q] at ih ⊢; simpa [or_0] using ih
        · rw [q, nI_clamp (show m < 2 ^ 31 by omega)] at ih
          rw [q]
          simp only [eq_false (nI_m1 (show m < 10000 by omega)), if_false, one_eq] at ih ⊢
          simpa using ih
theorem c_meaningsOf (H : ShC h) (T : RTg Tn h) (s : Int32) : f_X7_meaningsOf (21, 0) s h = m_ri h (mns h s Tn) := by
  rw [f_X7_meaningsOf]
  have := c_meaningsOf4 H T s 5000 0 (by omega) (by have := T.1; omega)
  rw [nI_0] at this
  exact this
theorem r_belongs4 (G : ShM h) (T : RTg Tn h) (A : RPa Tn h) {w : Nat} (hw : w < 20) : ∀ (n k : Nat), k ≤ Tn → Tn < k + n → f_X11_belongs_4 n (70, 0) (nI w) (blg h (m_gi h 40 0 w) k) (nI k) h = m_ri h (blg h (m_gi h 40 0 w) Tn)
  | 0, k, h1, h2 => by omega
  | n + 1, k, h1, h2 => by
    have hT := T.1
    rw [f_X11_belongs_4]
    simp only [gI_70, T.2.2.1, i_le (show Tn < 10000 by omega) (show k < 10000 by omega)]
    by_cases hk : Tn ≤ k
    · rw [if_pos hk, show k = Tn by omega]
    · rw [if_neg hk]
      have ih := r_belongs4 G T A hw n (k + 1) (by omega) (by omega)
      rw [blg] at ih
      simp only [gR_70, pm_12 G, aI_40 hw, r_has (show k < 32 by omega), bI_ri, ao_70, r_meaning G T (show k < Tn by omega), f_X11_belongs_34, f_X11_belongs_58, nI_1, bI_eq0]
      cases hb : bt (m_gi h 40 0 w) k
      · rw [hb] at ih; simpa [or_0] using ih
      · rw [hb] at ih
        rcases t_mean T (show k < Tn by omega) with q | ⟨m, hm, q⟩
        · rw [q] at ih ⊢; simpa [or_0] using ih
        · rw [q, nI_clamp (show m < 2 ^ 31 by omega)] at ih
          rw [q]
          simp only [r_aboveOf G T A (show m < 30 by omega), bI_ri, eq_false (nI_m1 (show m < 10000 by omega)), if_false, one_eq] at ih ⊢
          simpa using ih
theorem r_belongs (G : ShM h) (T : RTg Tn h) (A : RPa Tn h) {w : Nat} (hw : w < 20) : f_X11_belongs (70, 0) (nI w) h = m_ri h (blg h (m_gi h 40 0 w) Tn) := by
  rw [f_X11_belongs]
  have := r_belongs4 G T A hw 5000 0 (by omega) (by have := T.1; omega)
  rw [nI_0] at this
  exact this
theorem blg_hi (T : RTg Tn h) (A : RPa Tn h) (s : Int32) : ∀ n, n ≤ Tn → ∀ i, Tn ≤ i → bt (blg h s n) i = false
  | 0, _, i, _ => b_0 i
  | n + 1, hn, i, hi => by
    have hT := T.1
    rw [blg, b_or, blg_hi T A s n (by omega) i hi, Bool.false_or]
    split
    · rename_i hc
      rcases t_mean T (show n < Tn by omega) with q | ⟨m, hm, q⟩
      · rw [q] at hc; simp at hc
      · rw [q, nI_clamp (show m < 2 ^ 31 by omega)]
        rcases Nat.lt_or_ge i 32 with h32 | h32
        · rw [b_or, bt_one (by omega) h32, decide_eq_false (by omega), Bool.false_or]
          cases ha : bt (m_gi h 13 0 m) i
          · rfl
          · exfalso
            have w := (A.2.2 m i (by omega) h32).mp ha
            have : i < Tn := by
              cases w with
              | single q => exact (A.2.1 _ _ q.1 q.2).2.1
              | tail _ q => exact (A.2.1 _ _ q.1 q.2).2.1
            omega
        · exact b_big h32
    · exact b_0 i
end Tags
/-- the same of a call that cannot be refused -/
def OpOKn (h : am_H) (c : am_R) (mf : am_H → am_R) : Prop := ∃ (h1 h2 : am_H) (v : Int32), c = m_ri h1 v ∧ mf h1 = m_ri h2 v ∧ m_gi h1 1 = m_gi h 1 ∧ m_gi h2 1 = m_gi h 1 ∧ m_nc h2 ≤ m_nc h + 2 ∧ m_ns h2 ≤ m_ns h + 20 ∧ ∃ W Cn Tn Sn Qn, RR W Cn Tn Sn Qn h2
theorem ok_uv {h h1 h2 : am_H} {r : am_R} {mf : am_H → am_R} (eL : r = m_ri h1 0) (eM : mf h1 = m_rt h2 none) (t : m_gi h2 70 0 0 = 0) (s1 : m_gi h1 1 = m_gi h 1) (s2 : m_gi h2 1 = m_gi h 1) (c : m_nc h2 ≤ m_nc h + 2) (n : m_ns h2 ≤ m_ns h + 20) (R : ∃ W Cn Tn Sn Qn, RR W Cn Tn Sn Qn h2) : OpOKv h r mf := ⟨_, 0, _, eL, eM, t, s1, s2, c, n, R⟩
theorem nz_bv {x : Int32} (h : m_nz x = true) : x = bI (!decide (x = 0)) := by
  rcases nz_cases h with e | e <;> subst e <;> rfl
theorem op_pass {W Cn Tn Sn Qn : Nat} {h : am_H} (R : RR W Cn Tn Sn Qn h) (x : Int32) : OpOK h (f_L_pass (some (69, 0)) x (some (71, 0)) h) (f_X11_pass (70, 0) x) vI := by
  have R0 := R
  obtain ⟨H, G, rDay, rBlk, rSam, N, rWa, rWc, rWp, rWl, rWo, rWt, rWf, rWw, rWs, rWk, rCo, rTg, rPa, rTp, rSg, rCm, rSb, rDg⟩ := R
  obtain ⟨D, hD, d1, d2⟩ := id rDay
  rcases ix_cases x (n := 101) (by omega) with ⟨k, hk, rfl⟩ | hx
  · have c1 : (nI k < (1 : Int32)) = (k < 1) := i_lt (b := 1) (by omega) (by omega)
    have c2 : (nI k ≤ (100 : Int32)) = True := eq_true (nI_le (b := 100) (by omega) (by omega))
    have c2' : ((100 : Int32) < nI k) = False := eq_false (nI_nlt (a := 100) (by omega) (by omega))
    have c3 : (nI (D + k) ≤ (2000 : Int32)) = (D + k ≤ 2000) := i_le (b := 2000) (by omega) (by omega)
    by_cases k0 : k = 0
    · subst k0
      refine ok_ex R0 (c := 1) (b := 0) (by decide) (L_pass_x1 _ ?_) ?_
      · simp (decide := true) only [f_X10_pass_11, f_X10_pass, nz_0, nz_1, rz_bI, rz_0, rz_1, bI_eq0, bI_t, bI_f, bI_ri, bI_ex, bR_ra, bR_ex, bV_rt, bV_ex, bW_rt, bJ_ri, bIx_ri, bIx_ex, bVx_rt, bVx_ex, gi_ne, gi_eq, gi_sr, gi_sl, gi_th, gi_op, gr_si, gr_sl, gr_th, gr_op, gr_ne, gl_si, gl_sr, gl_th, gl_op, gl_eq, gi_al, gr_al, gl_al, nx_si, nx_sr, nx_sl, nx_th, nx_op, nx_al, nx_als, nc_si, nc_sr, nc_sl, nc_th, nc_op, nc_al, ns_si, ns_sr, ns_sl, ns_th, ns_op, ns_al, gi_neI, aR_2, sR_2, aI_3, sI_3, aI_4, sI_4, aI_5, sI_5, aI_6, sI_6, aI_7, sI_7, aI_8, sI_8, aI_9, sI_9, aI_10, sZ_10, aI_11, sI_11, aI_12, sI_12, aI_13, sI_13, aI_14, sC_14, gI_15, gR_15, pI_15, pR_15, pZ_15, ao_15, pC_15, aI_16, sI_16, aI_17, sI_17, aR_18, sR_18, aR_19, sR_19, aR_20, sR_20, gI_21, gR_21, pI_21, pR_21, pZ_21, ao_21, gI_22, gR_22, pI_22, pR_22, pZ_22, ao_22, gI_23, gR_23, pI_23, pR_23, pZ_23, ao_23, gI_24, gR_24, pI_24, pR_24, pZ_24, ao_24, aR_25, sR_25, gI_26, gR_26, pI_26, pR_26, pZ_26, ao_26, gI_27, gR_27, pI_27, pR_27, pZ_27, ao_27, gI_28, gR_28, pI_28, pR_28, pZ_28, ao_28, gI_29, gR_29, pI_29, pR_29, pZ_29, ao_29, gI_30, gR_30, pI_30, pR_30, pZ_30, ao_30, gI_69, gR_69, pI_69, pR_69, pZ_69, ao_69, pc_same H, pc_people H, pc_works H, pc_cols H, pc_tags H, pc_tape H, pc_sieve H, pc_gifts H, pc_coms H, pc_mean H, pc_par H, pc_abv H, pc_chars H, pc_scan H, pc_parts H, pc_items H, pc_nots H, pc_signs H, pc_recv H, pc_ways H, if_true, if_false, c1]
      · simp (decide := true) only [f_X11_pass_32, f_X11_pass, nz_0, nz_1, rz_bI, rz_0, rz_1, bI_eq0, bI_t, bI_f, bI_ri, bI_ex, bR_ra, bR_ex, bV_rt, bV_ex, bW_rt, bJ_ri, bIx_ri, bIx_ex, bVx_rt, bVx_ex, gi_ne, gi_eq, gi_sr, gi_sl, gi_th, gi_op, gr_si, gr_sl, gr_th, gr_op, gr_ne, gl_si, gl_sr, gl_th, gl_op, gl_eq, gi_al, gr_al, gl_al, nx_si, nx_sr, nx_sl, nx_th, nx_op, nx_al, nx_als, nc_si, nc_sr, nc_sl, nc_th, nc_op, nc_al, ns_si, ns_sr, ns_sl, ns_th, ns_op, ns_al, gi_neI, aI_31, sZ_31, aI_32, sI_32, aI_33, sI_33, aI_34, sI_34, aI_35, sI_35, aI_36, sI_36, aI_37, sI_37, aI_38, sZ_38, aI_39, sI_39, aI_40, sI_40, aI_41, sI_41, aI_42, sZ_42, aI_43, sZ_43, aI_44, sI_44, aI_45, sI_45, aI_46, sI_46, aI_47, sI_47, aI_48, sI_48, aI_49, sI_49, aI_50, sI_50, aI_51, sZ_51, aI_52, sZ_52, aI_53, sZ_53, aI_54, sI_54, aI_55, sI_55, aI_56, sI_56, aI_57, sI_57, aI_58, sZ_58, aI_59, sI_59, aI_60, sI_60, aI_61, sI_61, aI_62, sI_62, aI_63, sZ_63, aI_64, sZ_64, aI_65, sZ_65, aI_66, sI_66, aI_67, sI_67, aI_68, sZ_68, gI_70, gR_70, pI_70, pR_70, pZ_70, ao_70, aL_71, sL_71, pm_2 G, pm_3 G, pm_5 G, pm_6 G, pm_7 G, pm_8 G, pm_9 G, pm_10 G, pm_11 G, pm_12 G, pm_13 G, pm_14 G, pm_15 G, pm_16 G, pm_18 G, pm_19 G, pm_21 G, pm_22 G, pm_23 G, pm_25 G, pm_26 G, pm_27 G, pm_28 G, pm_31 G, pm_32 G, pm_33 G, pm_34 G, pm_35 G, pm_36 G, pm_38 G, pm_39 G, pm_40 G, pm_41 G, pm_42 G, pm_43 G, pm_44 G, pm_45 G, pm_46 G, r_isWork, r_isTag, r_isPerson, r_isFace, r_h0, r_h1, r_h2, r_h3, n10, n20, n30, n00, if_true, if_false, r_in, c1]
    · have c1' : (nI k < (1 : Int32)) = False := by rw [c1]; exact eq_false (by omega)
      by_cases hd : D + k ≤ 2000
      · skip
        refine ok_u (h1 := (m_si h 69 0 0 (nI (D + k)))) (b := nI (D + k)) (h2 := (m_si (m_si (m_sl (m_si h 69 0 0 (nI (D + k))) 71 0 0 (vI (nI (D + k)))) 70 0 0 0) 70 0 1 (nI (D + k)))) (L_pass_ret _ ?_) ?_ rfl rfl rfl rfl (Nat.le_add_right _ _) (Nat.le_add_right _ _) ?_
        · simp (decide := true) only [f_X10_pass_11, f_X10_pass, nz_0, nz_1, rz_bI, rz_0, rz_1, bI_eq0, bI_t, bI_f, bI_ri, bI_ex, bR_ra, bR_ex, bV_rt, bV_ex, bW_rt, bJ_ri, bIx_ri, bIx_ex, bVx_rt, bVx_ex, gi_ne, gi_eq, gi_sr, gi_sl, gi_th, gi_op, gr_si, gr_sl, gr_th, gr_op, gr_ne, gl_si, gl_sr, gl_th, gl_op, gl_eq, gi_al, gr_al, gl_al, nx_si, nx_sr, nx_sl, nx_th, nx_op, nx_al, nx_als, nc_si, nc_sr, nc_sl, nc_th, nc_op, nc_al, ns_si, ns_sr, ns_sl, ns_th, ns_op, ns_al, gi_neI, aR_2, sR_2, aI_3, sI_3, aI_4, sI_4, aI_5, sI_5, aI_6, sI_6, aI_7, sI_7, aI_8, sI_8, aI_9, sI_9, aI_10, sZ_10, aI_11, sI_11, aI_12, sI_12, aI_13, sI_13, aI_14, sC_14, gI_15, gR_15, pI_15, pR_15, pZ_15, ao_15, pC_15, aI_16, sI_16, aI_17, sI_17, aR_18, sR_18, aR_19, sR_19, aR_20, sR_20, gI_21, gR_21, pI_21, pR_21, pZ_21, ao_21, gI_22, gR_22, pI_22, pR_22, pZ_22, ao_22, gI_23, gR_23, pI_23, pR_23, pZ_23, ao_23, gI_24, gR_24, pI_24, pR_24, pZ_24, ao_24, aR_25, sR_25, gI_26, gR_26, pI_26, pR_26, pZ_26, ao_26, gI_27, gR_27, pI_27, pR_27, pZ_27, ao_27, gI_28, gR_28, pI_28, pR_28, pZ_28, ao_28, gI_29, gR_29, pI_29, pR_29, pZ_29, ao_29, gI_30, gR_30, pI_30, pR_30, pZ_30, ao_30, gI_69, gR_69, pI_69, pR_69, pZ_69, ao_69, pc_same H, pc_people H, pc_works H, pc_cols H, pc_tags H, pc_tape H, pc_sieve H, pc_gifts H, pc_coms H, pc_mean H, pc_par H, pc_abv H, pc_chars H, pc_scan H, pc_parts H, pc_items H, pc_nots H, pc_signs H, pc_recv H, pc_ways H, if_true, if_false, c1', c2, d1, nI_add, c3, hd]
        · simp (decide := true) only [f_X11_pass_32, f_X11_pass, nz_0, nz_1, rz_bI, rz_0, rz_1, bI_eq0, bI_t, bI_f, bI_ri, bI_ex, bR_ra, bR_ex, bV_rt, bV_ex, bW_rt, bJ_ri, bIx_ri, bIx_ex, bVx_rt, bVx_ex, gi_ne, gi_eq, gi_sr, gi_sl, gi_th, gi_op, gr_si, gr_sl, gr_th, gr_op, gr_ne, gl_si, gl_sr, gl_th, gl_op, gl_eq, gi_al, gr_al, gl_al, nx_si, nx_sr, nx_sl, nx_th, nx_op, nx_al, nx_als, nc_si, nc_sr, nc_sl, nc_th, nc_op, nc_al, ns_si, ns_sr, ns_sl, ns_th, ns_op, ns_al, gi_neI, aI_31, sZ_31, aI_32, sI_32, aI_33, sI_33, aI_34, sI_34, aI_35, sI_35, aI_36, sI_36, aI_37, sI_37, aI_38, sZ_38, aI_39, sI_39, aI_40, sI_40, aI_41, sI_41, aI_42, sZ_42, aI_43, sZ_43, aI_44, sI_44, aI_45, sI_45, aI_46, sI_46, aI_47, sI_47, aI_48, sI_48, aI_49, sI_49, aI_50, sI_50, aI_51, sZ_51, aI_52, sZ_52, aI_53, sZ_53, aI_54, sI_54, aI_55, sI_55, aI_56, sI_56, aI_57, sI_57, aI_58, sZ_58, aI_59, sI_59, aI_60, sI_60, aI_61, sI_61, aI_62, sI_62, aI_63, sZ_63, aI_64, sZ_64, aI_65, sZ_65, aI_66, sI_66, aI_67, sI_67, aI_68, sZ_68, gI_70, gR_70, pI_70, pR_70, pZ_70, ao_70, aL_71, sL_71, pm_2 G, pm_3 G, pm_5 G, pm_6 G, pm_7 G, pm_8 G, pm_9 G, pm_10 G, pm_11 G, pm_12 G, pm_13 G, pm_14 G, pm_15 G, pm_16 G, pm_18 G, pm_19 G, pm_21 G, pm_22 G, pm_23 G, pm_25 G, pm_26 G, pm_27 G, pm_28 G, pm_31 G, pm_32 G, pm_33 G, pm_34 G, pm_35 G, pm_36 G, pm_38 G, pm_39 G, pm_40 G, pm_41 G, pm_42 G, pm_43 G, pm_44 G, pm_45 G, pm_46 G, r_isWork, r_isTag, r_isPerson, r_isFace, r_h0, r_h1, r_h2, r_h3, n10, n20, n30, n00, if_true, if_false, r_in, c1', c2', d2, nI_add, c3, hd]
        · have F : Frm (pX [(69, 0), (70, 1)] []) h (m_si (m_si (m_sl (m_si h 69 0 0 (nI (D + k))) 71 0 0 (vI (nI (D + k)))) 70 0 0 0) 70 0 1 (nI (D + k))) := (((Frm.refl _ h).si rfl).sl.si rfl).si rfl
          exact ⟨W, Cn, Tn, Sn, Qn, ⟨H.frm F, G.frm F, ⟨D + k, hd, rfl, rfl⟩, rBlk.frm F, rSam.frm F, N.frm F, rWa.frm F, rWc.frm F, rWp.frm F, rWl.frm F, rWo.frm F, rWt.frm F, rWf.frm F, rWw.frm F, rWs.frm F, rWk.frm F, rCo.frm F, rTg.frm F, rPa.frm F, rTp.frm F, rSg.frm F, rCm.frm F, rSb.frm F, rDg.frm F⟩⟩
      · refine ok_ex R0 (c := 2) (b := 0) (by decide) (L_pass_x2 _ ?_) ?_
        · simp (decide := true) only [f_X10_pass_11, f_X10_pass, nz_0, nz_1, rz_bI, rz_0, rz_1, bI_eq0, bI_t, bI_f, bI_ri, bI_ex, bR_ra, bR_ex, bV_rt, bV_ex, bW_rt, bJ_ri, bIx_ri, bIx_ex, bVx_rt, bVx_ex, gi_ne, gi_eq, gi_sr, gi_sl, gi_th, gi_op, gr_si, gr_sl, gr_th, gr_op, gr_ne, gl_si, gl_sr, gl_th, gl_op, gl_eq, gi_al, gr_al, gl_al, nx_si, nx_sr, nx_sl, nx_th, nx_op, nx_al, nx_als, nc_si, nc_sr, nc_sl, nc_th, nc_op, nc_al, ns_si, ns_sr, ns_sl, ns_th, ns_op, ns_al, gi_neI, aR_2, sR_2, aI_3, sI_3, aI_4, sI_4, aI_5, sI_5, aI_6, sI_6, aI_7, sI_7, aI_8, sI_8, aI_9, sI_9, aI_10, sZ_10, aI_11, sI_11, aI_12, sI_12, aI_13, sI_13, aI_14, sC_14, gI_15, gR_15, pI_15, pR_15, pZ_15, ao_15, pC_15, aI_16, sI_16, aI_17, sI_17, aR_18, sR_18, aR_19, sR_19, aR_20, sR_20, gI_21, gR_21, pI_21, pR_21, pZ_21, ao_21, gI_22, gR_22, pI_22, pR_22, pZ_22, ao_22, gI_23, gR_23, pI_23, pR_23, pZ_23, ao_23, gI_24, gR_24, pI_24, pR_24, pZ_24, ao_24, aR_25, sR_25, gI_26, gR_26, pI_26, pR_26, pZ_26, ao_26, gI_27, gR_27, pI_27, pR_27, pZ_27, ao_27, gI_28, gR_28, pI_28, pR_28, pZ_28, ao_28, gI_29, gR_29, pI_29, pR_29, pZ_29, ao_29, gI_30, gR_30, pI_30, pR_30, pZ_30, ao_30, gI_69, gR_69, pI_69, pR_69, pZ_69, ao_69, pc_same H, pc_people H, pc_works H, pc_cols H, pc_tags H, pc_tape H, pc_sieve H, pc_gifts H, pc_coms H, pc_mean H, pc_par H, pc_abv H, pc_chars H, pc_scan H, pc_parts H, pc_items H, pc_nots H, pc_signs H, pc_recv H, pc_ways H, if_true, if_false, c1', c2, d1, nI_add, c3, hd]
        · simp (decide := true) only [f_X11_pass_32, f_X11_pass, nz_0, nz_1, rz_bI, rz_0, rz_1, bI_eq0, bI_t, bI_f, bI_ri, bI_ex, bR_ra, bR_ex, bV_rt, bV_ex, bW_rt, bJ_ri, bIx_ri, bIx_ex, bVx_rt, bVx_ex, gi_ne, gi_eq, gi_sr, gi_sl, gi_th, gi_op, gr_si, gr_sl, gr_th, gr_op, gr_ne, gl_si, gl_sr, gl_th, gl_op, gl_eq, gi_al, gr_al, gl_al, nx_si, nx_sr, nx_sl, nx_th, nx_op, nx_al, nx_als, nc_si, nc_sr, nc_sl, nc_th, nc_op, nc_al, ns_si, ns_sr, ns_sl, ns_th, ns_op, ns_al, gi_neI, aI_31, sZ_31, aI_32, sI_32, aI_33, sI_33, aI_34, sI_34, aI_35, sI_35, aI_36, sI_36, aI_37, sI_37, aI_38, sZ_38, aI_39, sI_39, aI_40, sI_40, aI_41, sI_41, aI_42, sZ_42, aI_43, sZ_43, aI_44, sI_44, aI_45, sI_45, aI_46, sI_46, aI_47, sI_47, aI_48, sI_48, aI_49, sI_49, aI_50, sI_50, aI_51, sZ_51, aI_52, sZ_52, aI_53, sZ_53, aI_54, sI_54, aI_55, sI_55, aI_56, sI_56, aI_57, sI_57, aI_58, sZ_58, aI_59, sI_59, aI_60, sI_60, aI_61, sI_61, aI_62, sI_62, aI_63, sZ_63, aI_64, sZ_64, aI_65, sZ_65, aI_66, sI_66, aI_67, sI_67, aI_68, sZ_68, gI_70, gR_70, pI_70, pR_70, pZ_70, ao_70, aL_71, sL_71, pm_2 G, pm_3 G, pm_5 G, pm_6 G, pm_7 G, pm_8 G, pm_9 G, pm_10 G, pm_11 G, pm_12 G, pm_13 G, pm_14 G, pm_15 G, pm_16 G, pm_18 G, pm_19 G, pm_21 G, pm_22 G, pm_23 G, pm_25 G, pm_26 G, pm_27 G, pm_28 G, pm_31 G, pm_32 G, pm_33 G, pm_34 G, pm_35 G, pm_36 G, pm_38 G, pm_39 G, pm_40 G, pm_41 G, pm_42 G, pm_43 G, pm_44 G, pm_45 G, pm_46 G, r_isWork, r_isTag, r_isPerson, r_isFace, r_h0, r_h1, r_h2, r_h3, n10, n20, n30, n00, if_true, if_false, r_in, c1', c2', d2, nI_add, c3, hd]
  · have c1 : x < 1 ∨ ¬ x ≤ 100 := by
      rcases hx with hx | hx
      · exact Or.inl (Int32.lt_trans hx (by decide))
      · right; intro z
        have := Int32.le_trans hx z
        exact absurd this (by decide)
    refine ok_ex R0 (c := 1) (b := 0) (by decide) (L_pass_x1 _ ?_) ?_
    · rcases c1 with c | c
      · simp (decide := true) only [f_X10_pass_11, f_X10_pass, nz_0, nz_1, rz_bI, rz_0, rz_1, bI_eq0, bI_t, bI_f, bI_ri, bI_ex, bR_ra, bR_ex, bV_rt, bV_ex, bW_rt, bJ_ri, bIx_ri, bIx_ex, bVx_rt, bVx_ex, gi_ne, gi_eq, gi_sr, gi_sl, gi_th, gi_op, gr_si, gr_sl, gr_th, gr_op, gr_ne, gl_si, gl_sr, gl_th, gl_op, gl_eq, gi_al, gr_al, gl_al, nx_si, nx_sr, nx_sl, nx_th, nx_op, nx_al, nx_als, nc_si, nc_sr, nc_sl, nc_th, nc_op, nc_al, ns_si, ns_sr, ns_sl, ns_th, ns_op, ns_al, gi_neI, aR_2, sR_2, aI_3, sI_3, aI_4, sI_4, aI_5, sI_5, aI_6, sI_6, aI_7, sI_7, aI_8, sI_8, aI_9, sI_9, aI_10, sZ_10, aI_11, sI_11, aI_12, sI_12, aI_13, sI_13, aI_14, sC_14, gI_15, gR_15, pI_15, pR_15, pZ_15, ao_15, pC_15, aI_16, sI_16, aI_17, sI_17, aR_18, sR_18, aR_19, sR_19, aR_20, sR_20, gI_21, gR_21, pI_21, pR_21, pZ_21, ao_21, gI_22, gR_22, pI_22, pR_22, pZ_22, ao_22, gI_23, gR_23, pI_23, pR_23, pZ_23, ao_23, gI_24, gR_24, pI_24, pR_24, pZ_24, ao_24, aR_25, sR_25, gI_26, gR_26, pI_26, pR_26, pZ_26, ao_26, gI_27, gR_27, pI_27, pR_27, pZ_27, ao_27, gI_28, gR_28, pI_28, pR_28, pZ_28, ao_28, gI_29, gR_29, pI_29, pR_29, pZ_29, ao_29, gI_30, gR_30, pI_30, pR_30, pZ_30, ao_30, gI_69, gR_69, pI_69, pR_69, pZ_69, ao_69, pc_same H, pc_people H, pc_works H, pc_cols H, pc_tags H, pc_tape H, pc_sieve H, pc_gifts H, pc_coms H, pc_mean H, pc_par H, pc_abv H, pc_chars H, pc_scan H, pc_parts H, pc_items H, pc_nots H, pc_signs H, pc_recv H, pc_ways H, if_true, if_false, c]
      · simp (decide := true) only [f_X10_pass_11, f_X10_pass, nz_0, nz_1, rz_bI, rz_0, rz_1, bI_eq0, bI_t, bI_f, bI_ri, bI_ex, bR_ra, bR_ex, bV_rt, bV_ex, bW_rt, bJ_ri, bIx_ri, bIx_ex, bVx_rt, bVx_ex, gi_ne, gi_eq, gi_sr, gi_sl, gi_th, gi_op, gr_si, gr_sl, gr_th, gr_op, gr_ne, gl_si, gl_sr, gl_th, gl_op, gl_eq, gi_al, gr_al, gl_al, nx_si, nx_sr, nx_sl, nx_th, nx_op, nx_al, nx_als, nc_si, nc_sr, nc_sl, nc_th, nc_op, nc_al, ns_si, ns_sr, ns_sl, ns_th, ns_op, ns_al, gi_neI, aR_2, sR_2, aI_3, sI_3, aI_4, sI_4, aI_5, sI_5, aI_6, sI_6, aI_7, sI_7, aI_8, sI_8, aI_9, sI_9, aI_10, sZ_10, aI_11, sI_11, aI_12, sI_12, aI_13, sI_13, aI_14, sC_14, gI_15, gR_15, pI_15, pR_15, pZ_15, ao_15, pC_15, aI_16, sI_16, aI_17, sI_17, aR_18, sR_18, aR_19, sR_19, aR_20, sR_20, gI_21, gR_21, pI_21, pR_21, pZ_21, ao_21, gI_22, gR_22, pI_22, pR_22, pZ_22, ao_22, gI_23, gR_23, pI_23, pR_23, pZ_23, ao_23, gI_24, gR_24, pI_24, pR_24, pZ_24, ao_24, aR_25, sR_25, gI_26, gR_26, pI_26, pR_26, pZ_26, ao_26, gI_27, gR_27, pI_27, pR_27, pZ_27, ao_27, gI_28, gR_28, pI_28, pR_28, pZ_28, ao_28, gI_29, gR_29, pI_29, pR_29, pZ_29, ao_29, gI_30, gR_30, pI_30, pR_30, pZ_30, ao_30, gI_69, gR_69, pI_69, pR_69, pZ_69, ao_69, pc_same H, pc_people H, pc_works H, pc_cols H, pc_tags H, pc_tape H, pc_sieve H, pc_gifts H, pc_coms H, pc_mean H, pc_par H, pc_abv H, pc_chars H, pc_scan H, pc_parts H, pc_items H, pc_nots H, pc_signs H, pc_recv H, pc_ways H, if_true, if_false, c, ite_self]
    · have c2 : decide (¬ x < 1 ∧ ¬ 100 < x) = false := by
        apply decide_eq_false
        rintro ⟨a, b⟩
        rcases c1 with c | c
        · exact a c
        · exact c (Int32.not_lt.mp b)
      simp (decide := true) only [f_X11_pass_32, f_X11_pass, nz_0, nz_1, rz_bI, rz_0, rz_1, bI_eq0, bI_t, bI_f, bI_ri, bI_ex, bR_ra, bR_ex, bV_rt, bV_ex, bW_rt, bJ_ri, bIx_ri, bIx_ex, bVx_rt, bVx_ex, gi_ne, gi_eq, gi_sr, gi_sl, gi_th, gi_op, gr_si, gr_sl, gr_th, gr_op, gr_ne, gl_si, gl_sr, gl_th, gl_op, gl_eq, gi_al, gr_al, gl_al, nx_si, nx_sr, nx_sl, nx_th, nx_op, nx_al, nx_als, nc_si, nc_sr, nc_sl, nc_th, nc_op, nc_al, ns_si, ns_sr, ns_sl, ns_th, ns_op, ns_al, gi_neI, aI_31, sZ_31, aI_32, sI_32, aI_33, sI_33, aI_34, sI_34, aI_35, sI_35, aI_36, sI_36, aI_37, sI_37, aI_38, sZ_38, aI_39, sI_39, aI_40, sI_40, aI_41, sI_41, aI_42, sZ_42, aI_43, sZ_43, aI_44, sI_44, aI_45, sI_45, aI_46, sI_46, aI_47, sI_47, aI_48, sI_48, aI_49, sI_49, aI_50, sI_50, aI_51, sZ_51, aI_52, sZ_52, aI_53, sZ_53, aI_54, sI_54, aI_55, sI_55, aI_56, sI_56, aI_57, sI_57, aI_58, sZ_58, aI_59, sI_59, aI_60, sI_60, aI_61, sI_61, aI_62, sI_62, aI_63, sZ_63, aI_64, sZ_64, aI_65, sZ_65, aI_66, sI_66, aI_67, sI_67, aI_68, sZ_68, gI_70, gR_70, pI_70, pR_70, pZ_70, ao_70, aL_71, sL_71, pm_2 G, pm_3 G, pm_5 G, pm_6 G, pm_7 G, pm_8 G, pm_9 G, pm_10 G, pm_11 G, pm_12 G, pm_13 G, pm_14 G, pm_15 G, pm_16 G, pm_18 G, pm_19 G, pm_21 G, pm_22 G, pm_23 G, pm_25 G, pm_26 G, pm_27 G, pm_28 G, pm_31 G, pm_32 G, pm_33 G, pm_34 G, pm_35 G, pm_36 G, pm_38 G, pm_39 G, pm_40 G, pm_41 G, pm_42 G, pm_43 G, pm_44 G, pm_45 G, pm_46 G, r_isWork, r_isTag, r_isPerson, r_isFace, r_h0, r_h1, r_h2, r_h3, n10, n20, n30, n00, if_true, if_false, r_in, c2]
theorem op_block {W Cn Tn Sn Qn : Nat} {h : am_H} (R : RR W Cn Tn Sn Qn h) (x y : Int32) (b : Bool) : OpOK h (f_L_block (some (69, 0)) x y (bI b) (some (71, 0)) h) (f_X11_block (70, 0) x y (bI b)) vB := by
  have R0 := R
  obtain ⟨H, G, rDay, rBlk, rSam, N, rWa, rWc, rWp, rWl, rWo, rWt, rWf, rWw, rWs, rWk, rCo, rTg, rPa, rTp, rSg, rCm, rSb, rDg⟩ := R
  rcases ix_cases x (n := 12) (by omega) with ⟨p, hp, rfl⟩ | hx
  · rcases ix_cases y (n := 12) (by omega) with ⟨q, hq, rfl⟩ | hy
    · have e0 := rBlk.1 p q hp hq
      have m : (12 : Int32) * nI p + nI q = nI (12 * p + q) := by
        show nI 12 * nI p + nI q = _
        rw [pk_mul, nI_add]
      by_cases hpq : p = q
      · subst hpq
        refine ok_ex R0 (c := 2) (b := 0) (by decide) (L_block_x1 _ _ _ ?_) ?_
        · simp (decide := true) only [f_X10_block, nz_0, nz_1, rz_bI, rz_0, rz_1, bI_eq0, bI_t, bI_f, bI_ri, bI_ex, bR_ra, bR_ex, bV_rt, bV_ex, bW_rt, bJ_ri, bIx_ri, bIx_ex, bVx_rt, bVx_ex, gi_ne, gi_eq, gi_sr, gi_sl, gi_th, gi_op, gr_si, gr_sl, gr_th, gr_op, gr_ne, gl_si, gl_sr, gl_th, gl_op, gl_eq, gi_al, gr_al, gl_al, nx_si, nx_sr, nx_sl, nx_th, nx_op, nx_al, nx_als, nc_si, nc_sr, nc_sl, nc_th, nc_op, nc_al, ns_si, ns_sr, ns_sl, ns_th, ns_op, ns_al, gi_neI, aR_2, sR_2, aI_3, sI_3, aI_4, sI_4, aI_5, sI_5, aI_6, sI_6, aI_7, sI_7, aI_8, sI_8, aI_9, sI_9, aI_10, sZ_10, aI_11, sI_11, aI_12, sI_12, aI_13, sI_13, aI_14, sC_14, gI_15, gR_15, pI_15, pR_15, pZ_15, ao_15, pC_15, aI_16, sI_16, aI_17, sI_17, aR_18, sR_18, aR_19, sR_19, aR_20, sR_20, gI_21, gR_21, pI_21, pR_21, pZ_21, ao_21, gI_22, gR_22, pI_22, pR_22, pZ_22, ao_22, gI_23, gR_23, pI_23, pR_23, pZ_23, ao_23, gI_24, gR_24, pI_24, pR_24, pZ_24, ao_24, aR_25, sR_25, gI_26, gR_26, pI_26, pR_26, pZ_26, ao_26, gI_27, gR_27, pI_27, pR_27, pZ_27, ao_27, gI_28, gR_28, pI_28, pR_28, pZ_28, ao_28, gI_29, gR_29, pI_29, pR_29, pZ_29, ao_29, gI_30, gR_30, pI_30, pR_30, pZ_30, ao_30, gI_69, gR_69, pI_69, pR_69, pZ_69, ao_69, pc_same H, pc_people H, pc_works H, pc_cols H, pc_tags H, pc_tape H, pc_sieve H, pc_gifts H, pc_coms H, pc_mean H, pc_par H, pc_abv H, pc_chars H, pc_scan H, pc_parts H, pc_items H, pc_nots H, pc_signs H, pc_recv H, pc_ways H, if_true, if_false, c_checkPerson hp]
        · simp (decide := true) only [f_X11_block_29, f_X11_block_15, f_X11_block, nz_0, nz_1, rz_bI, rz_0, rz_1, bI_eq0, bI_t, bI_f, bI_ri, bI_ex, bR_ra, bR_ex, bV_rt, bV_ex, bW_rt, bJ_ri, bIx_ri, bIx_ex, bVx_rt, bVx_ex, gi_ne, gi_eq, gi_sr, gi_sl, gi_th, gi_op, gr_si, gr_sl, gr_th, gr_op, gr_ne, gl_si, gl_sr, gl_th, gl_op, gl_eq, gi_al, gr_al, gl_al, nx_si, nx_sr, nx_sl, nx_th, nx_op, nx_al, nx_als, nc_si, nc_sr, nc_sl, nc_th, nc_op, nc_al, ns_si, ns_sr, ns_sl, ns_th, ns_op, ns_al, gi_neI, aI_31, sZ_31, aI_32, sI_32, aI_33, sI_33, aI_34, sI_34, aI_35, sI_35, aI_36, sI_36, aI_37, sI_37, aI_38, sZ_38, aI_39, sI_39, aI_40, sI_40, aI_41, sI_41, aI_42, sZ_42, aI_43, sZ_43, aI_44, sI_44, aI_45, sI_45, aI_46, sI_46, aI_47, sI_47, aI_48, sI_48, aI_49, sI_49, aI_50, sI_50, aI_51, sZ_51, aI_52, sZ_52, aI_53, sZ_53, aI_54, sI_54, aI_55, sI_55, aI_56, sI_56, aI_57, sI_57, aI_58, sZ_58, aI_59, sI_59, aI_60, sI_60, aI_61, sI_61, aI_62, sI_62, aI_63, sZ_63, aI_64, sZ_64, aI_65, sZ_65, aI_66, sI_66, aI_67, sI_67, aI_68, sZ_68, gI_70, gR_70, pI_70, pR_70, pZ_70, ao_70, aL_71, sL_71, pm_2 G, pm_3 G, pm_5 G, pm_6 G, pm_7 G, pm_8 G, pm_9 G, pm_10 G, pm_11 G, pm_12 G, pm_13 G, pm_14 G, pm_15 G, pm_16 G, pm_18 G, pm_19 G, pm_21 G, pm_22 G, pm_23 G, pm_25 G, pm_26 G, pm_27 G, pm_28 G, pm_31 G, pm_32 G, pm_33 G, pm_34 G, pm_35 G, pm_36 G, pm_38 G, pm_39 G, pm_40 G, pm_41 G, pm_42 G, pm_43 G, pm_44 G, pm_45 G, pm_46 G, r_isWork, r_isTag, r_isPerson, r_isFace, r_h0, r_h1, r_h2, r_h3, n10, n20, n30, n00, if_true, if_false, isIx_ok (show 12 < 10000 by omega) hp]
      · have ne : (nI p = nI q) = False := by rw [i_eq (by omega) (by omega)]; exact eq_false hpq
        refine ok_u (h1 := (m_si h 26 p 0 (wi (m_gi h 26 p 0) q b))) (b := bI (bt (m_gi h 26 p 0) q)) (h2 := (m_si (m_si (m_sl (m_si h 26 p 0 (wi (m_gi h 26 p 0) q b)) 71 0 0 (vB (bI (bt (m_gi h 26 p 0) q)))) 70 0 0 0) 31 0 (12 * p + q) (bI b))) (L_block_ret _ _ _ ?_) ?_ rfl rfl rfl rfl (Nat.le_add_right _ _) (Nat.le_add_right _ _) ?_
        · simp (decide := true) only [f_X10_block, nz_0, nz_1, rz_bI, rz_0, rz_1, bI_eq0, bI_t, bI_f, bI_ri, bI_ex, bR_ra, bR_ex, bV_rt, bV_ex, bW_rt, bJ_ri, bIx_ri, bIx_ex, bVx_rt, bVx_ex, gi_ne, gi_eq, gi_sr, gi_sl, gi_th, gi_op, gr_si, gr_sl, gr_th, gr_op, gr_ne, gl_si, gl_sr, gl_th, gl_op, gl_eq, gi_al, gr_al, gl_al, nx_si, nx_sr, nx_sl, nx_th, nx_op, nx_al, nx_als, nc_si, nc_sr, nc_sl, nc_th, nc_op, nc_al, ns_si, ns_sr, ns_sl, ns_th, ns_op, ns_al, gi_neI, aR_2, sR_2, aI_3, sI_3, aI_4, sI_4, aI_5, sI_5, aI_6, sI_6, aI_7, sI_7, aI_8, sI_8, aI_9, sI_9, aI_10, sZ_10, aI_11, sI_11, aI_12, sI_12, aI_13, sI_13, aI_14, sC_14, gI_15, gR_15, pI_15, pR_15, pZ_15, ao_15, pC_15, aI_16, sI_16, aI_17, sI_17, aR_18, sR_18, aR_19, sR_19, aR_20, sR_20, gI_21, gR_21, pI_21, pR_21, pZ_21, ao_21, gI_22, gR_22, pI_22, pR_22, pZ_22, ao_22, gI_23, gR_23, pI_23, pR_23, pZ_23, ao_23, gI_24, gR_24, pI_24, pR_24, pZ_24, ao_24, aR_25, sR_25, gI_26, gR_26, pI_26, pR_26, pZ_26, ao_26, gI_27, gR_27, pI_27, pR_27, pZ_27, ao_27, gI_28, gR_28, pI_28, pR_28, pZ_28, ao_28, gI_29, gR_29, pI_29, pR_29, pZ_29, ao_29, gI_30, gR_30, pI_30, pR_30, pZ_30, ao_30, gI_69, gR_69, pI_69, pR_69, pZ_69, ao_69, pc_same H, pc_people H, pc_works H, pc_cols H, pc_tags H, pc_tape H, pc_sieve H, pc_gifts H, pc_coms H, pc_mean H, pc_par H, pc_abv H, pc_chars H, pc_scan H, pc_parts H, pc_items H, pc_nots H, pc_signs H, pc_recv H, pc_ways H, if_true, if_false, c_checkPerson hp, c_checkPerson hq, ne, hp, pc_per H hp, c_has (show q < 32 by omega), c_with]
        · simp (decide := true) only [f_X11_block_29, f_X11_block_15, f_X11_block, nz_0, nz_1, rz_bI, rz_0, rz_1, bI_eq0, bI_t, bI_f, bI_ri, bI_ex, bR_ra, bR_ex, bV_rt, bV_ex, bW_rt, bJ_ri, bIx_ri, bIx_ex, bVx_rt, bVx_ex, gi_ne, gi_eq, gi_sr, gi_sl, gi_th, gi_op, gr_si, gr_sl, gr_th, gr_op, gr_ne, gl_si, gl_sr, gl_th, gl_op, gl_eq, gi_al, gr_al, gl_al, nx_si, nx_sr, nx_sl, nx_th, nx_op, nx_al, nx_als, nc_si, nc_sr, nc_sl, nc_th, nc_op, nc_al, ns_si, ns_sr, ns_sl, ns_th, ns_op, ns_al, gi_neI, aI_31, sZ_31, aI_32, sI_32, aI_33, sI_33, aI_34, sI_34, aI_35, sI_35, aI_36, sI_36, aI_37, sI_37, aI_38, sZ_38, aI_39, sI_39, aI_40, sI_40, aI_41, sI_41, aI_42, sZ_42, aI_43, sZ_43, aI_44, sI_44, aI_45, sI_45, aI_46, sI_46, aI_47, sI_47, aI_48, sI_48, aI_49, sI_49, aI_50, sI_50, aI_51, sZ_51, aI_52, sZ_52, aI_53, sZ_53, aI_54, sI_54, aI_55, sI_55, aI_56, sI_56, aI_57, sI_57, aI_58, sZ_58, aI_59, sI_59, aI_60, sI_60, aI_61, sI_61, aI_62, sI_62, aI_63, sZ_63, aI_64, sZ_64, aI_65, sZ_65, aI_66, sI_66, aI_67, sI_67, aI_68, sZ_68, gI_70, gR_70, pI_70, pR_70, pZ_70, ao_70, aL_71, sL_71, pm_2 G, pm_3 G, pm_5 G, pm_6 G, pm_7 G, pm_8 G, pm_9 G, pm_10 G, pm_11 G, pm_12 G, pm_13 G, pm_14 G, pm_15 G, pm_16 G, pm_18 G, pm_19 G, pm_21 G, pm_22 G, pm_23 G, pm_25 G, pm_26 G, pm_27 G, pm_28 G, pm_31 G, pm_32 G, pm_33 G, pm_34 G, pm_35 G, pm_36 G, pm_38 G, pm_39 G, pm_40 G, pm_41 G, pm_42 G, pm_43 G, pm_44 G, pm_45 G, pm_46 G, r_isWork, r_isTag, r_isPerson, r_isFace, r_h0, r_h1, r_h2, r_h3, n10, n20, n30, n00, if_true, if_false, isIx_ok (show 12 < 10000 by omega) hp, isIx_ok (show 12 < 10000 by omega) hq, ne, m, show 12 * p + q < 144 by omega, e0, nz_bI]
        · have F : Frm (pX [(26, 0)] [31]) h (m_si (m_si (m_sl (m_si h 26 p 0 (wi (m_gi h 26 p 0) q b)) 71 0 0 (vB (bI (bt (m_gi h 26 p 0) q)))) 70 0 0 0) 31 0 (12 * p + q) (bI b)) := (((Frm.refl _ h).si rfl).sl.si rfl).si rfl
          refine ⟨W, Cn, Tn, Sn, Qn, ⟨H.frm F, G.frm F, rDay.frm F, ?_, rSam.frm F, N.frm F, rWa.frm F, rWc.frm F, rWp.frm F, rWl.frm F, rWo.frm F, rWt.frm F, rWf.frm F, rWw.frm F, rWs.frm F, rWk.frm F, rCo.frm F, rTg.frm F, rPa.frm F, rTp.frm F, rSg.frm F, rCm.frm F, rSb.frm F, rDg.frm F⟩⟩
          have e1 : ∀ j, m_gi (m_si (m_si (m_sl (m_si h 26 p 0 (wi (m_gi h 26 p 0) q b)) 71 0 0 (vB (bI (bt (m_gi h 26 p 0) q)))) 70 0 0 0) 31 0 (12 * p + q) (bI b)) 26 j 0 = if j = p then wi (m_gi h 26 p 0) q b else m_gi h 26 j 0 := fun j => show m_gi (m_si h 26 p 0 (wi (m_gi h 26 p 0) q b)) 26 j 0 = _ from gi_upK
          have e2 : ∀ j, m_gi (m_si (m_si (m_sl (m_si h 26 p 0 (wi (m_gi h 26 p 0) q b)) 71 0 0 (vB (bI (bt (m_gi h 26 p 0) q)))) 70 0 0 0) 31 0 (12 * p + q) (bI b)) 31 0 j = if j = 12 * p + q then bI b else m_gi h 31 0 j := fun j => gi_upJ
          refine ⟨fun j i hj hi => ?_, fun j i hj hi => ?_⟩
          · rw [e1, e2]
            by_cases ej : j = p
            · subst ej
              rw [if_pos rfl, bt_wi _ (by omega) _ (by omega)]
              by_cases ei : i = q
              · subst ei; rw [if_pos rfl, if_pos rfl]
              · rw [if_neg (by omega), if_neg ei]; exact rBlk.1 j i hj hi
            · rw [if_neg (by omega), if_neg ej]; exact rBlk.1 j i hj hi
          · rw [e1]
            split
            · exact bt_wi_hi hq (by omega) b (fun i hi => rBlk.2 p i hp hi) i hi
            · exact rBlk.2 j i hj hi
    · refine ok_ex R0 (c := 1) (b := 0) (by decide) (L_block_x0 _ _ _ ?_) ?_
      · simp (decide := true) only [f_X10_block, nz_0, nz_1, rz_bI, rz_0, rz_1, bI_eq0, bI_t, bI_f, bI_ri, bI_ex, bR_ra, bR_ex, bV_rt, bV_ex, bW_rt, bJ_ri, bIx_ri, bIx_ex, bVx_rt, bVx_ex, gi_ne, gi_eq, gi_sr, gi_sl, gi_th, gi_op, gr_si, gr_sl, gr_th, gr_op, gr_ne, gl_si, gl_sr, gl_th, gl_op, gl_eq, gi_al, gr_al, gl_al, nx_si, nx_sr, nx_sl, nx_th, nx_op, nx_al, nx_als, nc_si, nc_sr, nc_sl, nc_th, nc_op, nc_al, ns_si, ns_sr, ns_sl, ns_th, ns_op, ns_al, gi_neI, aR_2, sR_2, aI_3, sI_3, aI_4, sI_4, aI_5, sI_5, aI_6, sI_6, aI_7, sI_7, aI_8, sI_8, aI_9, sI_9, aI_10, sZ_10, aI_11, sI_11, aI_12, sI_12, aI_13, sI_13, aI_14, sC_14, gI_15, gR_15, pI_15, pR_15, pZ_15, ao_15, pC_15, aI_16, sI_16, aI_17, sI_17, aR_18, sR_18, aR_19, sR_19, aR_20, sR_20, gI_21, gR_21, pI_21, pR_21, pZ_21, ao_21, gI_22, gR_22, pI_22, pR_22, pZ_22, ao_22, gI_23, gR_23, pI_23, pR_23, pZ_23, ao_23, gI_24, gR_24, pI_24, pR_24, pZ_24, ao_24, aR_25, sR_25, gI_26, gR_26, pI_26, pR_26, pZ_26, ao_26, gI_27, gR_27, pI_27, pR_27, pZ_27, ao_27, gI_28, gR_28, pI_28, pR_28, pZ_28, ao_28, gI_29, gR_29, pI_29, pR_29, pZ_29, ao_29, gI_30, gR_30, pI_30, pR_30, pZ_30, ao_30, gI_69, gR_69, pI_69, pR_69, pZ_69, ao_69, pc_same H, pc_people H, pc_works H, pc_cols H, pc_tags H, pc_tape H, pc_sieve H, pc_gifts H, pc_coms H, pc_mean H, pc_par H, pc_abv H, pc_chars H, pc_scan H, pc_parts H, pc_items H, pc_nots H, pc_signs H, pc_recv H, pc_ways H, if_true, if_false, c_checkPerson hp, c_checkPerson_bad hy]
      · simp (decide := true) only [f_X11_block_29, f_X11_block_15, f_X11_block, nz_0, nz_1, rz_bI, rz_0, rz_1, bI_eq0, bI_t, bI_f, bI_ri, bI_ex, bR_ra, bR_ex, bV_rt, bV_ex, bW_rt, bJ_ri, bIx_ri, bIx_ex, bVx_rt, bVx_ex, gi_ne, gi_eq, gi_sr, gi_sl, gi_th, gi_op, gr_si, gr_sl, gr_th, gr_op, gr_ne, gl_si, gl_sr, gl_th, gl_op, gl_eq, gi_al, gr_al, gl_al, nx_si, nx_sr, nx_sl, nx_th, nx_op, nx_al, nx_als, nc_si, nc_sr, nc_sl, nc_th, nc_op, nc_al, ns_si, ns_sr, ns_sl, ns_th, ns_op, ns_al, gi_neI, aI_31, sZ_31, aI_32, sI_32, aI_33, sI_33, aI_34, sI_34, aI_35, sI_35, aI_36, sI_36, aI_37, sI_37, aI_38, sZ_38, aI_39, sI_39, aI_40, sI_40, aI_41, sI_41, aI_42, sZ_42, aI_43, sZ_43, aI_44, sI_44, aI_45, sI_45, aI_46, sI_46, aI_47, sI_47, aI_48, sI_48, aI_49, sI_49, aI_50, sI_50, aI_51, sZ_51, aI_52, sZ_52, aI_53, sZ_53, aI_54, sI_54, aI_55, sI_55, aI_56, sI_56, aI_57, sI_57, aI_58, sZ_58, aI_59, sI_59, aI_60, sI_60, aI_61, sI_61, aI_62, sI_62, aI_63, sZ_63, aI_64, sZ_64, aI_65, sZ_65, aI_66, sI_66, aI_67, sI_67, aI_68, sZ_68, gI_70, gR_70, pI_70, pR_70, pZ_70, ao_70, aL_71, sL_71, pm_2 G, pm_3 G, pm_5 G, pm_6 G, pm_7 G, pm_8 G, pm_9 G, pm_10 G, pm_11 G, pm_12 G, pm_13 G, pm_14 G, pm_15 G, pm_16 G, pm_18 G, pm_19 G, pm_21 G, pm_22 G, pm_23 G, pm_25 G, pm_26 G, pm_27 G, pm_28 G, pm_31 G, pm_32 G, pm_33 G, pm_34 G, pm_35 G, pm_36 G, pm_38 G, pm_39 G, pm_40 G, pm_41 G, pm_42 G, pm_43 G, pm_44 G, pm_45 G, pm_46 G, r_isWork, r_isTag, r_isPerson, r_isFace, r_h0, r_h1, r_h2, r_h3, n10, n20, n30, n00, if_true, if_false, isIx_ok (show 12 < 10000 by omega) hp, isIx_bad (show 12 < 10000 by omega) hy]
  · refine ok_ex R0 (c := 1) (b := 0) (by decide) (L_block_x0 _ _ _ ?_) ?_
    · simp (decide := true) only [f_X10_block, nz_0, nz_1, rz_bI, rz_0, rz_1, bI_eq0, bI_t, bI_f, bI_ri, bI_ex, bR_ra, bR_ex, bV_rt, bV_ex, bW_rt, bJ_ri, bIx_ri, bIx_ex, bVx_rt, bVx_ex, gi_ne, gi_eq, gi_sr, gi_sl, gi_th, gi_op, gr_si, gr_sl, gr_th, gr_op, gr_ne, gl_si, gl_sr, gl_th, gl_op, gl_eq, gi_al, gr_al, gl_al, nx_si, nx_sr, nx_sl, nx_th, nx_op, nx_al, nx_als, nc_si, nc_sr, nc_sl, nc_th, nc_op, nc_al, ns_si, ns_sr, ns_sl, ns_th, ns_op, ns_al, gi_neI, aR_2, sR_2, aI_3, sI_3, aI_4, sI_4, aI_5, sI_5, aI_6, sI_6, aI_7, sI_7, aI_8, sI_8, aI_9, sI_9, aI_10, sZ_10, aI_11, sI_11, aI_12, sI_12, aI_13, sI_13, aI_14, sC_14, gI_15, gR_15, pI_15, pR_15, pZ_15, ao_15, pC_15, aI_16, sI_16, aI_17, sI_17, aR_18, sR_18, aR_19, sR_19, aR_20, sR_20, gI_21, gR_21, pI_21, pR_21, pZ_21, ao_21, gI_22, gR_22, pI_22, pR_22, pZ_22, ao_22, gI_23, gR_23, pI_23, pR_23, pZ_23, ao_23, gI_24, gR_24, pI_24, pR_24, pZ_24, ao_24, aR_25, sR_25, gI_26, gR_26, pI_26, pR_26, pZ_26, ao_26, gI_27, gR_27, pI_27, pR_27, pZ_27, ao_27, gI_28, gR_28, pI_28, pR_28, pZ_28, ao_28, gI_29, gR_29, pI_29, pR_29, pZ_29, ao_29, gI_30, gR_30, pI_30, pR_30, pZ_30, ao_30, gI_69, gR_69, pI_69, pR_69, pZ_69, ao_69, pc_same H, pc_people H, pc_works H, pc_cols H, pc_tags H, pc_tape H, pc_sieve H, pc_gifts H, pc_coms H, pc_mean H, pc_par H, pc_abv H, pc_chars H, pc_scan H, pc_parts H, pc_items H, pc_nots H, pc_signs H, pc_recv H, pc_ways H, if_true, if_false, c_checkPerson_bad hx]
    · simp (decide := true) only [f_X11_block_29, f_X11_block_15, f_X11_block, nz_0, nz_1, rz_bI, rz_0, rz_1, bI_eq0, bI_t, bI_f, bI_ri, bI_ex, bR_ra, bR_ex, bV_rt, bV_ex, bW_rt, bJ_ri, bIx_ri, bIx_ex, bVx_rt, bVx_ex, gi_ne, gi_eq, gi_sr, gi_sl, gi_th, gi_op, gr_si, gr_sl, gr_th, gr_op, gr_ne, gl_si, gl_sr, gl_th, gl_op, gl_eq, gi_al, gr_al, gl_al, nx_si, nx_sr, nx_sl, nx_th, nx_op, nx_al, nx_als, nc_si, nc_sr, nc_sl, nc_th, nc_op, nc_al, ns_si, ns_sr, ns_sl, ns_th, ns_op, ns_al, gi_neI, aI_31, sZ_31, aI_32, sI_32, aI_33, sI_33, aI_34, sI_34, aI_35, sI_35, aI_36, sI_36, aI_37, sI_37, aI_38, sZ_38, aI_39, sI_39, aI_40, sI_40, aI_41, sI_41, aI_42, sZ_42, aI_43, sZ_43, aI_44, sI_44, aI_45, sI_45, aI_46, sI_46, aI_47, sI_47, aI_48, sI_48, aI_49, sI_49, aI_50, sI_50, aI_51, sZ_51, aI_52, sZ_52, aI_53, sZ_53, aI_54, sI_54, aI_55, sI_55, aI_56, sI_56, aI_57, sI_57, aI_58, sZ_58, aI_59, sI_59, aI_60, sI_60, aI_61, sI_61, aI_62, sI_62, aI_63, sZ_63, aI_64, sZ_64, aI_65, sZ_65, aI_66, sI_66, aI_67, sI_67, aI_68, sZ_68, gI_70, gR_70, pI_70, pR_70, pZ_70, ao_70, aL_71, sL_71, pm_2 G, pm_3 G, pm_5 G, pm_6 G, pm_7 G, pm_8 G, pm_9 G, pm_10 G, pm_11 G, pm_12 G, pm_13 G, pm_14 G, pm_15 G, pm_16 G, pm_18 G, pm_19 G, pm_21 G, pm_22 G, pm_23 G, pm_25 G, pm_26 G, pm_27 G, pm_28 G, pm_31 G, pm_32 G, pm_33 G, pm_34 G, pm_35 G, pm_36 G, pm_38 G, pm_39 G, pm_40 G, pm_41 G, pm_42 G, pm_43 G, pm_44 G, pm_45 G, pm_46 G, r_isWork, r_isTag, r_isPerson, r_isFace, r_h0, r_h1, r_h2, r_h3, n10, n20, n30, n00, if_true, if_false, isIx_bad (show 12 < 10000 by omega) hx]
theorem op_wipe {W Cn Tn Sn Qn : Nat} {h : am_H} (R : RR W Cn Tn Sn Qn h) : OpOKn h (f_X10_wipe (69, 0) h) (f_X11_wipe (70, 0)) := by
  obtain ⟨H, G, rDay, rBlk, rSam, N, rWa, rWc, rWp, rWl, rWo, rWt, rWf, rWw, rWs, rWk, rCo, rTg, rPa, rTp, rSg, rCm, rSb, rDg⟩ := R
  obtain ⟨n, hn, t1, t2, t3⟩ := rTp
  refine ⟨(m_si h 22 0 1 0), (m_si (m_si (m_si h 22 0 1 0) 70 0 0 0) 70 0 24 0), nI n, ?_, ?_, rfl, rfl, Nat.le_add_right _ _, Nat.le_add_right _ _, ?_⟩
  · simp (decide := true) only [f_X10_wipe, nz_0, nz_1, rz_bI, rz_0, rz_1, bI_eq0, bI_t, bI_f, bI_ri, bI_ex, bR_ra, bR_ex, bV_rt, bV_ex, bW_rt, bJ_ri, bIx_ri, bIx_ex, bVx_rt, bVx_ex, gi_ne, gi_eq, gi_sr, gi_sl, gi_th, gi_op, gr_si, gr_sl, gr_th, gr_op, gr_ne, gl_si, gl_sr, gl_th, gl_op, gl_eq, gi_al, gr_al, gl_al, nx_si, nx_sr, nx_sl, nx_th, nx_op, nx_al, nx_als, nc_si, nc_sr, nc_sl, nc_th, nc_op, nc_al, ns_si, ns_sr, ns_sl, ns_th, ns_op, ns_al, gi_neI, aR_2, sR_2, aI_3, sI_3, aI_4, sI_4, aI_5, sI_5, aI_6, sI_6, aI_7, sI_7, aI_8, sI_8, aI_9, sI_9, aI_10, sZ_10, aI_11, sI_11, aI_12, sI_12, aI_13, sI_13, aI_14, sC_14, gI_15, gR_15, pI_15, pR_15, pZ_15, ao_15, pC_15, aI_16, sI_16, aI_17, sI_17, aR_18, sR_18, aR_19, sR_19, aR_20, sR_20, gI_21, gR_21, pI_21, pR_21, pZ_21, ao_21, gI_22, gR_22, pI_22, pR_22, pZ_22, ao_22, gI_23, gR_23, pI_23, pR_23, pZ_23, ao_23, gI_24, gR_24, pI_24, pR_24, pZ_24, ao_24, aR_25, sR_25, gI_26, gR_26, pI_26, pR_26, pZ_26, ao_26, gI_27, gR_27, pI_27, pR_27, pZ_27, ao_27, gI_28, gR_28, pI_28, pR_28, pZ_28, ao_28, gI_29, gR_29, pI_29, pR_29, pZ_29, ao_29, gI_30, gR_30, pI_30, pR_30, pZ_30, ao_30, gI_69, gR_69, pI_69, pR_69, pZ_69, ao_69, pc_same H, pc_people H, pc_works H, pc_cols H, pc_tags H, pc_tape H, pc_sieve H, pc_gifts H, pc_coms H, pc_mean H, pc_par H, pc_abv H, pc_chars H, pc_scan H, pc_parts H, pc_items H, pc_nots H, pc_signs H, pc_recv H, pc_ways H, if_true, if_false, t1]
  · simp (decide := true) only [f_X11_wipe, nz_0, nz_1, rz_bI, rz_0, rz_1, bI_eq0, bI_t, bI_f, bI_ri, bI_ex, bR_ra, bR_ex, bV_rt, bV_ex, bW_rt, bJ_ri, bIx_ri, bIx_ex, bVx_rt, bVx_ex, gi_ne, gi_eq, gi_sr, gi_sl, gi_th, gi_op, gr_si, gr_sl, gr_th, gr_op, gr_ne, gl_si, gl_sr, gl_th, gl_op, gl_eq, gi_al, gr_al, gl_al, nx_si, nx_sr, nx_sl, nx_th, nx_op, nx_al, nx_als, nc_si, nc_sr, nc_sl, nc_th, nc_op, nc_al, ns_si, ns_sr, ns_sl, ns_th, ns_op, ns_al, gi_neI, aI_31, sZ_31, aI_32, sI_32, aI_33, sI_33, aI_34, sI_34, aI_35, sI_35, aI_36, sI_36, aI_37, sI_37, aI_38, sZ_38, aI_39, sI_39, aI_40, sI_40, aI_41, sI_41, aI_42, sZ_42, aI_43, sZ_43, aI_44, sI_44, aI_45, sI_45, aI_46, sI_46, aI_47, sI_47, aI_48, sI_48, aI_49, sI_49, aI_50, sI_50, aI_51, sZ_51, aI_52, sZ_52, aI_53, sZ_53, aI_54, sI_54, aI_55, sI_55, aI_56, sI_56, aI_57, sI_57, aI_58, sZ_58, aI_59, sI_59, aI_60, sI_60, aI_61, sI_61, aI_62, sI_62, aI_63, sZ_63, aI_64, sZ_64, aI_65, sZ_65, aI_66, sI_66, aI_67, sI_67, aI_68, sZ_68, gI_70, gR_70, pI_70, pR_70, pZ_70, ao_70, aL_71, sL_71, pm_2 G, pm_3 G, pm_5 G, pm_6 G, pm_7 G, pm_8 G, pm_9 G, pm_10 G, pm_11 G, pm_12 G, pm_13 G, pm_14 G, pm_15 G, pm_16 G, pm_18 G, pm_19 G, pm_21 G, pm_22 G, pm_23 G, pm_25 G, pm_26 G, pm_27 G, pm_28 G, pm_31 G, pm_32 G, pm_33 G, pm_34 G, pm_35 G, pm_36 G, pm_38 G, pm_39 G, pm_40 G, pm_41 G, pm_42 G, pm_43 G, pm_44 G, pm_45 G, pm_46 G, r_isWork, r_isTag, r_isPerson, r_isFace, r_h0, r_h1, r_h2, r_h3, n10, n20, n30, n00, if_true, if_false, t2]
  · have F : Frm (pX [(22, 1), (70, 24)] []) h (m_si (m_si (m_si h 22 0 1 0) 70 0 0 0) 70 0 24 0) := (((Frm.refl _ h).si rfl).si rfl).si rfl
    exact ⟨W, Cn, Tn, Sn, Qn, ⟨H.frm F, G.frm F, rDay.frm F, rBlk.frm F, rSam.frm F, N.frm F, rWa.frm F, rWc.frm F, rWp.frm F, rWl.frm F, rWo.frm F, rWt.frm F, rWf.frm F, rWw.frm F, rWs.frm F, rWk.frm F, rCo.frm F, rTg.frm F, rPa.frm F, ⟨0, by omega, rfl, rfl, fun i hi => absurd hi (by omega)⟩, rSg.frm F, rCm.frm F, rSb.frm F, rDg.frm F⟩⟩
theorem op_tag {W Cn Tn Sn Qn : Nat} {h : am_H} (R : RR W Cn Tn Sn Qn h) : OpOK h (f_L_tag (some (69, 0)) (some (71, 0)) h) (f_X11_tag (70, 0)) vI := by
  have R0 := R
  obtain ⟨H, G, rDay, rBlk, rSam, N, rWa, rWc, rWp, rWl, rWo, rWt, rWf, rWw, rWs, rWk, rCo, rTg, rPa, rTp, rSg, rCm, rSb, rDg⟩ := R
  have hT := rTg.1
  have t1 := rTg.2.1
  have t2 := rTg.2.2.1
  have c1 : (nI Tn < (30 : Int32)) = (Tn < 30) := i_lt (b := 30) (by omega) (by omega)
  have c2 : (nI Tn = (30 : Int32)) = (Tn = 30) := i_eq (b := 30) (by omega) (by omega)
  by_cases h30 : Tn < 30
  · have h30' : ¬ Tn = 30 := by omega
    refine ok_u (h1 := (m_si (m_si h 11 0 Tn (-1)) 21 0 0 (nI (Tn + 1)))) (b := nI Tn) (h2 := (m_si (m_si (m_sl (m_si (m_si h 11 0 Tn (-1)) 21 0 0 (nI (Tn + 1))) 71 0 0 (vI (nI Tn))) 70 0 0 0) 70 0 20 (nI (Tn + 1)))) (L_tag_ret ?_) ?_ rfl rfl rfl rfl (Nat.le_add_right _ _) (Nat.le_add_right _ _) ?_
    · simp (decide := true) only [f_X10_tag, f_X7_add, nz_0, nz_1, rz_bI, rz_0, rz_1, bI_eq0, bI_t, bI_f, bI_ri, bI_ex, bR_ra, bR_ex, bV_rt, bV_ex, bW_rt, bJ_ri, bIx_ri, bIx_ex, bVx_rt, bVx_ex, gi_ne, gi_eq, gi_sr, gi_sl, gi_th, gi_op, gr_si, gr_sl, gr_th, gr_op, gr_ne, gl_si, gl_sr, gl_th, gl_op, gl_eq, gi_al, gr_al, gl_al, nx_si, nx_sr, nx_sl, nx_th, nx_op, nx_al, nx_als, nc_si, nc_sr, nc_sl, nc_th, nc_op, nc_al, ns_si, ns_sr, ns_sl, ns_th, ns_op, ns_al, gi_neI, aR_2, sR_2, aI_3, sI_3, aI_4, sI_4, aI_5, sI_5, aI_6, sI_6, aI_7, sI_7, aI_8, sI_8, aI_9, sI_9, aI_10, sZ_10, aI_11, sI_11, aI_12, sI_12, aI_13, sI_13, aI_14, sC_14, gI_15, gR_15, pI_15, pR_15, pZ_15, ao_15, pC_15, aI_16, sI_16, aI_17, sI_17, aR_18, sR_18, aR_19, sR_19, aR_20, sR_20, gI_21, gR_21, pI_21, pR_21, pZ_21, ao_21, gI_22, gR_22, pI_22, pR_22, pZ_22, ao_22, gI_23, gR_23, pI_23, pR_23, pZ_23, ao_23, gI_24, gR_24, pI_24, pR_24, pZ_24, ao_24, aR_25, sR_25, gI_26, gR_26, pI_26, pR_26, pZ_26, ao_26, gI_27, gR_27, pI_27, pR_27, pZ_27, ao_27, gI_28, gR_28, pI_28, pR_28, pZ_28, ao_28, gI_29, gR_29, pI_29, pR_29, pZ_29, ao_29, gI_30, gR_30, pI_30, pR_30, pZ_30, ao_30, gI_69, gR_69, pI_69, pR_69, pZ_69, ao_69, pc_same H, pc_people H, pc_works H, pc_cols H, pc_tags H, pc_tape H, pc_sieve H, pc_gifts H, pc_coms H, pc_mean H, pc_par H, pc_abv H, pc_chars H, pc_scan H, pc_parts H, pc_items H, pc_nots H, pc_signs H, pc_recv H, pc_ways H, if_true, if_false, t1, c1, h30, nI_1, nI_pred]
    · simp (decide := true) only [f_X11_tag_15, f_X11_tag, nz_0, nz_1, rz_bI, rz_0, rz_1, bI_eq0, bI_t, bI_f, bI_ri, bI_ex, bR_ra, bR_ex, bV_rt, bV_ex, bW_rt, bJ_ri, bIx_ri, bIx_ex, bVx_rt, bVx_ex, gi_ne, gi_eq, gi_sr, gi_sl, gi_th, gi_op, gr_si, gr_sl, gr_th, gr_op, gr_ne, gl_si, gl_sr, gl_th, gl_op, gl_eq, gi_al, gr_al, gl_al, nx_si, nx_sr, nx_sl, nx_th, nx_op, nx_al, nx_als, nc_si, nc_sr, nc_sl, nc_th, nc_op, nc_al, ns_si, ns_sr, ns_sl, ns_th, ns_op, ns_al, gi_neI, aI_31, sZ_31, aI_32, sI_32, aI_33, sI_33, aI_34, sI_34, aI_35, sI_35, aI_36, sI_36, aI_37, sI_37, aI_38, sZ_38, aI_39, sI_39, aI_40, sI_40, aI_41, sI_41, aI_42, sZ_42, aI_43, sZ_43, aI_44, sI_44, aI_45, sI_45, aI_46, sI_46, aI_47, sI_47, aI_48, sI_48, aI_49, sI_49, aI_50, sI_50, aI_51, sZ_51, aI_52, sZ_52, aI_53, sZ_53, aI_54, sI_54, aI_55, sI_55, aI_56, sI_56, aI_57, sI_57, aI_58, sZ_58, aI_59, sI_59, aI_60, sI_60, aI_61, sI_61, aI_62, sI_62, aI_63, sZ_63, aI_64, sZ_64, aI_65, sZ_65, aI_66, sI_66, aI_67, sI_67, aI_68, sZ_68, gI_70, gR_70, pI_70, pR_70, pZ_70, ao_70, aL_71, sL_71, pm_2 G, pm_3 G, pm_5 G, pm_6 G, pm_7 G, pm_8 G, pm_9 G, pm_10 G, pm_11 G, pm_12 G, pm_13 G, pm_14 G, pm_15 G, pm_16 G, pm_18 G, pm_19 G, pm_21 G, pm_22 G, pm_23 G, pm_25 G, pm_26 G, pm_27 G, pm_28 G, pm_31 G, pm_32 G, pm_33 G, pm_34 G, pm_35 G, pm_36 G, pm_38 G, pm_39 G, pm_40 G, pm_41 G, pm_42 G, pm_43 G, pm_44 G, pm_45 G, pm_46 G, r_isWork, r_isTag, r_isPerson, r_isFace, r_h0, r_h1, r_h2, r_h3, n10, n20, n30, n00, if_true, if_false, t2, c2, h30', nI_1, nI_pred]
    · have F : Frm (pX [(21, 0), (70, 20)] [11]) h (m_si (m_si (m_sl (m_si (m_si h 11 0 Tn (-1)) 21 0 0 (nI (Tn + 1))) 71 0 0 (vI (nI Tn))) 70 0 0 0) 70 0 20 (nI (Tn + 1))) := ((((Frm.refl _ h).si rfl).si rfl).sl.si rfl).si rfl
      refine ⟨W, Cn, Tn + 1, Sn, Qn, ⟨H.frm F, G.frm F, rDay.frm F, rBlk.frm F, rSam.frm F, N.frm F, rWa.frm F, rWc.frm F, rWp.frm F, rWl.frm F, rWo.frm F, ?_, ?_, rWw.frm F, rWs.frm F, rWk.frm F, rCo.frm F, ?_, ?_, rTp.frm F, ?_, rCm.frm F, rSb.frm F, rDg.frm F⟩⟩
      · obtain ⟨a1, a2, a3⟩ := rWt.frm F
        exact ⟨a1, fun k i hk hi => a2 k i hk (by omega), a3⟩
      · obtain ⟨a1, a2, a3⟩ := rWf.frm F
        exact ⟨a1, fun k i hk hi => a2 k i hk (by omega), a3⟩
      · have e1 : ∀ j, m_gi (m_si (m_si (m_sl (m_si (m_si h 11 0 Tn (-1)) 21 0 0 (nI (Tn + 1))) 71 0 0 (vI (nI Tn))) 70 0 0 0) 70 0 20 (nI (Tn + 1))) 11 0 j = if j = Tn then -1 else m_gi h 11 0 j := fun j => show m_gi (m_si h 11 0 Tn (-1)) 11 0 j = _ from gi_upJ
        have e2 : ∀ k j, m_gi (m_si (m_si (m_sl (m_si (m_si h 11 0 Tn (-1)) 21 0 0 (nI (Tn + 1))) 71 0 0 (vI (nI Tn))) 70 0 0 0) 70 0 20 (nI (Tn + 1))) 47 k j = m_gi h 47 k j := fun k j => F.1 47 k j rfl
        have e3 : ∀ k j, m_gi (m_si (m_si (m_sl (m_si (m_si h 11 0 Tn (-1)) 21 0 0 (nI (Tn + 1))) 71 0 0 (vI (nI Tn))) 70 0 0 0) 70 0 20 (nI (Tn + 1))) 48 k j = m_gi h 48 k j := fun k j => F.1 48 k j rfl
        refine ⟨by omega, rfl, rfl, fun t ht => ?_, fun t ht h1 => ?_⟩
        · rw [e1, e2, e3]
          by_cases e : t = Tn
          · subst e
            rw [if_pos rfl]
            exact Or.inl ⟨rTg.2.2.2.2 _ (Nat.le_refl _) h30, rfl⟩
          · rw [if_neg e]
            rcases rTg.2.2.2.1 t (by omega) with q | q | ⟨q1, m, q2, q3, q4, q5, q6⟩
            · exact Or.inl q
            · exact Or.inr (Or.inl q)
            · exact Or.inr (Or.inr ⟨q1, m, by omega, q3, q4, q5, by rw [e2]; exact q6⟩)
        · rw [e2]; exact rTg.2.2.2.2 t (by omega) h1
      · obtain ⟨a1, a2, a3⟩ := rPa.frm F
        exact ⟨a1, fun t u ht hb => ⟨by have := (a2 t u ht hb).1; omega, by have := (a2 t u ht hb).2.1; omega, (a2 t u ht hb).2.2⟩, a3⟩
      · obtain ⟨a1, a2, a3, a4, a5⟩ := rSg.frm F
        exact ⟨a1, a2, a3, a4, fun k hk => ⟨(a5 k hk).1, (a5 k hk).2.1, (a5 k hk).2.2.1, (a5 k hk).2.2.2.1, (a5 k hk).2.2.2.2.1, (a5 k hk).2.2.2.2.2.1, fun i hi => (a5 k hk).2.2.2.2.2.2 i (by omega)⟩⟩
  · have h30' : Tn = 30 := by omega
    refine ok_ex R0 (c := 1) (b := 0) (by decide) (L_tag_x2 ?_) ?_
    · simp (decide := true) only [f_X10_tag, nz_0, nz_1, rz_bI, rz_0, rz_1, bI_eq0, bI_t, bI_f, bI_ri, bI_ex, bR_ra, bR_ex, bV_rt, bV_ex, bW_rt, bJ_ri, bIx_ri, bIx_ex, bVx_rt, bVx_ex, gi_ne, gi_eq, gi_sr, gi_sl, gi_th, gi_op, gr_si, gr_sl, gr_th, gr_op, gr_ne, gl_si, gl_sr, gl_th, gl_op, gl_eq, gi_al, gr_al, gl_al, nx_si, nx_sr, nx_sl, nx_th, nx_op, nx_al, nx_als, nc_si, nc_sr, nc_sl, nc_th, nc_op, nc_al, ns_si, ns_sr, ns_sl, ns_th, ns_op, ns_al, gi_neI, aR_2, sR_2, aI_3, sI_3, aI_4, sI_4, aI_5, sI_5, aI_6, sI_6, aI_7, sI_7, aI_8, sI_8, aI_9, sI_9, aI_10, sZ_10, aI_11, sI_11, aI_12, sI_12, aI_13, sI_13, aI_14, sC_14, gI_15, gR_15, pI_15, pR_15, pZ_15, ao_15, pC_15, aI_16, sI_16, aI_17, sI_17, aR_18, sR_18, aR_19, sR_19, aR_20, sR_20, gI_21, gR_21, pI_21, pR_21, pZ_21, ao_21, gI_22, gR_22, pI_22, pR_22, pZ_22, ao_22, gI_23, gR_23, pI_23, pR_23, pZ_23, ao_23, gI_24, gR_24, pI_24, pR_24, pZ_24, ao_24, aR_25, sR_25, gI_26, gR_26, pI_26, pR_26, pZ_26, ao_26, gI_27, gR_27, pI_27, pR_27, pZ_27, ao_27, gI_28, gR_28, pI_28, pR_28, pZ_28, ao_28, gI_29, gR_29, pI_29, pR_29, pZ_29, ao_29, gI_30, gR_30, pI_30, pR_30, pZ_30, ao_30, gI_69, gR_69, pI_69, pR_69, pZ_69, ao_69, pc_same H, pc_people H, pc_works H, pc_cols H, pc_tags H, pc_tape H, pc_sieve H, pc_gifts H, pc_coms H, pc_mean H, pc_par H, pc_abv H, pc_chars H, pc_scan H, pc_parts H, pc_items H, pc_nots H, pc_signs H, pc_recv H, pc_ways H, if_true, if_false, t1, c1, h30]
    · simp (decide := true) only [f_X11_tag_15, f_X11_tag, nz_0, nz_1, rz_bI, rz_0, rz_1, bI_eq0, bI_t, bI_f, bI_ri, bI_ex, bR_ra, bR_ex, bV_rt, bV_ex, bW_rt, bJ_ri, bIx_ri, bIx_ex, bVx_rt, bVx_ex, gi_ne, gi_eq, gi_sr, gi_sl, gi_th, gi_op, gr_si, gr_sl, gr_th, gr_op, gr_ne, gl_si, gl_sr, gl_th, gl_op, gl_eq, gi_al, gr_al, gl_al, nx_si, nx_sr, nx_sl, nx_th, nx_op, nx_al, nx_als, nc_si, nc_sr, nc_sl, nc_th, nc_op, nc_al, ns_si, ns_sr, ns_sl, ns_th, ns_op, ns_al, gi_neI, aI_31, sZ_31, aI_32, sI_32, aI_33, sI_33, aI_34, sI_34, aI_35, sI_35, aI_36, sI_36, aI_37, sI_37, aI_38, sZ_38, aI_39, sI_39, aI_40, sI_40, aI_41, sI_41, aI_42, sZ_42, aI_43, sZ_43, aI_44, sI_44, aI_45, sI_45, aI_46, sI_46, aI_47, sI_47, aI_48, sI_48, aI_49, sI_49, aI_50, sI_50, aI_51, sZ_51, aI_52, sZ_52, aI_53, sZ_53, aI_54, sI_54, aI_55, sI_55, aI_56, sI_56, aI_57, sI_57, aI_58, sZ_58, aI_59, sI_59, aI_60, sI_60, aI_61, sI_61, aI_62, sI_62, aI_63, sZ_63, aI_64, sZ_64, aI_65, sZ_65, aI_66, sI_66, aI_67, sI_67, aI_68, sZ_68, gI_70, gR_70, pI_70, pR_70, pZ_70, ao_70, aL_71, sL_71, pm_2 G, pm_3 G, pm_5 G, pm_6 G, pm_7 G, pm_8 G, pm_9 G, pm_10 G, pm_11 G, pm_12 G, pm_13 G, pm_14 G, pm_15 G, pm_16 G, pm_18 G, pm_19 G, pm_21 G, pm_22 G, pm_23 G, pm_25 G, pm_26 G, pm_27 G, pm_28 G, pm_31 G, pm_32 G, pm_33 G, pm_34 G, pm_35 G, pm_36 G, pm_38 G, pm_39 G, pm_40 G, pm_41 G, pm_42 G, pm_43 G, pm_44 G, pm_45 G, pm_46 G, r_isWork, r_isTag, r_isPerson, r_isFace, r_h0, r_h1, r_h2, r_h3, n10, n20, n30, n00, if_true, if_false, t2, c2, h30']
theorem op_owners {W Cn Tn Sn Qn : Nat} {h : am_H} (R : RR W Cn Tn Sn Qn h) (x y : Int32) : OpOK h (f_L_owners (some (69, 0)) x y (some (71, 0)) h) (f_X11_owners (70, 0) x y) vI := by
  have R0 := R
  obtain ⟨H, G, rDay, rBlk, rSam, N, rWa, rWc, rWp, rWl, rWo, rWt, rWf, rWw, rWs, rWk, rCo, rTg, rPa, rTp, rSg, rCm, rSb, rDg⟩ := R
  have hW := N.1
  obtain ⟨D, hD, d1, d2⟩ := id rDay
  rcases ix_cases x (n := 32) (by omega) with ⟨f, hf, rfl⟩ | hx
  · rcases ix_cases y (n := W) (by omega) with ⟨k, hk, rfl⟩ | hy
    · have h20 : k < 20 := by omega
      refine ok_q R0 (b := (if toldP h f k then m_gi h 34 0 k else 0)) (L_owners_ret _ _ ?_) ?_
      · simp only [f_X10_owners, c_checkFace hf, bV_rt, ao_69, c_workAt H N hk, bR_ra, gI_69, ao_27, d1, ← d2, c_ownersToldTo rWa rWp rWl rWo rCo hk hf, bI_ri]
      · skip
        have R2 : RR W Cn Tn Sn Qn (m_si (m_sl h 71 0 0 (vI (if toldP h f k then m_gi h 34 0 k else 0))) 70 0 0 0) := rr_eqv ((Frm.refl _ h).sl.si rfl) R0
        have e := r_areTold R2.G R2.rWa R2.rWo R2.rCo hk h20 hf
        have es : toldP (m_si (m_sl h 71 0 0 (vI (if toldP h f k then m_gi h 34 0 k else 0))) 70 0 0 0) f k = toldP h f k := rfl
        simp (decide := true) only [f_X11_owners_46, f_X11_owners_45, f_X11_owners_21, f_X11_owners_20, f_X11_owners, ao_70, bI_ri, r_isFace, r_isWork, gi_sl, N.2.2.1, isIx_ok (show 32 < 10000 by omega) hf, isIx_ok (show W < 10000 by omega) hk, bI_t, r_h0, n10, if_false, e, es, bI_eq0, rz_0, rz_1, gR_70, gr_si, gr_sl, pm_6 G, aI_34 h20, gi_ne]
        cases toldP h f k <;> rfl
    · refine ok_ex R0 (c := 1) (b := 0) (by decide) (L_owners_x0 _ _ ?_) ?_
      · simp only [f_X10_owners, c_checkFace hf, bV_rt, ao_69, c_workAt_bad N hy, bR_ex]
      · simp (decide := true) only [f_X11_owners_46, f_X11_owners_45, f_X11_owners_21, f_X11_owners_20, f_X11_owners, nz_0, nz_1, rz_bI, rz_0, rz_1, bI_eq0, bI_t, bI_f, bI_ri, bI_ex, bR_ra, bR_ex, bV_rt, bV_ex, bW_rt, bJ_ri, bIx_ri, bIx_ex, bVx_rt, bVx_ex, gi_ne, gi_eq, gi_sr, gi_sl, gi_th, gi_op, gr_si, gr_sl, gr_th, gr_op, gr_ne, gl_si, gl_sr, gl_th, gl_op, gl_eq, gi_al, gr_al, gl_al, nx_si, nx_sr, nx_sl, nx_th, nx_op, nx_al, nx_als, nc_si, nc_sr, nc_sl, nc_th, nc_op, nc_al, ns_si, ns_sr, ns_sl, ns_th, ns_op, ns_al, gi_neI, aI_31, sZ_31, aI_32, sI_32, aI_33, sI_33, aI_34, sI_34, aI_35, sI_35, aI_36, sI_36, aI_37, sI_37, aI_38, sZ_38, aI_39, sI_39, aI_40, sI_40, aI_41, sI_41, aI_42, sZ_42, aI_43, sZ_43, aI_44, sI_44, aI_45, sI_45, aI_46, sI_46, aI_47, sI_47, aI_48, sI_48, aI_49, sI_49, aI_50, sI_50, aI_51, sZ_51, aI_52, sZ_52, aI_53, sZ_53, aI_54, sI_54, aI_55, sI_55, aI_56, sI_56, aI_57, sI_57, aI_58, sZ_58, aI_59, sI_59, aI_60, sI_60, aI_61, sI_61, aI_62, sI_62, aI_63, sZ_63, aI_64, sZ_64, aI_65, sZ_65, aI_66, sI_66, aI_67, sI_67, aI_68, sZ_68, gI_70, gR_70, pI_70, pR_70, pZ_70, ao_70, aL_71, sL_71, pm_2 G, pm_3 G, pm_5 G, pm_6 G, pm_7 G, pm_8 G, pm_9 G, pm_10 G, pm_11 G, pm_12 G, pm_13 G, pm_14 G, pm_15 G, pm_16 G, pm_18 G, pm_19 G, pm_21 G, pm_22 G, pm_23 G, pm_25 G, pm_26 G, pm_27 G, pm_28 G, pm_31 G, pm_32 G, pm_33 G, pm_34 G, pm_35 G, pm_36 G, pm_38 G, pm_39 G, pm_40 G, pm_41 G, pm_42 G, pm_43 G, pm_44 G, pm_45 G, pm_46 G, r_isWork, r_isTag, r_isPerson, r_isFace, r_h0, r_h1, r_h2, r_h3, n10, n20, n30, n00, if_true, if_false, N.2.2.1, isIx_ok (show 32 < 10000 by omega) hf, isIx_bad (show W < 10000 by omega) hy]
  · refine ok_ex R0 (c := 1) (b := 0) (by decide) (L_owners_x0 _ _ ?_) ?_
    · simp only [f_X10_owners, c_checkFace_bad hx, bV_ex]
    · simp (decide := true) only [f_X11_owners_46, f_X11_owners_45, f_X11_owners_21, f_X11_owners_20, f_X11_owners, nz_0, nz_1, rz_bI, rz_0, rz_1, bI_eq0, bI_t, bI_f, bI_ri, bI_ex, bR_ra, bR_ex, bV_rt, bV_ex, bW_rt, bJ_ri, bIx_ri, bIx_ex, bVx_rt, bVx_ex, gi_ne, gi_eq, gi_sr, gi_sl, gi_th, gi_op, gr_si, gr_sl, gr_th, gr_op, gr_ne, gl_si, gl_sr, gl_th, gl_op, gl_eq, gi_al, gr_al, gl_al, nx_si, nx_sr, nx_sl, nx_th, nx_op, nx_al, nx_als, nc_si, nc_sr, nc_sl, nc_th, nc_op, nc_al, ns_si, ns_sr, ns_sl, ns_th, ns_op, ns_al, gi_neI, aI_31, sZ_31, aI_32, sI_32, aI_33, sI_33, aI_34, sI_34, aI_35, sI_35, aI_36, sI_36, aI_37, sI_37, aI_38, sZ_38, aI_39, sI_39, aI_40, sI_40, aI_41, sI_41, aI_42, sZ_42, aI_43, sZ_43, aI_44, sI_44, aI_45, sI_45, aI_46, sI_46, aI_47, sI_47, aI_48, sI_48, aI_49, sI_49, aI_50, sI_50, aI_51, sZ_51, aI_52, sZ_52, aI_53, sZ_53, aI_54, sI_54, aI_55, sI_55, aI_56, sI_56, aI_57, sI_57, aI_58, sZ_58, aI_59, sI_59, aI_60, sI_60, aI_61, sI_61, aI_62, sI_62, aI_63, sZ_63, aI_64, sZ_64, aI_65, sZ_65, aI_66, sI_66, aI_67, sI_67, aI_68, sZ_68, gI_70, gR_70, pI_70, pR_70, pZ_70, ao_70, aL_71, sL_71, pm_2 G, pm_3 G, pm_5 G, pm_6 G, pm_7 G, pm_8 G, pm_9 G, pm_10 G, pm_11 G, pm_12 G, pm_13 G, pm_14 G, pm_15 G, pm_16 G, pm_18 G, pm_19 G, pm_21 G, pm_22 G, pm_23 G, pm_25 G, pm_26 G, pm_27 G, pm_28 G, pm_31 G, pm_32 G, pm_33 G, pm_34 G, pm_35 G, pm_36 G, pm_38 G, pm_39 G, pm_40 G, pm_41 G, pm_42 G, pm_43 G, pm_44 G, pm_45 G, pm_46 G, r_isWork, r_isTag, r_isPerson, r_isFace, r_h0, r_h1, r_h2, r_h3, n10, n20, n30, n00, if_true, if_false, isIx_bad (show 32 < 10000 by omega) hx]
theorem op_chapter {W Cn Tn Sn Qn : Nat} {h : am_H} (R : RR W Cn Tn Sn Qn h) (x : Int32) : OpOK h (f_L_chapter (some (69, 0)) x (some (71, 0)) h) (f_X11_chapter (70, 0) x) vI := by
  have R0 := R
  obtain ⟨H, G, rDay, rBlk, rSam, N, rWa, rWc, rWp, rWl, rWo, rWt, rWf, rWw, rWs, rWk, rCo, rTg, rPa, rTp, rSg, rCm, rSb, rDg⟩ := R
  have hW := N.1
  obtain ⟨D, hD, d1, d2⟩ := id rDay
  rcases ix_cases x (n := W) (by omega) with ⟨k, hk, rfl⟩ | hx
  · have h20 : k < 20 := by omega
    obtain ⟨c, hc, c1, c2, c3⟩ := rWc.1 k hk
    have p := (N.2.2.2.2.2 k hk).2
    have l1 : (nI c < (8 : Int32)) = (c < 8) := i_lt (b := 8) (by omega) (by omega)
    have l2 : (nI c = (8 : Int32)) = (c = 8) := i_eq (b := 8) (by omega) (by omega)
    have m : (8 : Int32) * nI k + nI c = nI (8 * k + c) := by
      show nI 8 * nI k + nI c = _
      rw [pk_mul, nI_add]
    by_cases h8 : c < 8
    · have h8' : ¬ c = 8 := by omega
      refine ok_u (h1 := (m_si (m_si h 16 k c (nI D)) 27 k 3 (nI (c + 1)))) (b := nI c) (h2 := (m_si (m_si (m_si (m_sl (m_si (m_si h 16 k c (nI D)) 27 k 3 (nI (c + 1))) 71 0 0 (vI (nI c))) 70 0 0 0) 36 0 (8 * k + c) (nI D)) 35 0 k (nI (c + 1)))) (L_chapter_ret _ ?_) ?_ rfl rfl rfl rfl (Nat.le_add_right _ _) (Nat.le_add_right _ _) ?_
      · simp (decide := true) only [f_X10_chapter, nz_0, nz_1, rz_bI, rz_0, rz_1, bI_eq0, bI_t, bI_f, bI_ri, bI_ex, bR_ra, bR_ex, bV_rt, bV_ex, bW_rt, bJ_ri, bIx_ri, bIx_ex, bVx_rt, bVx_ex, gi_ne, gi_eq, gi_sr, gi_sl, gi_th, gi_op, gr_si, gr_sl, gr_th, gr_op, gr_ne, gl_si, gl_sr, gl_th, gl_op, gl_eq, gi_al, gr_al, gl_al, nx_si, nx_sr, nx_sl, nx_th, nx_op, nx_al, nx_als, nc_si, nc_sr, nc_sl, nc_th, nc_op, nc_al, ns_si, ns_sr, ns_sl, ns_th, ns_op, ns_al, gi_neI, aR_2, sR_2, aI_3, sI_3, aI_4, sI_4, aI_5, sI_5, aI_6, sI_6, aI_7, sI_7, aI_8, sI_8, aI_9, sI_9, aI_10, sZ_10, aI_11, sI_11, aI_12, sI_12, aI_13, sI_13, aI_14, sC_14, gI_15, gR_15, pI_15, pR_15, pZ_15, ao_15, pC_15, aI_16, sI_16, aI_17, sI_17, aR_18, sR_18, aR_19, sR_19, aR_20, sR_20, gI_21, gR_21, pI_21, pR_21, pZ_21, ao_21, gI_22, gR_22, pI_22, pR_22, pZ_22, ao_22, gI_23, gR_23, pI_23, pR_23, pZ_23, ao_23, gI_24, gR_24, pI_24, pR_24, pZ_24, ao_24, aR_25, sR_25, gI_26, gR_26, pI_26, pR_26, pZ_26, ao_26, gI_27, gR_27, pI_27, pR_27, pZ_27, ao_27, gI_28, gR_28, pI_28, pR_28, pZ_28, ao_28, gI_29, gR_29, pI_29, pR_29, pZ_29, ao_29, gI_30, gR_30, pI_30, pR_30, pZ_30, ao_30, gI_69, gR_69, pI_69, pR_69, pZ_69, ao_69, pc_same H, pc_people H, pc_works H, pc_cols H, pc_tags H, pc_tape H, pc_sieve H, pc_gifts H, pc_coms H, pc_mean H, pc_par H, pc_abv H, pc_chars H, pc_scan H, pc_parts H, pc_items H, pc_nots H, pc_signs H, pc_recv H, pc_ways H, if_true, if_false, c_workAt H N hk, c1, l1, h8, p, d1, nI_1, nI_pred]
      · simp (decide := true) only [f_X11_chapter_31, f_X11_chapter, nz_0, nz_1, rz_bI, rz_0, rz_1, bI_eq0, bI_t, bI_f, bI_ri, bI_ex, bR_ra, bR_ex, bV_rt, bV_ex, bW_rt, bJ_ri, bIx_ri, bIx_ex, bVx_rt, bVx_ex, gi_ne, gi_eq, gi_sr, gi_sl, gi_th, gi_op, gr_si, gr_sl, gr_th, gr_op, gr_ne, gl_si, gl_sr, gl_th, gl_op, gl_eq, gi_al, gr_al, gl_al, nx_si, nx_sr, nx_sl, nx_th, nx_op, nx_al, nx_als, nc_si, nc_sr, nc_sl, nc_th, nc_op, nc_al, ns_si, ns_sr, ns_sl, ns_th, ns_op, ns_al, gi_neI, aI_31, sZ_31, aI_32, sI_32, aI_33, sI_33, aI_34, sI_34, aI_35, sI_35, aI_36, sI_36, aI_37, sI_37, aI_38, sZ_38, aI_39, sI_39, aI_40, sI_40, aI_41, sI_41, aI_42, sZ_42, aI_43, sZ_43, aI_44, sI_44, aI_45, sI_45, aI_46, sI_46, aI_47, sI_47, aI_48, sI_48, aI_49, sI_49, aI_50, sI_50, aI_51, sZ_51, aI_52, sZ_52, aI_53, sZ_53, aI_54, sI_54, aI_55, sI_55, aI_56, sI_56, aI_57, sI_57, aI_58, sZ_58, aI_59, sI_59, aI_60, sI_60, aI_61, sI_61, aI_62, sI_62, aI_63, sZ_63, aI_64, sZ_64, aI_65, sZ_65, aI_66, sI_66, aI_67, sI_67, aI_68, sZ_68, gI_70, gR_70, pI_70, pR_70, pZ_70, ao_70, aL_71, sL_71, pm_2 G, pm_3 G, pm_5 G, pm_6 G, pm_7 G, pm_8 G, pm_9 G, pm_10 G, pm_11 G, pm_12 G, pm_13 G, pm_14 G, pm_15 G, pm_16 G, pm_18 G, pm_19 G, pm_21 G, pm_22 G, pm_23 G, pm_25 G, pm_26 G, pm_27 G, pm_28 G, pm_31 G, pm_32 G, pm_33 G, pm_34 G, pm_35 G, pm_36 G, pm_38 G, pm_39 G, pm_40 G, pm_41 G, pm_42 G, pm_43 G, pm_44 G, pm_45 G, pm_46 G, r_isWork, r_isTag, r_isPerson, r_isFace, r_h0, r_h1, r_h2, r_h3, n10, n20, n30, n00, if_true, if_false, N.2.2.1, isIx_ok (show W < 10000 by omega) hk, h20, c2, l2, h8', d2, m, show 8 * k + c < 160 by omega, nI_1, nI_pred]
      · have F : Frm (pX [(27, 3)] [16, 35, 36]) h (m_si (m_si (m_si (m_sl (m_si (m_si h 16 k c (nI D)) 27 k 3 (nI (c + 1))) 71 0 0 (vI (nI c))) 70 0 0 0) 36 0 (8 * k + c) (nI D)) 35 0 k (nI (c + 1))) := (((((Frm.refl _ h).si rfl).si rfl).sl.si rfl).si rfl).si rfl
        have e1 : ∀ j, m_gi (m_si (m_si (m_si (m_sl (m_si (m_si h 16 k c (nI D)) 27 k 3 (nI (c + 1))) 71 0 0 (vI (nI c))) 70 0 0 0) 36 0 (8 * k + c) (nI D)) 35 0 k (nI (c + 1))) 27 j 3 = if j = k then nI (c + 1) else m_gi h 27 j 3 := fun j => show m_gi (m_si (m_si h 16 k c (nI D)) 27 k 3 (nI (c + 1))) 27 j 3 = _ from gi_upK
        have e2 : ∀ j, m_gi (m_si (m_si (m_si (m_sl (m_si (m_si h 16 k c (nI D)) 27 k 3 (nI (c + 1))) 71 0 0 (vI (nI c))) 70 0 0 0) 36 0 (8 * k + c) (nI D)) 35 0 k (nI (c + 1))) 35 0 j = if j = k then nI (c + 1) else m_gi h 35 0 j := fun j => gi_upJ
        have e3 : ∀ j, m_gi (m_si (m_si (m_si (m_sl (m_si (m_si h 16 k c (nI D)) 27 k 3 (nI (c + 1))) 71 0 0 (vI (nI c))) 70 0 0 0) 36 0 (8 * k + c) (nI D)) 35 0 k (nI (c + 1))) 36 0 j = if j = 8 * k + c then nI D else m_gi h 36 0 j := fun j => show m_gi (m_si (m_si (m_sl (m_si (m_si h 16 k c (nI D)) 27 k 3 (nI (c + 1))) 71 0 0 (vI (nI c))) 70 0 0 0) 36 0 (8 * k + c) (nI D)) 36 0 j = _ from gi_upJ
        have e4 : ∀ j i, m_gi (m_si (m_si (m_si (m_sl (m_si (m_si h 16 k c (nI D)) 27 k 3 (nI (c + 1))) 71 0 0 (vI (nI c))) 70 0 0 0) 36 0 (8 * k + c) (nI D)) 35 0 k (nI (c + 1))) 16 j i = if j = k ∧ i = c then nI D else m_gi h 16 j i := fun j i => show m_gi (m_si h 16 k c (nI D)) 16 j i = _ from by
          rw [m_gi_si]; simp
        refine ⟨W, Cn, Tn, Sn, Qn, ⟨H.frm F, G.frm F, rDay.frm F, rBlk.frm F, rSam.frm F, N.frm F, rWa.frm F, ?_, ?_, rWl.frm F, rWo.frm F, rWt.frm F, rWf.frm F, rWw.frm F, rWs.frm F, rWk.frm F, rCo.frm F, rTg.frm F, rPa.frm F, rTp.frm F, rSg.frm F, rCm.frm F, rSb.frm F, rDg.frm F⟩⟩
        · refine ⟨fun j hj => ?_, fun j h1 h2 => ?_⟩
          · rw [e1, e2]
            by_cases ej : j = k
            · subst ej
              rw [if_pos rfl, if_pos rfl]
              refine ⟨c + 1, by omega, rfl, rfl, fun i hi => ?_⟩
              rw [e3, e4]
              by_cases ei : i = c
              · subst ei
                rw [if_pos ⟨rfl, rfl⟩, if_pos rfl]
                exact ⟨rfl, D, hD, rfl⟩
              · rw [if_neg (fun z => ei z.2), if_neg (by omega)]
                exact c3 i (by omega)
            · rw [if_neg ej, if_neg ej]
              obtain ⟨c', q1, q2, q3, q4⟩ := rWc.1 j hj
              refine ⟨c', q1, q2, q3, fun i hi => ?_⟩
              rw [e3, e4, if_neg (fun z => ej z.1), if_neg (by omega)]
              exact q4 i hi
          · rw [e2, if_neg (by omega)]; exact rWc.2 j h1 h2
        · intro j hj
          obtain ⟨p1, p2⟩ := rWp j hj
          have f1 : m_gi (m_si (m_si (m_si (m_sl (m_si (m_si h 16 k c (nI D)) 27 k 3 (nI (c + 1))) 71 0 0 (vI (nI c))) 70 0 0 0) 36 0 (8 * k + c) (nI D)) 35 0 k (nI (c + 1))) 27 j 4 = m_gi h 27 j 4 := F.1 27 j 4 rfl
          have f2 : m_gi (m_si (m_si (m_si (m_sl (m_si (m_si h 16 k c (nI D)) 27 k 3 (nI (c + 1))) 71 0 0 (vI (nI c))) 70 0 0 0) 36 0 (8 * k + c) (nI D)) 35 0 k (nI (c + 1))) 37 0 j = m_gi h 37 0 j := F.1 37 0 j rfl
          rw [f1, f2, e2]
          refine ⟨p1, p2.imp id (fun ⟨D', q1, q2, q3⟩ => ⟨D', q1, q2, ?_⟩)⟩
          split
          · exact fun z => by rw [i_eq0 (by omega)] at z; omega
          · exact q3
    · have h8' : c = 8 := by omega
      refine ok_ex R0 (c := 2) (b := 0) (by decide) (L_chapter_x2 _ ?_) ?_
      · simp (decide := true) only [f_X10_chapter, nz_0, nz_1, rz_bI, rz_0, rz_1, bI_eq0, bI_t, bI_f, bI_ri, bI_ex, bR_ra, bR_ex, bV_rt, bV_ex, bW_rt, bJ_ri, bIx_ri, bIx_ex, bVx_rt, bVx_ex, gi_ne, gi_eq, gi_sr, gi_sl, gi_th, gi_op, gr_si, gr_sl, gr_th, gr_op, gr_ne, gl_si, gl_sr, gl_th, gl_op, gl_eq, gi_al, gr_al, gl_al, nx_si, nx_sr, nx_sl, nx_th, nx_op, nx_al, nx_als, nc_si, nc_sr, nc_sl, nc_th, nc_op, nc_al, ns_si, ns_sr, ns_sl, ns_th, ns_op, ns_al, gi_neI, aR_2, sR_2, aI_3, sI_3, aI_4, sI_4, aI_5, sI_5, aI_6, sI_6, aI_7, sI_7, aI_8, sI_8, aI_9, sI_9, aI_10, sZ_10, aI_11, sI_11, aI_12, sI_12, aI_13, sI_13, aI_14, sC_14, gI_15, gR_15, pI_15, pR_15, pZ_15, ao_15, pC_15, aI_16, sI_16, aI_17, sI_17, aR_18, sR_18, aR_19, sR_19, aR_20, sR_20, gI_21, gR_21, pI_21, pR_21, pZ_21, ao_21, gI_22, gR_22, pI_22, pR_22, pZ_22, ao_22, gI_23, gR_23, pI_23, pR_23, pZ_23, ao_23, gI_24, gR_24, pI_24, pR_24, pZ_24, ao_24, aR_25, sR_25, gI_26, gR_26, pI_26, pR_26, pZ_26, ao_26, gI_27, gR_27, pI_27, pR_27, pZ_27, ao_27, gI_28, gR_28, pI_28, pR_28, pZ_28, ao_28, gI_29, gR_29, pI_29, pR_29, pZ_29, ao_29, gI_30, gR_30, pI_30, pR_30, pZ_30, ao_30, gI_69, gR_69, pI_69, pR_69, pZ_69, ao_69, pc_same H, pc_people H, pc_works H, pc_cols H, pc_tags H, pc_tape H, pc_sieve H, pc_gifts H, pc_coms H, pc_mean H, pc_par H, pc_abv H, pc_chars H, pc_scan H, pc_parts H, pc_items H, pc_nots H, pc_signs H, pc_recv H, pc_ways H, if_true, if_false, c_workAt H N hk, c1, l1, h8]
      · simp (decide := true) only [f_X11_chapter_31, f_X11_chapter, nz_0, nz_1, rz_bI, rz_0, rz_1, bI_eq0, bI_t, bI_f, bI_ri, bI_ex, bR_ra, bR_ex, bV_rt, bV_ex, bW_rt, bJ_ri, bIx_ri, bIx_ex, bVx_rt, bVx_ex, gi_ne, gi_eq, gi_sr, gi_sl, gi_th, gi_op, gr_si, gr_sl, gr_th, gr_op, gr_ne, gl_si, gl_sr, gl_th, gl_op, gl_eq, gi_al, gr_al, gl_al, nx_si, nx_sr, nx_sl, nx_th, nx_op, nx_al, nx_als, nc_si, nc_sr, nc_sl, nc_th, nc_op, nc_al, ns_si, ns_sr, ns_sl, ns_th, ns_op, ns_al, gi_neI, aI_31, sZ_31, aI_32, sI_32, aI_33, sI_33, aI_34, sI_34, aI_35, sI_35, aI_36, sI_36, aI_37, sI_37, aI_38, sZ_38, aI_39, sI_39, aI_40, sI_40, aI_41, sI_41, aI_42, sZ_42, aI_43, sZ_43, aI_44, sI_44, aI_45, sI_45, aI_46, sI_46, aI_47, sI_47, aI_48, sI_48, aI_49, sI_49, aI_50, sI_50, aI_51, sZ_51, aI_52, sZ_52, aI_53, sZ_53, aI_54, sI_54, aI_55, sI_55, aI_56, sI_56, aI_57, sI_57, aI_58, sZ_58, aI_59, sI_59, aI_60, sI_60, aI_61, sI_61, aI_62, sI_62, aI_63, sZ_63, aI_64, sZ_64, aI_65, sZ_65, aI_66, sI_66, aI_67, sI_67, aI_68, sZ_68, gI_70, gR_70, pI_70, pR_70, pZ_70, ao_70, aL_71, sL_71, pm_2 G, pm_3 G, pm_5 G, pm_6 G, pm_7 G, pm_8 G, pm_9 G, pm_10 G, pm_11 G, pm_12 G, pm_13 G, pm_14 G, pm_15 G, pm_16 G, pm_18 G, pm_19 G, pm_21 G, pm_22 G, pm_23 G, pm_25 G, pm_26 G, pm_27 G, pm_28 G, pm_31 G, pm_32 G, pm_33 G, pm_34 G, pm_35 G, pm_36 G, pm_38 G, pm_39 G, pm_40 G, pm_41 G, pm_42 G, pm_43 G, pm_44 G, pm_45 G, pm_46 G, r_isWork, r_isTag, r_isPerson, r_isFace, r_h0, r_h1, r_h2, r_h3, n10, n20, n30, n00, if_true, if_false, N.2.2.1, isIx_ok (show W < 10000 by omega) hk, h20, c2, l2, h8']
  · refine ok_ex R0 (c := 1) (b := 0) (by decide) (L_chapter_x0 _ ?_) ?_
    · simp (decide := true) only [f_X10_chapter, nz_0, nz_1, rz_bI, rz_0, rz_1, bI_eq0, bI_t, bI_f, bI_ri, bI_ex, bR_ra, bR_ex, bV_rt, bV_ex, bW_rt, bJ_ri, bIx_ri, bIx_ex, bVx_rt, bVx_ex, gi_ne, gi_eq, gi_sr, gi_sl, gi_th, gi_op, gr_si, gr_sl, gr_th, gr_op, gr_ne, gl_si, gl_sr, gl_th, gl_op, gl_eq, gi_al, gr_al, gl_al, nx_si, nx_sr, nx_sl, nx_th, nx_op, nx_al, nx_als, nc_si, nc_sr, nc_sl, nc_th, nc_op, nc_al, ns_si, ns_sr, ns_sl, ns_th, ns_op, ns_al, gi_neI, aR_2, sR_2, aI_3, sI_3, aI_4, sI_4, aI_5, sI_5, aI_6, sI_6, aI_7, sI_7, aI_8, sI_8, aI_9, sI_9, aI_10, sZ_10, aI_11, sI_11, aI_12, sI_12, aI_13, sI_13, aI_14, sC_14, gI_15, gR_15, pI_15, pR_15, pZ_15, ao_15, pC_15, aI_16, sI_16, aI_17, sI_17, aR_18, sR_18, aR_19, sR_19, aR_20, sR_20, gI_21, gR_21, pI_21, pR_21, pZ_21, ao_21, gI_22, gR_22, pI_22, pR_22, pZ_22, ao_22, gI_23, gR_23, pI_23, pR_23, pZ_23, ao_23, gI_24, gR_24, pI_24, pR_24, pZ_24, ao_24, aR_25, sR_25, gI_26, gR_26, pI_26, pR_26, pZ_26, ao_26, gI_27, gR_27, pI_27, pR_27, pZ_27, ao_27, gI_28, gR_28, pI_28, pR_28, pZ_28, ao_28, gI_29, gR_29, pI_29, pR_29, pZ_29, ao_29, gI_30, gR_30, pI_30, pR_30, pZ_30, ao_30, gI_69, gR_69, pI_69, pR_69, pZ_69, ao_69, pc_same H, pc_people H, pc_works H, pc_cols H, pc_tags H, pc_tape H, pc_sieve H, pc_gifts H, pc_coms H, pc_mean H, pc_par H, pc_abv H, pc_chars H, pc_scan H, pc_parts H, pc_items H, pc_nots H, pc_signs H, pc_recv H, pc_ways H, if_true, if_false, c_workAt_bad N hx]
    · simp (decide := true) only [f_X11_chapter_31, f_X11_chapter, nz_0, nz_1, rz_bI, rz_0, rz_1, bI_eq0, bI_t, bI_f, bI_ri, bI_ex, bR_ra, bR_ex, bV_rt, bV_ex, bW_rt, bJ_ri, bIx_ri, bIx_ex, bVx_rt, bVx_ex, gi_ne, gi_eq, gi_sr, gi_sl, gi_th, gi_op, gr_si, gr_sl, gr_th, gr_op, gr_ne, gl_si, gl_sr, gl_th, gl_op, gl_eq, gi_al, gr_al, gl_al, nx_si, nx_sr, nx_sl, nx_th, nx_op, nx_al, nx_als, nc_si, nc_sr, nc_sl, nc_th, nc_op, nc_al, ns_si, ns_sr, ns_sl, ns_th, ns_op, ns_al, gi_neI, aI_31, sZ_31, aI_32, sI_32, aI_33, sI_33, aI_34, sI_34, aI_35, sI_35, aI_36, sI_36, aI_37, sI_37, aI_38, sZ_38, aI_39, sI_39, aI_40, sI_40, aI_41, sI_41, aI_42, sZ_42, aI_43, sZ_43, aI_44, sI_44, aI_45, sI_45, aI_46, sI_46, aI_47, sI_47, aI_48, sI_48, aI_49, sI_49, aI_50, sI_50, aI_51, sZ_51, aI_52, sZ_52, aI_53, sZ_53, aI_54, sI_54, aI_55, sI_55, aI_56, sI_56, aI_57, sI_57, aI_58, sZ_58, aI_59, sI_59, aI_60, sI_60, aI_61, sI_61, aI_62, sI_62, aI_63, sZ_63, aI_64, sZ_64, aI_65, sZ_65, aI_66, sI_66, aI_67, sI_67, aI_68, sZ_68, gI_70, gR_70, pI_70, pR_70, pZ_70, ao_70, aL_71, sL_71, pm_2 G, pm_3 G, pm_5 G, pm_6 G, pm_7 G, pm_8 G, pm_9 G, pm_10 G, pm_11 G, pm_12 G, pm_13 G, pm_14 G, pm_15 G, pm_16 G, pm_18 G, pm_19 G, pm_21 G, pm_22 G, pm_23 G, pm_25 G, pm_26 G, pm_27 G, pm_28 G, pm_31 G, pm_32 G, pm_33 G, pm_34 G, pm_35 G, pm_36 G, pm_38 G, pm_39 G, pm_40 G, pm_41 G, pm_42 G, pm_43 G, pm_44 G, pm_45 G, pm_46 G, r_isWork, r_isTag, r_isPerson, r_isFace, r_h0, r_h1, r_h2, r_h3, n10, n20, n30, n00, if_true, if_false, N.2.2.1, isIx_bad (show W < 10000 by omega) hx]
theorem op_post {W Cn Tn Sn Qn : Nat} {h : am_H} (R : RR W Cn Tn Sn Qn h) (x : Int32) : OpOK h (f_L_post (some (69, 0)) x (some (71, 0)) h) (f_X11_post (70, 0) x) vI := by
  have R0 := R
  obtain ⟨H, G, rDay, rBlk, rSam, N, rWa, rWc, rWp, rWl, rWo, rWt, rWf, rWw, rWs, rWk, rCo, rTg, rPa, rTp, rSg, rCm, rSb, rDg⟩ := R
  have hW := N.1
  obtain ⟨D, hD, d1, d2⟩ := id rDay
  rcases ix_cases x (n := W) (by omega) with ⟨k, hk, rfl⟩ | hx
  · have h20 : k < 20 := by omega
    obtain ⟨c, hc, c1, c2, c3⟩ := rWc.1 k hk
    have l2 : (nI c = (0 : Int32)) = (c = 0) := i_eq0 (by omega)
    by_cases hp : m_gi h 37 0 k = -1
    · by_cases h0 : c = 0
      · refine ok_ex R0 (c := 2) (b := 0) (by decide) (L_post_x2 _ ?_) ?_
        · simp (decide := true) only [f_X10_post_20, f_X10_post, nz_0, nz_1, rz_bI, rz_0, rz_1, bI_eq0, bI_t, bI_f, bI_ri, bI_ex, bR_ra, bR_ex, bV_rt, bV_ex, bW_rt, bJ_ri, bIx_ri, bIx_ex, bVx_rt, bVx_ex, gi_ne, gi_eq, gi_sr, gi_sl, gi_th, gi_op, gr_si, gr_sl, gr_th, gr_op, gr_ne, gl_si, gl_sr, gl_th, gl_op, gl_eq, gi_al, gr_al, gl_al, nx_si, nx_sr, nx_sl, nx_th, nx_op, nx_al, nx_als, nc_si, nc_sr, nc_sl, nc_th, nc_op, nc_al, ns_si, ns_sr, ns_sl, ns_th, ns_op, ns_al, gi_neI, aR_2, sR_2, aI_3, sI_3, aI_4, sI_4, aI_5, sI_5, aI_6, sI_6, aI_7, sI_7, aI_8, sI_8, aI_9, sI_9, aI_10, sZ_10, aI_11, sI_11, aI_12, sI_12, aI_13, sI_13, aI_14, sC_14, gI_15, gR_15, pI_15, pR_15, pZ_15, ao_15, pC_15, aI_16, sI_16, aI_17, sI_17, aR_18, sR_18, aR_19, sR_19, aR_20, sR_20, gI_21, gR_21, pI_21, pR_21, pZ_21, ao_21, gI_22, gR_22, pI_22, pR_22, pZ_22, ao_22, gI_23, gR_23, pI_23, pR_23, pZ_23, ao_23, gI_24, gR_24, pI_24, pR_24, pZ_24, ao_24, aR_25, sR_25, gI_26, gR_26, pI_26, pR_26, pZ_26, ao_26, gI_27, gR_27, pI_27, pR_27, pZ_27, ao_27, gI_28, gR_28, pI_28, pR_28, pZ_28, ao_28, gI_29, gR_29, pI_29, pR_29, pZ_29, ao_29, gI_30, gR_30, pI_30, pR_30, pZ_30, ao_30, gI_69, gR_69, pI_69, pR_69, pZ_69, ao_69, pc_same H, pc_people H, pc_works H, pc_cols H, pc_tags H, pc_tape H, pc_sieve H, pc_gifts H, pc_coms H, pc_mean H, pc_par H, pc_abv H, pc_chars H, pc_scan H, pc_parts H, pc_items H, pc_nots H, pc_signs H, pc_recv H, pc_ways H, if_true, if_false, c_workAt H N hk, c_isPosted rWp hk, hp, c1, l2, h0]
        · simp (decide := true) only [f_X11_post_39, f_X11_post_34, f_X11_post, nz_0, nz_1, rz_bI, rz_0, rz_1, bI_eq0, bI_t, bI_f, bI_ri, bI_ex, bR_ra, bR_ex, bV_rt, bV_ex, bW_rt, bJ_ri, bIx_ri, bIx_ex, bVx_rt, bVx_ex, gi_ne, gi_eq, gi_sr, gi_sl, gi_th, gi_op, gr_si, gr_sl, gr_th, gr_op, gr_ne, gl_si, gl_sr, gl_th, gl_op, gl_eq, gi_al, gr_al, gl_al, nx_si, nx_sr, nx_sl, nx_th, nx_op, nx_al, nx_als, nc_si, nc_sr, nc_sl, nc_th, nc_op, nc_al, ns_si, ns_sr, ns_sl, ns_th, ns_op, ns_al, gi_neI, aI_31, sZ_31, aI_32, sI_32, aI_33, sI_33, aI_34, sI_34, aI_35, sI_35, aI_36, sI_36, aI_37, sI_37, aI_38, sZ_38, aI_39, sI_39, aI_40, sI_40, aI_41, sI_41, aI_42, sZ_42, aI_43, sZ_43, aI_44, sI_44, aI_45, sI_45, aI_46, sI_46, aI_47, sI_47, aI_48, sI_48, aI_49, sI_49, aI_50, sI_50, aI_51, sZ_51, aI_52, sZ_52, aI_53, sZ_53, aI_54, sI_54, aI_55, sI_55, aI_56, sI_56, aI_57, sI_57, aI_58, sZ_58, aI_59, sI_59, aI_60, sI_60, aI_61, sI_61, aI_62, sI_62, aI_63, sZ_63, aI_64, sZ_64, aI_65, sZ_65, aI_66, sI_66, aI_67, sI_67, aI_68, sZ_68, gI_70, gR_70, pI_70, pR_70, pZ_70, ao_70, aL_71, sL_71, pm_2 G, pm_3 G, pm_5 G, pm_6 G, pm_7 G, pm_8 G, pm_9 G, pm_10 G, pm_11 G, pm_12 G, pm_13 G, pm_14 G, pm_15 G, pm_16 G, pm_18 G, pm_19 G, pm_21 G, pm_22 G, pm_23 G, pm_25 G, pm_26 G, pm_27 G, pm_28 G, pm_31 G, pm_32 G, pm_33 G, pm_34 G, pm_35 G, pm_36 G, pm_38 G, pm_39 G, pm_40 G, pm_41 G, pm_42 G, pm_43 G, pm_44 G, pm_45 G, pm_46 G, r_isWork, r_isTag, r_isPerson, r_isFace, r_h0, r_h1, r_h2, r_h3, n10, n20, n30, n00, if_true, if_false, N.2.2.1, isIx_ok (show W < 10000 by omega) hk, h20, hp, c2, l2, h0]
      · skip
        refine ok_u (h1 := (m_si h 27 k 4 (nI D))) (b := nI c) (h2 := (m_si (m_si (m_sl (m_si h 27 k 4 (nI D)) 71 0 0 (vI (nI c))) 70 0 0 0) 37 0 k (nI D))) (L_post_ret _ ?_) ?_ rfl rfl rfl rfl (Nat.le_add_right _ _) (Nat.le_add_right _ _) ?_
        · simp (decide := true) only [f_X10_post_20, f_X10_post, nz_0, nz_1, rz_bI, rz_0, rz_1, bI_eq0, bI_t, bI_f, bI_ri, bI_ex, bR_ra, bR_ex, bV_rt, bV_ex, bW_rt, bJ_ri, bIx_ri, bIx_ex, bVx_rt, bVx_ex, gi_ne, gi_eq, gi_sr, gi_sl, gi_th, gi_op, gr_si, gr_sl, gr_th, gr_op, gr_ne, gl_si, gl_sr, gl_th, gl_op, gl_eq, gi_al, gr_al, gl_al, nx_si, nx_sr, nx_sl, nx_th, nx_op, nx_al, nx_als, nc_si, nc_sr, nc_sl, nc_th, nc_op, nc_al, ns_si, ns_sr, ns_sl, ns_th, ns_op, ns_al, gi_neI, aR_2, sR_2, aI_3, sI_3, aI_4, sI_4, aI_5, sI_5, aI_6, sI_6, aI_7, sI_7, aI_8, sI_8, aI_9, sI_9, aI_10, sZ_10, aI_11, sI_11, aI_12, sI_12, aI_13, sI_13, aI_14, sC_14, gI_15, gR_15, pI_15, pR_15, pZ_15, ao_15, pC_15, aI_16, sI_16, aI_17, sI_17, aR_18, sR_18, aR_19, sR_19, aR_20, sR_20, gI_21, gR_21, pI_21, pR_21, pZ_21, ao_21, gI_22, gR_22, pI_22, pR_22, pZ_22, ao_22, gI_23, gR_23, pI_23, pR_23, pZ_23, ao_23, gI_24, gR_24, pI_24, pR_24, pZ_24, ao_24, aR_25, sR_25, gI_26, gR_26, pI_26, pR_26, pZ_26, ao_26, gI_27, gR_27, pI_27, pR_27, pZ_27, ao_27, gI_28, gR_28, pI_28, pR_28, pZ_28, ao_28, gI_29, gR_29, pI_29, pR_29, pZ_29, ao_29, gI_30, gR_30, pI_30, pR_30, pZ_30, ao_30, gI_69, gR_69, pI_69, pR_69, pZ_69, ao_69, pc_same H, pc_people H, pc_works H, pc_cols H, pc_tags H, pc_tape H, pc_sieve H, pc_gifts H, pc_coms H, pc_mean H, pc_par H, pc_abv H, pc_chars H, pc_scan H, pc_parts H, pc_items H, pc_nots H, pc_signs H, pc_recv H, pc_ways H, if_true, if_false, c_workAt H N hk, c_isPosted rWp hk, hp, c1, l2, h0, d1]
        · simp (decide := true) only [f_X11_post_39, f_X11_post_34, f_X11_post, nz_0, nz_1, rz_bI, rz_0, rz_1, bI_eq0, bI_t, bI_f, bI_ri, bI_ex, bR_ra, bR_ex, bV_rt, bV_ex, bW_rt, bJ_ri, bIx_ri, bIx_ex, bVx_rt, bVx_ex, gi_ne, gi_eq, gi_sr, gi_sl, gi_th, gi_op, gr_si, gr_sl, gr_th, gr_op, gr_ne, gl_si, gl_sr, gl_th, gl_op, gl_eq, gi_al, gr_al, gl_al, nx_si, nx_sr, nx_sl, nx_th, nx_op, nx_al, nx_als, nc_si, nc_sr, nc_sl, nc_th, nc_op, nc_al, ns_si, ns_sr, ns_sl, ns_th, ns_op, ns_al, gi_neI, aI_31, sZ_31, aI_32, sI_32, aI_33, sI_33, aI_34, sI_34, aI_35, sI_35, aI_36, sI_36, aI_37, sI_37, aI_38, sZ_38, aI_39, sI_39, aI_40, sI_40, aI_41, sI_41, aI_42, sZ_42, aI_43, sZ_43, aI_44, sI_44, aI_45, sI_45, aI_46, sI_46, aI_47, sI_47, aI_48, sI_48, aI_49, sI_49, aI_50, sI_50, aI_51, sZ_51, aI_52, sZ_52, aI_53, sZ_53, aI_54, sI_54, aI_55, sI_55, aI_56, sI_56, aI_57, sI_57, aI_58, sZ_58, aI_59, sI_59, aI_60, sI_60, aI_61, sI_61, aI_62, sI_62, aI_63, sZ_63, aI_64, sZ_64, aI_65, sZ_65, aI_66, sI_66, aI_67, sI_67, aI_68, sZ_68, gI_70, gR_70, pI_70, pR_70, pZ_70, ao_70, aL_71, sL_71, pm_2 G, pm_3 G, pm_5 G, pm_6 G, pm_7 G, pm_8 G, pm_9 G, pm_10 G, pm_11 G, pm_12 G, pm_13 G, pm_14 G, pm_15 G, pm_16 G, pm_18 G, pm_19 G, pm_21 G, pm_22 G, pm_23 G, pm_25 G, pm_26 G, pm_27 G, pm_28 G, pm_31 G, pm_32 G, pm_33 G, pm_34 G, pm_35 G, pm_36 G, pm_38 G, pm_39 G, pm_40 G, pm_41 G, pm_42 G, pm_43 G, pm_44 G, pm_45 G, pm_46 G, r_isWork, r_isTag, r_isPerson, r_isFace, r_h0, r_h1, r_h2, r_h3, n10, n20, n30, n00, if_true, if_false, N.2.2.1, isIx_ok (show W < 10000 by omega) hk, h20, hp, c2, l2, h0, d2]
        · have F : Frm (pX [(27, 4)] [37]) h (m_si (m_si (m_sl (m_si h 27 k 4 (nI D)) 71 0 0 (vI (nI c))) 70 0 0 0) 37 0 k (nI D)) := (((Frm.refl _ h).si rfl).sl.si rfl).si rfl
          have e1 : ∀ j, m_gi (m_si (m_si (m_sl (m_si h 27 k 4 (nI D)) 71 0 0 (vI (nI c))) 70 0 0 0) 37 0 k (nI D)) 27 j 4 = if j = k then nI D else m_gi h 27 j 4 := fun j => show m_gi (m_si h 27 k 4 (nI D)) 27 j 4 = _ from gi_upK
          have e2 : ∀ j, m_gi (m_si (m_si (m_sl (m_si h 27 k 4 (nI D)) 71 0 0 (vI (nI c))) 70 0 0 0) 37 0 k (nI D)) 37 0 j = if j = k then nI D else m_gi h 37 0 j := fun j => gi_upJ
          have e3 : ∀ j, m_gi (m_si (m_si (m_sl (m_si h 27 k 4 (nI D)) 71 0 0 (vI (nI c))) 70 0 0 0) 37 0 k (nI D)) 35 0 j = m_gi h 35 0 j := fun j => F.1 35 0 j rfl
          refine ⟨W, Cn, Tn, Sn, Qn, ⟨H.frm F, G.frm F, rDay.frm F, rBlk.frm F, rSam.frm F, N.frm F, rWa.frm F, rWc.frm F, ?_, rWl.frm F, rWo.frm F, rWt.frm F, rWf.frm F, rWw.frm F, rWs.frm F, rWk.frm F, rCo.frm F, rTg.frm F, rPa.frm F, rTp.frm F, rSg.frm F, rCm.frm F, rSb.frm F, rDg.frm F⟩⟩
          intro j hj
          rw [e1, e2, e3]
          by_cases ej : j = k
          · subst ej
            rw [if_pos rfl, if_pos rfl]
            exact ⟨rfl, Or.inr ⟨D, hD, rfl, by rw [c2]; exact fun z => h0 (l2.mp z)⟩⟩
          · rw [if_neg ej, if_neg ej]; exact rWp j hj
    · refine ok_ex R0 (c := 2) (b := 0) (by decide) (L_post_x2 _ ?_) ?_
      · simp (decide := true) only [f_X10_post_20, f_X10_post, nz_0, nz_1, rz_bI, rz_0, rz_1, bI_eq0, bI_t, bI_f, bI_ri, bI_ex, bR_ra, bR_ex, bV_rt, bV_ex, bW_rt, bJ_ri, bIx_ri, bIx_ex, bVx_rt, bVx_ex, gi_ne, gi_eq, gi_sr, gi_sl, gi_th, gi_op, gr_si, gr_sl, gr_th, gr_op, gr_ne, gl_si, gl_sr, gl_th, gl_op, gl_eq, gi_al, gr_al, gl_al, nx_si, nx_sr, nx_sl, nx_th, nx_op, nx_al, nx_als, nc_si, nc_sr, nc_sl, nc_th, nc_op, nc_al, ns_si, ns_sr, ns_sl, ns_th, ns_op, ns_al, gi_neI, aR_2, sR_2, aI_3, sI_3, aI_4, sI_4, aI_5, sI_5, aI_6, sI_6, aI_7, sI_7, aI_8, sI_8, aI_9, sI_9, aI_10, sZ_10, aI_11, sI_11, aI_12, sI_12, aI_13, sI_13, aI_14, sC_14, gI_15, gR_15, pI_15, pR_15, pZ_15, ao_15, pC_15, aI_16, sI_16, aI_17, sI_17, aR_18, sR_18, aR_19, sR_19, aR_20, sR_20, gI_21, gR_21, pI_21, pR_21, pZ_21, ao_21, gI_22, gR_22, pI_22, pR_22, pZ_22, ao_22, gI_23, gR_23, pI_23, pR_23, pZ_23, ao_23, gI_24, gR_24, pI_24, pR_24, pZ_24, ao_24, aR_25, sR_25, gI_26, gR_26, pI_26, pR_26, pZ_26, ao_26, gI_27, gR_27, pI_27, pR_27, pZ_27, ao_27, gI_28, gR_28, pI_28, pR_28, pZ_28, ao_28, gI_29, gR_29, pI_29, pR_29, pZ_29, ao_29, gI_30, gR_30, pI_30, pR_30, pZ_30, ao_30, gI_69, gR_69, pI_69, pR_69, pZ_69, ao_69, pc_same H, pc_people H, pc_works H, pc_cols H, pc_tags H, pc_tape H, pc_sieve H, pc_gifts H, pc_coms H, pc_mean H, pc_par H, pc_abv H, pc_chars H, pc_scan H, pc_parts H, pc_items H, pc_nots H, pc_signs H, pc_recv H, pc_ways H, if_true, if_false, c_workAt H N hk, c_isPosted rWp hk, hp]
      · simp (decide := true) only [f_X11_post_39, f_X11_post_34, f_X11_post, nz_0, nz_1, rz_bI, rz_0, rz_1, bI_eq0, bI_t, bI_f, bI_ri, bI_ex, bR_ra, bR_ex, bV_rt, bV_ex, bW_rt, bJ_ri, bIx_ri, bIx_ex, bVx_rt, bVx_ex, gi_ne, gi_eq, gi_sr, gi_sl, gi_th, gi_op, gr_si, gr_sl, gr_th, gr_op, gr_ne, gl_si, gl_sr, gl_th, gl_op, gl_eq, gi_al, gr_al, gl_al, nx_si, nx_sr, nx_sl, nx_th, nx_op, nx_al, nx_als, nc_si, nc_sr, nc_sl, nc_th, nc_op, nc_al, ns_si, ns_sr, ns_sl, ns_th, ns_op, ns_al, gi_neI, aI_31, sZ_31, aI_32, sI_32, aI_33, sI_33, aI_34, sI_34, aI_35, sI_35, aI_36, sI_36, aI_37, sI_37, aI_38, sZ_38, aI_39, sI_39, aI_40, sI_40, aI_41, sI_41, aI_42, sZ_42, aI_43, sZ_43, aI_44, sI_44, aI_45, sI_45, aI_46, sI_46, aI_47, sI_47, aI_48, sI_48, aI_49, sI_49, aI_50, sI_50, aI_51, sZ_51, aI_52, sZ_52, aI_53, sZ_53, aI_54, sI_54, aI_55, sI_55, aI_56, sI_56, aI_57, sI_57, aI_58, sZ_58, aI_59, sI_59, aI_60, sI_60, aI_61, sI_61, aI_62, sI_62, aI_63, sZ_63, aI_64, sZ_64, aI_65, sZ_65, aI_66, sI_66, aI_67, sI_67, aI_68, sZ_68, gI_70, gR_70, pI_70, pR_70, pZ_70, ao_70, aL_71, sL_71, pm_2 G, pm_3 G, pm_5 G, pm_6 G, pm_7 G, pm_8 G, pm_9 G, pm_10 G, pm_11 G, pm_12 G, pm_13 G, pm_14 G, pm_15 G, pm_16 G, pm_18 G, pm_19 G, pm_21 G, pm_22 G, pm_23 G, pm_25 G, pm_26 G, pm_27 G, pm_28 G, pm_31 G, pm_32 G, pm_33 G, pm_34 G, pm_35 G, pm_36 G, pm_38 G, pm_39 G, pm_40 G, pm_41 G, pm_42 G, pm_43 G, pm_44 G, pm_45 G, pm_46 G, r_isWork, r_isTag, r_isPerson, r_isFace, r_h0, r_h1, r_h2, r_h3, n10, n20, n30, n00, if_true, if_false, N.2.2.1, isIx_ok (show W < 10000 by omega) hk, h20, hp]
  · refine ok_ex R0 (c := 1) (b := 0) (by decide) (L_post_x0 _ ?_) ?_
    · simp (decide := true) only [f_X10_post_20, f_X10_post, nz_0, nz_1, rz_bI, rz_0, rz_1, bI_eq0, bI_t, bI_f, bI_ri, bI_ex, bR_ra, bR_ex, bV_rt, bV_ex, bW_rt, bJ_ri, bIx_ri, bIx_ex, bVx_rt, bVx_ex, gi_ne, gi_eq, gi_sr, gi_sl, gi_th, gi_op, gr_si, gr_sl, gr_th, gr_op, gr_ne, gl_si, gl_sr, gl_th, gl_op, gl_eq, gi_al, gr_al, gl_al, nx_si, nx_sr, nx_sl, nx_th, nx_op, nx_al, nx_als, nc_si, nc_sr, nc_sl, nc_th, nc_op, nc_al, ns_si, ns_sr, ns_sl, ns_th, ns_op, ns_al, gi_neI, aR_2, sR_2, aI_3, sI_3, aI_4, sI_4, aI_5, sI_5, aI_6, sI_6, aI_7, sI_7, aI_8, sI_8, aI_9, sI_9, aI_10, sZ_10, aI_11, sI_11, aI_12, sI_12, aI_13, sI_13, aI_14, sC_14, gI_15, gR_15, pI_15, pR_15, pZ_15, ao_15, pC_15, aI_16, sI_16, aI_17, sI_17, aR_18, sR_18, aR_19, sR_19, aR_20, sR_20, gI_21, gR_21, pI_21, pR_21, pZ_21, ao_21, gI_22, gR_22, pI_22, pR_22, pZ_22, ao_22, gI_23, gR_23, pI_23, pR_23, pZ_23, ao_23, gI_24, gR_24, pI_24, pR_24, pZ_24, ao_24, aR_25, sR_25, gI_26, gR_26, pI_26, pR_26, pZ_26, ao_26, gI_27, gR_27, pI_27, pR_27, pZ_27, ao_27, gI_28, gR_28, pI_28, pR_28, pZ_28, ao_28, gI_29, gR_29, pI_29, pR_29, pZ_29, ao_29, gI_30, gR_30, pI_30, pR_30, pZ_30, ao_30, gI_69, gR_69, pI_69, pR_69, pZ_69, ao_69, pc_same H, pc_people H, pc_works H, pc_cols H, pc_tags H, pc_tape H, pc_sieve H, pc_gifts H, pc_coms H, pc_mean H, pc_par H, pc_abv H, pc_chars H, pc_scan H, pc_parts H, pc_items H, pc_nots H, pc_signs H, pc_recv H, pc_ways H, if_true, if_false, c_workAt_bad N hx]
    · simp (decide := true) only [f_X11_post_39, f_X11_post_34, f_X11_post, nz_0, nz_1, rz_bI, rz_0, rz_1, bI_eq0, bI_t, bI_f, bI_ri, bI_ex, bR_ra, bR_ex, bV_rt, bV_ex, bW_rt, bJ_ri, bIx_ri, bIx_ex, bVx_rt, bVx_ex, gi_ne, gi_eq, gi_sr, gi_sl, gi_th, gi_op, gr_si, gr_sl, gr_th, gr_op, gr_ne, gl_si, gl_sr, gl_th, gl_op, gl_eq, gi_al, gr_al, gl_al, nx_si, nx_sr, nx_sl, nx_th, nx_op, nx_al, nx_als, nc_si, nc_sr, nc_sl, nc_th, nc_op, nc_al, ns_si, ns_sr, ns_sl, ns_th, ns_op, ns_al, gi_neI, aI_31, sZ_31, aI_32, sI_32, aI_33, sI_33, aI_34, sI_34, aI_35, sI_35, aI_36, sI_36, aI_37, sI_37, aI_38, sZ_38, aI_39, sI_39, aI_40, sI_40, aI_41, sI_41, aI_42, sZ_42, aI_43, sZ_43, aI_44, sI_44, aI_45, sI_45, aI_46, sI_46, aI_47, sI_47, aI_48, sI_48, aI_49, sI_49, aI_50, sI_50, aI_51, sZ_51, aI_52, sZ_52, aI_53, sZ_53, aI_54, sI_54, aI_55, sI_55, aI_56, sI_56, aI_57, sI_57, aI_58, sZ_58, aI_59, sI_59, aI_60, sI_60, aI_61, sI_61, aI_62, sI_62, aI_63, sZ_63, aI_64, sZ_64, aI_65, sZ_65, aI_66, sI_66, aI_67, sI_67, aI_68, sZ_68, gI_70, gR_70, pI_70, pR_70, pZ_70, ao_70, aL_71, sL_71, pm_2 G, pm_3 G, pm_5 G, pm_6 G, pm_7 G, pm_8 G, pm_9 G, pm_10 G, pm_11 G, pm_12 G, pm_13 G, pm_14 G, pm_15 G, pm_16 G, pm_18 G, pm_19 G, pm_21 G, pm_22 G, pm_23 G, pm_25 G, pm_26 G, pm_27 G, pm_28 G, pm_31 G, pm_32 G, pm_33 G, pm_34 G, pm_35 G, pm_36 G, pm_38 G, pm_39 G, pm_40 G, pm_41 G, pm_42 G, pm_43 G, pm_44 G, pm_45 G, pm_46 G, r_isWork, r_isTag, r_isPerson, r_isFace, r_h0, r_h1, r_h2, r_h3, n10, n20, n30, n00, if_true, if_false, N.2.2.1, isIx_bad (show W < 10000 by omega) hx]
theorem op_collect {W Cn Tn Sn Qn : Nat} {h : am_H} (R : RR W Cn Tn Sn Qn h) (x y : Int32) : OpOKv h (f_L_collect (some (69, 0)) x y h) (f_X11_collect (70, 0) x y) := by
  have R0 := R
  obtain ⟨H, G, rDay, rBlk, rSam, N, rWa, rWc, rWp, rWl, rWo, rWt, rWf, rWw, rWs, rWk, rCo, rTg, rPa, rTp, rSg, rCm, rSb, rDg⟩ := R
  have hW := N.1
  have hC := rCo.1
  have k1 := rCo.2.1
  have k2 := rCo.2.2.1
  rcases ix_cases x (n := W) (by omega) with ⟨k, hk, rfl⟩ | hx
  · have h20 : k < 20 := by omega
    rcases ix_cases y (n := Cn) (by omega) with ⟨c, hc, rfl⟩ | hy
    · have h6 : c < 6 := by omega
      have n0 : (nI c < 0) = False := i_neg (by omega)
      have l1 : (nI c < nI Cn) = True := eq_true (nI_lt hc (by omega))
      have dd : decide (¬ nI c < 0 ∧ ¬ nI Cn - 1 < nI c) = true := isIx_ok (show Cn < 10000 by omega) hc
      have g := (rCo.2.2.2.2 c hc).1
      rcases rWo k hk with ⟨o1, o2⟩ | ⟨c', hc', o1, o2⟩
      · skip
        refine ok_uv (h1 := (m_sr h 27 k 6 (some (28, c)))) (h2 := (m_si (m_si (m_sr h 27 k 6 (some (28, c))) 70 0 0 0) 39 0 k (nI c))) (L_collect_ret _ _ ?_) ?_ rfl rfl rfl (Nat.le_add_right _ _) (Nat.le_add_right _ _) ?_
        · simp (decide := true) only [f_X10_collect_18, f_X10_collect, nz_0, nz_1, rz_bI, rz_0, rz_1, bI_eq0, bI_t, bI_f, bI_ri, bI_ex, bR_ra, bR_ex, bV_rt, bV_ex, bW_rt, bJ_ri, bIx_ri, bIx_ex, bVx_rt, bVx_ex, gi_ne, gi_eq, gi_sr, gi_sl, gi_th, gi_op, gr_si, gr_sl, gr_th, gr_op, gr_ne, gl_si, gl_sr, gl_th, gl_op, gl_eq, gi_al, gr_al, gl_al, nx_si, nx_sr, nx_sl, nx_th, nx_op, nx_al, nx_als, nc_si, nc_sr, nc_sl, nc_th, nc_op, nc_al, ns_si, ns_sr, ns_sl, ns_th, ns_op, ns_al, gi_neI, aR_2, sR_2, aI_3, sI_3, aI_4, sI_4, aI_5, sI_5, aI_6, sI_6, aI_7, sI_7, aI_8, sI_8, aI_9, sI_9, aI_10, sZ_10, aI_11, sI_11, aI_12, sI_12, aI_13, sI_13, aI_14, sC_14, gI_15, gR_15, pI_15, pR_15, pZ_15, ao_15, pC_15, aI_16, sI_16, aI_17, sI_17, aR_18, sR_18, aR_19, sR_19, aR_20, sR_20, gI_21, gR_21, pI_21, pR_21, pZ_21, ao_21, gI_22, gR_22, pI_22, pR_22, pZ_22, ao_22, gI_23, gR_23, pI_23, pR_23, pZ_23, ao_23, gI_24, gR_24, pI_24, pR_24, pZ_24, ao_24, aR_25, sR_25, gI_26, gR_26, pI_26, pR_26, pZ_26, ao_26, gI_27, gR_27, pI_27, pR_27, pZ_27, ao_27, gI_28, gR_28, pI_28, pR_28, pZ_28, ao_28, gI_29, gR_29, pI_29, pR_29, pZ_29, ao_29, gI_30, gR_30, pI_30, pR_30, pZ_30, ao_30, gI_69, gR_69, pI_69, pR_69, pZ_69, ao_69, pc_same H, pc_people H, pc_works H, pc_cols H, pc_tags H, pc_tape H, pc_sieve H, pc_gifts H, pc_coms H, pc_mean H, pc_par H, pc_abv H, pc_chars H, pc_scan H, pc_parts H, pc_items H, pc_nots H, pc_signs H, pc_recv H, pc_ways H, if_true, if_false, c_workAt H N hk, n0, l1, k1, o1, h6, g]
        · simp (decide := true) only [f_X11_collect_65, f_X11_collect_52, f_X11_collect_27, f_X11_collect_26, f_X11_collect, nz_0, nz_1, rz_bI, rz_0, rz_1, bI_eq0, bI_t, bI_f, bI_ri, bI_ex, bR_ra, bR_ex, bV_rt, bV_ex, bW_rt, bJ_ri, bIx_ri, bIx_ex, bVx_rt, bVx_ex, gi_ne, gi_eq, gi_sr, gi_sl, gi_th, gi_op, gr_si, gr_sl, gr_th, gr_op, gr_ne, gl_si, gl_sr, gl_th, gl_op, gl_eq, gi_al, gr_al, gl_al, nx_si, nx_sr, nx_sl, nx_th, nx_op, nx_al, nx_als, nc_si, nc_sr, nc_sl, nc_th, nc_op, nc_al, ns_si, ns_sr, ns_sl, ns_th, ns_op, ns_al, gi_neI, aI_31, sZ_31, aI_32, sI_32, aI_33, sI_33, aI_34, sI_34, aI_35, sI_35, aI_36, sI_36, aI_37, sI_37, aI_38, sZ_38, aI_39, sI_39, aI_40, sI_40, aI_41, sI_41, aI_42, sZ_42, aI_43, sZ_43, aI_44, sI_44, aI_45, sI_45, aI_46, sI_46, aI_47, sI_47, aI_48, sI_48, aI_49, sI_49, aI_50, sI_50, aI_51, sZ_51, aI_52, sZ_52, aI_53, sZ_53, aI_54, sI_54, aI_55, sI_55, aI_56, sI_56, aI_57, sI_57, aI_58, sZ_58, aI_59, sI_59, aI_60, sI_60, aI_61, sI_61, aI_62, sI_62, aI_63, sZ_63, aI_64, sZ_64, aI_65, sZ_65, aI_66, sI_66, aI_67, sI_67, aI_68, sZ_68, gI_70, gR_70, pI_70, pR_70, pZ_70, ao_70, aL_71, sL_71, pm_2 G, pm_3 G, pm_5 G, pm_6 G, pm_7 G, pm_8 G, pm_9 G, pm_10 G, pm_11 G, pm_12 G, pm_13 G, pm_14 G, pm_15 G, pm_16 G, pm_18 G, pm_19 G, pm_21 G, pm_22 G, pm_23 G, pm_25 G, pm_26 G, pm_27 G, pm_28 G, pm_31 G, pm_32 G, pm_33 G, pm_34 G, pm_35 G, pm_36 G, pm_38 G, pm_39 G, pm_40 G, pm_41 G, pm_42 G, pm_43 G, pm_44 G, pm_45 G, pm_46 G, r_isWork, r_isTag, r_isPerson, r_isFace, r_h0, r_h1, r_h2, r_h3, n10, n20, n30, n00, if_true, if_false, N.2.2.1, isIx_ok (show W < 10000 by omega) hk, h20, r_in, gi_sr, gr_ne, k2, dd, o2]
        · have F : Frm (pX [(27, 6)] [39]) h (m_si (m_si (m_sr h 27 k 6 (some (28, c))) 70 0 0 0) 39 0 k (nI c)) := (((Frm.refl _ h).sr rfl).si rfl).si rfl
          have e1 : ∀ j, m_gr (m_si (m_si (m_sr h 27 k 6 (some (28, c))) 70 0 0 0) 39 0 k (nI c)) 27 j 6 = if j = k then some (28, c) else m_gr h 27 j 6 := fun j => show m_gr (m_sr h 27 k 6 (some (28, c))) 27 j 6 = _ from by
            rw [m_gr_sr]; simp
          have e2 : ∀ j, m_gi (m_si (m_si (m_sr h 27 k 6 (some (28, c))) 70 0 0 0) 39 0 k (nI c)) 39 0 j = if j = k then nI c else m_gi h 39 0 j := fun j => gi_upJ
          refine ⟨W, Cn, Tn, Sn, Qn, ⟨H.frm F, G.frm F, rDay.frm F, rBlk.frm F, rSam.frm F, N.frm F, rWa.frm F, rWc.frm F, rWp.frm F, rWl.frm F, ?_, rWt.frm F, rWf.frm F, rWw.frm F, rWs.frm F, rWk.frm F, rCo.frm F, rTg.frm F, rPa.frm F, rTp.frm F, rSg.frm F, rCm.frm F, rSb.frm F, rDg.frm F⟩⟩
          intro j hj
          rw [e1, e2]
          by_cases ej : j = k
          · rw [if_pos ej, if_pos ej]
            exact Or.inr ⟨c, hc, rfl, rfl⟩
          · rw [if_neg ej, if_neg ej]; exact rWo j hj
      · have nm : (nI c' = -1) = False := eq_false (nI_m1 (by omega))
        refine ok_exv R0 (c := 2) (L_collect_x2 _ _ ?_) ?_
        · simp (decide := true) only [f_X10_collect_18, f_X10_collect, nz_0, nz_1, rz_bI, rz_0, rz_1, bI_eq0, bI_t, bI_f, bI_ri, bI_ex, bR_ra, bR_ex, bV_rt, bV_ex, bW_rt, bJ_ri, bIx_ri, bIx_ex, bVx_rt, bVx_ex, gi_ne, gi_eq, gi_sr, gi_sl, gi_th, gi_op, gr_si, gr_sl, gr_th, gr_op, gr_ne, gl_si, gl_sr, gl_th, gl_op, gl_eq, gi_al, gr_al, gl_al, nx_si, nx_sr, nx_sl, nx_th, nx_op, nx_al, nx_als, nc_si, nc_sr, nc_sl, nc_th, nc_op, nc_al, ns_si, ns_sr, ns_sl, ns_th, ns_op, ns_al, gi_neI, aR_2, sR_2, aI_3, sI_3, aI_4, sI_4, aI_5, sI_5, aI_6, sI_6, aI_7, sI_7, aI_8, sI_8, aI_9, sI_9, aI_10, sZ_10, aI_11, sI_11, aI_12, sI_12, aI_13, sI_13, aI_14, sC_14, gI_15, gR_15, pI_15, pR_15, pZ_15, ao_15, pC_15, aI_16, sI_16, aI_17, sI_17, aR_18, sR_18, aR_19, sR_19, aR_20, sR_20, gI_21, gR_21, pI_21, pR_21, pZ_21, ao_21, gI_22, gR_22, pI_22, pR_22, pZ_22, ao_22, gI_23, gR_23, pI_23, pR_23, pZ_23, ao_23, gI_24, gR_24, pI_24, pR_24, pZ_24, ao_24, aR_25, sR_25, gI_26, gR_26, pI_26, pR_26, pZ_26, ao_26, gI_27, gR_27, pI_27, pR_27, pZ_27, ao_27, gI_28, gR_28, pI_28, pR_28, pZ_28, ao_28, gI_29, gR_29, pI_29, pR_29, pZ_29, ao_29, gI_30, gR_30, pI_30, pR_30, pZ_30, ao_30, gI_69, gR_69, pI_69, pR_69, pZ_69, ao_69, pc_same H, pc_people H, pc_works H, pc_cols H, pc_tags H, pc_tape H, pc_sieve H, pc_gifts H, pc_coms H, pc_mean H, pc_par H, pc_abv H, pc_chars H, pc_scan H, pc_parts H, pc_items H, pc_nots H, pc_signs H, pc_recv H, pc_ways H, if_true, if_false, c_workAt H N hk, n0, l1, k1, o1, reduceCtorEq]
        · simp (decide := true) only [f_X11_collect_65, f_X11_collect_52, f_X11_collect_27, f_X11_collect_26, f_X11_collect, nz_0, nz_1, rz_bI, rz_0, rz_1, bI_eq0, bI_t, bI_f, bI_ri, bI_ex, bR_ra, bR_ex, bV_rt, bV_ex, bW_rt, bJ_ri, bIx_ri, bIx_ex, bVx_rt, bVx_ex, gi_ne, gi_eq, gi_sr, gi_sl, gi_th, gi_op, gr_si, gr_sl, gr_th, gr_op, gr_ne, gl_si, gl_sr, gl_th, gl_op, gl_eq, gi_al, gr_al, gl_al, nx_si, nx_sr, nx_sl, nx_th, nx_op, nx_al, nx_als, nc_si, nc_sr, nc_sl, nc_th, nc_op, nc_al, ns_si, ns_sr, ns_sl, ns_th, ns_op, ns_al, gi_neI, aI_31, sZ_31, aI_32, sI_32, aI_33, sI_33, aI_34, sI_34, aI_35, sI_35, aI_36, sI_36, aI_37, sI_37, aI_38, sZ_38, aI_39, sI_39, aI_40, sI_40, aI_41, sI_41, aI_42, sZ_42, aI_43, sZ_43, aI_44, sI_44, aI_45, sI_45, aI_46, sI_46, aI_47, sI_47, aI_48, sI_48, aI_49, sI_49, aI_50, sI_50, aI_51, sZ_51, aI_52, sZ_52, aI_53, sZ_53, aI_54, sI_54, aI_55, sI_55, aI_56, sI_56, aI_57, sI_57, aI_58, sZ_58, aI_59, sI_59, aI_60, sI_60, aI_61, sI_61, aI_62, sI_62, aI_63, sZ_63, aI_64, sZ_64, aI_65, sZ_65, aI_66, sI_66, aI_67, sI_67, aI_68, sZ_68, gI_70, gR_70, pI_70, pR_70, pZ_70, ao_70, aL_71, sL_71, pm_2 G, pm_3 G, pm_5 G, pm_6 G, pm_7 G, pm_8 G, pm_9 G, pm_10 G, pm_11 G, pm_12 G, pm_13 G, pm_14 G, pm_15 G, pm_16 G, pm_18 G, pm_19 G, pm_21 G, pm_22 G, pm_23 G, pm_25 G, pm_26 G, pm_27 G, pm_28 G, pm_31 G, pm_32 G, pm_33 G, pm_34 G, pm_35 G, pm_36 G, pm_38 G, pm_39 G, pm_40 G, pm_41 G, pm_42 G, pm_43 G, pm_44 G, pm_45 G, pm_46 G, r_isWork, r_isTag, r_isPerson, r_isFace, r_h0, r_h1, r_h2, r_h3, n10, n20, n30, n00, if_true, if_false, N.2.2.1, isIx_ok (show W < 10000 by omega) hk, h20, r_in, k2, dd, o2, nm]
    · have dd : decide (¬ y < 0 ∧ ¬ nI Cn - 1 < y) = false := isIx_bad (show Cn < 10000 by omega) hy
      refine ok_exv R0 (c := 1) (L_collect_x0 _ _ ?_) ?_
      · rcases hy with hy | hy
        · simp (decide := true) only [f_X10_collect_18, f_X10_collect, nz_0, nz_1, rz_bI, rz_0, rz_1, bI_eq0, bI_t, bI_f, bI_ri, bI_ex, bR_ra, bR_ex, bV_rt, bV_ex, bW_rt, bJ_ri, bIx_ri, bIx_ex, bVx_rt, bVx_ex, gi_ne, gi_eq, gi_sr, gi_sl, gi_th, gi_op, gr_si, gr_sl, gr_th, gr_op, gr_ne, gl_si, gl_sr, gl_th, gl_op, gl_eq, gi_al, gr_al, gl_al, nx_si, nx_sr, nx_sl, nx_th, nx_op, nx_al, nx_als, nc_si, nc_sr, nc_sl, nc_th, nc_op, nc_al, ns_si, ns_sr, ns_sl, ns_th, ns_op, ns_al, gi_neI, aR_2, sR_2, aI_3, sI_3, aI_4, sI_4, aI_5, sI_5, aI_6, sI_6, aI_7, sI_7, aI_8, sI_8, aI_9, sI_9, aI_10, sZ_10, aI_11, sI_11, aI_12, sI_12, aI_13, sI_13, aI_14, sC_14, gI_15, gR_15, pI_15, pR_15, pZ_15, ao_15, pC_15, aI_16, sI_16, aI_17, sI_17, aR_18, sR_18, aR_19, sR_19, aR_20, sR_20, gI_21, gR_21, pI_21, pR_21, pZ_21, ao_21, gI_22, gR_22, pI_22, pR_22, pZ_22, ao_22, gI_23, gR_23, pI_23, pR_23, pZ_23, ao_23, gI_24, gR_24, pI_24, pR_24, pZ_24, ao_24, aR_25, sR_25, gI_26, gR_26, pI_26, pR_26, pZ_26, ao_26, gI_27, gR_27, pI_27, pR_27, pZ_27, ao_27, gI_28, gR_28, pI_28, pR_28, pZ_28, ao_28, gI_29, gR_29, pI_29, pR_29, pZ_29, ao_29, gI_30, gR_30, pI_30, pR_30, pZ_30, ao_30, gI_69, gR_69, pI_69, pR_69, pZ_69, ao_69, pc_same H, pc_people H, pc_works H, pc_cols H, pc_tags H, pc_tape H, pc_sieve H, pc_gifts H, pc_coms H, pc_mean H, pc_par H, pc_abv H, pc_chars H, pc_scan H, pc_parts H, pc_items H, pc_nots H, pc_signs H, pc_recv H, pc_ways H, if_true, if_false, c_workAt H N hk, hy]
        · have := i_nlt hy
          simp (decide := true) only [f_X10_collect_18, f_X10_collect, nz_0, nz_1, rz_bI, rz_0, rz_1, bI_eq0, bI_t, bI_f, bI_ri, bI_ex, bR_ra, bR_ex, bV_rt, bV_ex, bW_rt, bJ_ri, bIx_ri, bIx_ex, bVx_rt, bVx_ex, gi_ne, gi_eq, gi_sr, gi_sl, gi_th, gi_op, gr_si, gr_sl, gr_th, gr_op, gr_ne, gl_si, gl_sr, gl_th, gl_op, gl_eq, gi_al, gr_al, gl_al, nx_si, nx_sr, nx_sl, nx_th, nx_op, nx_al, nx_als, nc_si, nc_sr, nc_sl, nc_th, nc_op, nc_al, ns_si, ns_sr, ns_sl, ns_th, ns_op, ns_al, gi_neI, aR_2, sR_2, aI_3, sI_3, aI_4, sI_4, aI_5, sI_5, aI_6, sI_6, aI_7, sI_7, aI_8, sI_8, aI_9, sI_9, aI_10, sZ_10, aI_11, sI_11, aI_12, sI_12, aI_13, sI_13, aI_14, sC_14, gI_15, gR_15, pI_15, pR_15, pZ_15, ao_15, pC_15, aI_16, sI_16, aI_17, sI_17, aR_18, sR_18, aR_19, sR_19, aR_20, sR_20, gI_21, gR_21, pI_21, pR_21, pZ_21, ao_21, gI_22, gR_22, pI_22, pR_22, pZ_22, ao_22, gI_23, gR_23, pI_23, pR_23, pZ_23, ao_23, gI_24, gR_24, pI_24, pR_24, pZ_24, ao_24, aR_25, sR_25, gI_26, gR_26, pI_26, pR_26, pZ_26, ao_26, gI_27, gR_27, pI_27, pR_27, pZ_27, ao_27, gI_28, gR_28, pI_28, pR_28, pZ_28, ao_28, gI_29, gR_29, pI_29, pR_29, pZ_29, ao_29, gI_30, gR_30, pI_30, pR_30, pZ_30, ao_30, gI_69, gR_69, pI_69, pR_69, pZ_69, ao_69, pc_same H, pc_people H, pc_works H, pc_cols H, pc_tags H, pc_tape H, pc_sieve H, pc_gifts H, pc_coms H, pc_mean H, pc_par H, pc_abv H, pc_chars H, pc_scan H, pc_parts H, pc_items H, pc_nots H, pc_signs H, pc_recv H, pc_ways H, if_true, if_false, c_workAt H N hk, k1, this, ite_self]
      · simp (decide := true) only [f_X11_collect_65, f_X11_collect_52, f_X11_collect_27, f_X11_collect_26, f_X11_collect, nz_0, nz_1, rz_bI, rz_0, rz_1, bI_eq0, bI_t, bI_f, bI_ri, bI_ex, bR_ra, bR_ex, bV_rt, bV_ex, bW_rt, bJ_ri, bIx_ri, bIx_ex, bVx_rt, bVx_ex, gi_ne, gi_eq, gi_sr, gi_sl, gi_th, gi_op, gr_si, gr_sl, gr_th, gr_op, gr_ne, gl_si, gl_sr, gl_th, gl_op, gl_eq, gi_al, gr_al, gl_al, nx_si, nx_sr, nx_sl, nx_th, nx_op, nx_al, nx_als, nc_si, nc_sr, nc_sl, nc_th, nc_op, nc_al, ns_si, ns_sr, ns_sl, ns_th, ns_op, ns_al, gi_neI, aI_31, sZ_31, aI_32, sI_32, aI_33, sI_33, aI_34, sI_34, aI_35, sI_35, aI_36, sI_36, aI_37, sI_37, aI_38, sZ_38, aI_39, sI_39, aI_40, sI_40, aI_41, sI_41, aI_42, sZ_42, aI_43, sZ_43, aI_44, sI_44, aI_45, sI_45, aI_46, sI_46, aI_47, sI_47, aI_48, sI_48, aI_49, sI_49, aI_50, sI_50, aI_51, sZ_51, aI_52, sZ_52, aI_53, sZ_53, aI_54, sI_54, aI_55, sI_55, aI_56, sI_56, aI_57, sI_57, aI_58, sZ_58, aI_59, sI_59, aI_60, sI_60, aI_61, sI_61, aI_62, sI_62, aI_63, sZ_63, aI_64, sZ_64, aI_65, sZ_65, aI_66, sI_66, aI_67, sI_67, aI_68, sZ_68, gI_70, gR_70, pI_70, pR_70, pZ_70, ao_70, aL_71, sL_71, pm_2 G, pm_3 G, pm_5 G, pm_6 G, pm_7 G, pm_8 G, pm_9 G, pm_10 G, pm_11 G, pm_12 G, pm_13 G, pm_14 G, pm_15 G, pm_16 G, pm_18 G, pm_19 G, pm_21 G, pm_22 G, pm_23 G, pm_25 G, pm_26 G, pm_27 G, pm_28 G, pm_31 G, pm_32 G, pm_33 G, pm_34 G, pm_35 G, pm_36 G, pm_38 G, pm_39 G, pm_40 G, pm_41 G, pm_42 G, pm_43 G, pm_44 G, pm_45 G, pm_46 G, r_isWork, r_isTag, r_isPerson, r_isFace, r_h0, r_h1, r_h2, r_h3, n10, n20, n30, n00, if_true, if_false, N.2.2.1, isIx_ok (show W < 10000 by omega) hk, h20, r_in, k2, dd]
  · refine ok_exv R0 (c := 1) (L_collect_x0 _ _ ?_) ?_
    · simp (decide := true) only [f_X10_collect_18, f_X10_collect, nz_0, nz_1, rz_bI, rz_0, rz_1, bI_eq0, bI_t, bI_f, bI_ri, bI_ex, bR_ra, bR_ex, bV_rt, bV_ex, bW_rt, bJ_ri, bIx_ri, bIx_ex, bVx_rt, bVx_ex, gi_ne, gi_eq, gi_sr, gi_sl, gi_th, gi_op, gr_si, gr_sl, gr_th, gr_op, gr_ne, gl_si, gl_sr, gl_th, gl_op, gl_eq, gi_al, gr_al, gl_al, nx_si, nx_sr, nx_sl, nx_th, nx_op, nx_al, nx_als, nc_si, nc_sr, nc_sl, nc_th, nc_op, nc_al, ns_si, ns_sr, ns_sl, ns_th, ns_op, ns_al, gi_neI, aR_2, sR_2, aI_3, sI_3, aI_4, sI_4, aI_5, sI_5, aI_6, sI_6, aI_7, sI_7, aI_8, sI_8, aI_9, sI_9, aI_10, sZ_10, aI_11, sI_11, aI_12, sI_12, aI_13, sI_13, aI_14, sC_14, gI_15, gR_15, pI_15, pR_15, pZ_15, ao_15, pC_15, aI_16, sI_16, aI_17, sI_17, aR_18, sR_18, aR_19, sR_19, aR_20, sR_20, gI_21, gR_21, pI_21, pR_21, pZ_21, ao_21, gI_22, gR_22, pI_22, pR_22, pZ_22, ao_22, gI_23, gR_23, pI_23, pR_23, pZ_23, ao_23, gI_24, gR_24, pI_24, pR_24, pZ_24, ao_24, aR_25, sR_25, gI_26, gR_26, pI_26, pR_26, pZ_26, ao_26, gI_27, gR_27, pI_27, pR_27, pZ_27, ao_27, gI_28, gR_28, pI_28, pR_28, pZ_28, ao_28, gI_29, gR_29, pI_29, pR_29, pZ_29, ao_29, gI_30, gR_30, pI_30, pR_30, pZ_30, ao_30, gI_69, gR_69, pI_69, pR_69, pZ_69, ao_69, pc_same H, pc_people H, pc_works H, pc_cols H, pc_tags H, pc_tape H, pc_sieve H, pc_gifts H, pc_coms H, pc_mean H, pc_par H, pc_abv H, pc_chars H, pc_scan H, pc_parts H, pc_items H, pc_nots H, pc_signs H, pc_recv H, pc_ways H, if_true, if_false, c_workAt_bad N hx]
    · simp (decide := true) only [f_X11_collect_65, f_X11_collect_52, f_X11_collect_27, f_X11_collect_26, f_X11_collect, nz_0, nz_1, rz_bI, rz_0, rz_1, bI_eq0, bI_t, bI_f, bI_ri, bI_ex, bR_ra, bR_ex, bV_rt, bV_ex, bW_rt, bJ_ri, bIx_ri, bIx_ex, bVx_rt, bVx_ex, gi_ne, gi_eq, gi_sr, gi_sl, gi_th, gi_op, gr_si, gr_sl, gr_th, gr_op, gr_ne, gl_si, gl_sr, gl_th, gl_op, gl_eq, gi_al, gr_al, gl_al, nx_si, nx_sr, nx_sl, nx_th, nx_op, nx_al, nx_als, nc_si, nc_sr, nc_sl, nc_th, nc_op, nc_al, ns_si, ns_sr, ns_sl, ns_th, ns_op, ns_al, gi_neI, aI_31, sZ_31, aI_32, sI_32, aI_33, sI_33, aI_34, sI_34, aI_35, sI_35, aI_36, sI_36, aI_37, sI_37, aI_38, sZ_38, aI_39, sI_39, aI_40, sI_40, aI_41, sI_41, aI_42, sZ_42, aI_43, sZ_43, aI_44, sI_44, aI_45, sI_45, aI_46, sI_46, aI_47, sI_47, aI_48, sI_48, aI_49, sI_49, aI_50, sI_50, aI_51, sZ_51, aI_52, sZ_52, aI_53, sZ_53, aI_54, sI_54, aI_55, sI_55, aI_56, sI_56, aI_57, sI_57, aI_58, sZ_58, aI_59, sI_59, aI_60, sI_60, aI_61, sI_61, aI_62, sI_62, aI_63, sZ_63, aI_64, sZ_64, aI_65, sZ_65, aI_66, sI_66, aI_67, sI_67, aI_68, sZ_68, gI_70, gR_70, pI_70, pR_70, pZ_70, ao_70, aL_71, sL_71, pm_2 G, pm_3 G, pm_5 G, pm_6 G, pm_7 G, pm_8 G, pm_9 G, pm_10 G, pm_11 G, pm_12 G, pm_13 G, pm_14 G, pm_15 G, pm_16 G, pm_18 G, pm_19 G, pm_21 G, pm_22 G, pm_23 G, pm_25 G, pm_26 G, pm_27 G, pm_28 G, pm_31 G, pm_32 G, pm_33 G, pm_34 G, pm_35 G, pm_36 G, pm_38 G, pm_39 G, pm_40 G, pm_41 G, pm_42 G, pm_43 G, pm_44 G, pm_45 G, pm_46 G, r_isWork, r_isTag, r_isPerson, r_isFace, r_h0, r_h1, r_h2, r_h3, n10, n20, n30, n00, if_true, if_false, N.2.2.1, isIx_bad (show W < 10000 by omega) hx]
theorem new_eq {s n : Nat} {h : am_H} {K : Nat × Nat → am_H → am_R} : m_new s n h K = K (s, m_nx h s) (m_al h s n) := rfl
theorem op_collection {W Cn Tn Sn Qn : Nat} {h : am_H} (R : RR W Cn Tn Sn Qn h) (x y : Int32) : OpOK h (f_L_collection (some (69, 0)) x y (some (71, 0)) h) (f_X11_collection (70, 0) x y) vI := by
  have R0 := R
  obtain ⟨H, G, rDay, rBlk, rSam, N, rWa, rWc, rWp, rWl, rWo, rWt, rWf, rWw, rWs, rWk, rCo, rTg, rPa, rTp, rSg, rCm, rSb, rDg⟩ := R
  have hC := rCo.1
  have k1 := rCo.2.1
  have k2 := rCo.2.2.1
  have k3 := rCo.2.2.2.1
  have l1 : (nI Cn < (6 : Int32)) = (Cn < 6) := i_lt (b := 6) (by omega) (by omega)
  have l2 : (nI Cn = (6 : Int32)) = (Cn = 6) := i_eq (b := 6) (by omega) (by omega)
  by_cases a1 : x < 0
  · refine ok_ex R0 (c := 1) (b := 0) (by decide) (L_collection_x1 _ _ ?_) ?_
    · simp (decide := true) only [f_X10_collection_23, f_X10_collection, nz_0, nz_1, rz_bI, rz_0, rz_1, bI_eq0, bI_t, bI_f, bI_ri, bI_ex, bR_ra, bR_ex, bV_rt, bV_ex, bW_rt, bJ_ri, bIx_ri, bIx_ex, bVx_rt, bVx_ex, gi_ne, gi_eq, gi_sr, gi_sl, gi_th, gi_op, gr_si, gr_sl, gr_th, gr_op, gr_ne, gl_si, gl_sr, gl_th, gl_op, gl_eq, gi_al, gr_al, gl_al, nx_si, nx_sr, nx_sl, nx_th, nx_op, nx_al, nx_als, nc_si, nc_sr, nc_sl, nc_th, nc_op, nc_al, ns_si, ns_sr, ns_sl, ns_th, ns_op, ns_al, gi_neI, aR_2, sR_2, aI_3, sI_3, aI_4, sI_4, aI_5, sI_5, aI_6, sI_6, aI_7, sI_7, aI_8, sI_8, aI_9, sI_9, aI_10, sZ_10, aI_11, sI_11, aI_12, sI_12, aI_13, sI_13, aI_14, sC_14, gI_15, gR_15, pI_15, pR_15, pZ_15, ao_15, pC_15, aI_16, sI_16, aI_17, sI_17, aR_18, sR_18, aR_19, sR_19, aR_20, sR_20, gI_21, gR_21, pI_21, pR_21, pZ_21, ao_21, gI_22, gR_22, pI_22, pR_22, pZ_22, ao_22, gI_23, gR_23, pI_23, pR_23, pZ_23, ao_23, gI_24, gR_24, pI_24, pR_24, pZ_24, ao_24, aR_25, sR_25, gI_26, gR_26, pI_26, pR_26, pZ_26, ao_26, gI_27, gR_27, pI_27, pR_27, pZ_27, ao_27, gI_28, gR_28, pI_28, pR_28, pZ_28, ao_28, gI_29, gR_29, pI_29, pR_29, pZ_29, ao_29, gI_30, gR_30, pI_30, pR_30, pZ_30, ao_30, gI_69, gR_69, pI_69, pR_69, pZ_69, ao_69, pc_same H, pc_people H, pc_works H, pc_cols H, pc_tags H, pc_tape H, pc_sieve H, pc_gifts H, pc_coms H, pc_mean H, pc_par H, pc_abv H, pc_chars H, pc_scan H, pc_parts H, pc_items H, pc_nots H, pc_signs H, pc_recv H, pc_ways H, if_true, if_false, a1]
    · simp (decide := true) only [f_X11_collection_51, f_X11_collection_27, f_X11_collection_26, f_X11_collection, nz_0, nz_1, rz_bI, rz_0, rz_1, bI_eq0, bI_t, bI_f, bI_ri, bI_ex, bR_ra, bR_ex, bV_rt, bV_ex, bW_rt, bJ_ri, bIx_ri, bIx_ex, bVx_rt, bVx_ex, gi_ne, gi_eq, gi_sr, gi_sl, gi_th, gi_op, gr_si, gr_sl, gr_th, gr_op, gr_ne, gl_si, gl_sr, gl_th, gl_op, gl_eq, gi_al, gr_al, gl_al, nx_si, nx_sr, nx_sl, nx_th, nx_op, nx_al, nx_als, nc_si, nc_sr, nc_sl, nc_th, nc_op, nc_al, ns_si, ns_sr, ns_sl, ns_th, ns_op, ns_al, gi_neI, aI_31, sZ_31, aI_32, sI_32, aI_33, sI_33, aI_34, sI_34, aI_35, sI_35, aI_36, sI_36, aI_37, sI_37, aI_38, sZ_38, aI_39, sI_39, aI_40, sI_40, aI_41, sI_41, aI_42, sZ_42, aI_43, sZ_43, aI_44, sI_44, aI_45, sI_45, aI_46, sI_46, aI_47, sI_47, aI_48, sI_48, aI_49, sI_49, aI_50, sI_50, aI_51, sZ_51, aI_52, sZ_52, aI_53, sZ_53, aI_54, sI_54, aI_55, sI_55, aI_56, sI_56, aI_57, sI_57, aI_58, sZ_58, aI_59, sI_59, aI_60, sI_60, aI_61, sI_61, aI_62, sI_62, aI_63, sZ_63, aI_64, sZ_64, aI_65, sZ_65, aI_66, sI_66, aI_67, sI_67, aI_68, sZ_68, gI_70, gR_70, pI_70, pR_70, pZ_70, ao_70, aL_71, sL_71, pm_2 G, pm_3 G, pm_5 G, pm_6 G, pm_7 G, pm_8 G, pm_9 G, pm_10 G, pm_11 G, pm_12 G, pm_13 G, pm_14 G, pm_15 G, pm_16 G, pm_18 G, pm_19 G, pm_21 G, pm_22 G, pm_23 G, pm_25 G, pm_26 G, pm_27 G, pm_28 G, pm_31 G, pm_32 G, pm_33 G, pm_34 G, pm_35 G, pm_36 G, pm_38 G, pm_39 G, pm_40 G, pm_41 G, pm_42 G, pm_43 G, pm_44 G, pm_45 G, pm_46 G, r_isWork, r_isTag, r_isPerson, r_isFace, r_h0, r_h1, r_h2, r_h3, n10, n20, n30, n00, if_true, if_false, r_in, a1, not_true_eq_false, false_and, and_false, decide_false]
  by_cases a2 : 2000 < x
  · refine ok_ex R0 (c := 1) (b := 0) (by decide) (L_collection_x1 _ _ ?_) ?_
    · simp (decide := true) only [f_X10_collection_23, f_X10_collection, nz_0, nz_1, rz_bI, rz_0, rz_1, bI_eq0, bI_t, bI_f, bI_ri, bI_ex, bR_ra, bR_ex, bV_rt, bV_ex, bW_rt, bJ_ri, bIx_ri, bIx_ex, bVx_rt, bVx_ex, gi_ne, gi_eq, gi_sr, gi_sl, gi_th, gi_op, gr_si, gr_sl, gr_th, gr_op, gr_ne, gl_si, gl_sr, gl_th, gl_op, gl_eq, gi_al, gr_al, gl_al, nx_si, nx_sr, nx_sl, nx_th, nx_op, nx_al, nx_als, nc_si, nc_sr, nc_sl, nc_th, nc_op, nc_al, ns_si, ns_sr, ns_sl, ns_th, ns_op, ns_al, gi_neI, aR_2, sR_2, aI_3, sI_3, aI_4, sI_4, aI_5, sI_5, aI_6, sI_6, aI_7, sI_7, aI_8, sI_8, aI_9, sI_9, aI_10, sZ_10, aI_11, sI_11, aI_12, sI_12, aI_13, sI_13, aI_14, sC_14, gI_15, gR_15, pI_15, pR_15, pZ_15, ao_15, pC_15, aI_16, sI_16, aI_17, sI_17, aR_18, sR_18, aR_19, sR_19, aR_20, sR_20, gI_21, gR_21, pI_21, pR_21, pZ_21, ao_21, gI_22, gR_22, pI_22, pR_22, pZ_22, ao_22, gI_23, gR_23, pI_23, pR_23, pZ_23, ao_23, gI_24, gR_24, pI_24, pR_24, pZ_24, ao_24, aR_25, sR_25, gI_26, gR_26, pI_26, pR_26, pZ_26, ao_26, gI_27, gR_27, pI_27, pR_27, pZ_27, ao_27, gI_28, gR_28, pI_28, pR_28, pZ_28, ao_28, gI_29, gR_29, pI_29, pR_29, pZ_29, ao_29, gI_30, gR_30, pI_30, pR_30, pZ_30, ao_30, gI_69, gR_69, pI_69, pR_69, pZ_69, ao_69, pc_same H, pc_people H, pc_works H, pc_cols H, pc_tags H, pc_tape H, pc_sieve H, pc_gifts H, pc_coms H, pc_mean H, pc_par H, pc_abv H, pc_chars H, pc_scan H, pc_parts H, pc_items H, pc_nots H, pc_signs H, pc_recv H, pc_ways H, if_true, if_false, a1, a2]
    · simp (decide := true) only [f_X11_collection_51, f_X11_collection_27, f_X11_collection_26, f_X11_collection, nz_0, nz_1, rz_bI, rz_0, rz_1, bI_eq0, bI_t, bI_f, bI_ri, bI_ex, bR_ra, bR_ex, bV_rt, bV_ex, bW_rt, bJ_ri, bIx_ri, bIx_ex, bVx_rt, bVx_ex, gi_ne, gi_eq, gi_sr, gi_sl, gi_th, gi_op, gr_si, gr_sl, gr_th, gr_op, gr_ne, gl_si, gl_sr, gl_th, gl_op, gl_eq, gi_al, gr_al, gl_al, nx_si, nx_sr, nx_sl, nx_th, nx_op, nx_al, nx_als, nc_si, nc_sr, nc_sl, nc_th, nc_op, nc_al, ns_si, ns_sr, ns_sl, ns_th, ns_op, ns_al, gi_neI, aI_31, sZ_31, aI_32, sI_32, aI_33, sI_33, aI_34, sI_34, aI_35, sI_35, aI_36, sI_36, aI_37, sI_37, aI_38, sZ_38, aI_39, sI_39, aI_40, sI_40, aI_41, sI_41, aI_42, sZ_42, aI_43, sZ_43, aI_44, sI_44, aI_45, sI_45, aI_46, sI_46, aI_47, sI_47, aI_48, sI_48, aI_49, sI_49, aI_50, sI_50, aI_51, sZ_51, aI_52, sZ_52, aI_53, sZ_53, aI_54, sI_54, aI_55, sI_55, aI_56, sI_56, aI_57, sI_57, aI_58, sZ_58, aI_59, sI_59, aI_60, sI_60, aI_61, sI_61, aI_62, sI_62, aI_63, sZ_63, aI_64, sZ_64, aI_65, sZ_65, aI_66, sI_66, aI_67, sI_67, aI_68, sZ_68, gI_70, gR_70, pI_70, pR_70, pZ_70, ao_70, aL_71, sL_71, pm_2 G, pm_3 G, pm_5 G, pm_6 G, pm_7 G, pm_8 G, pm_9 G, pm_10 G, pm_11 G, pm_12 G, pm_13 G, pm_14 G, pm_15 G, pm_16 G, pm_18 G, pm_19 G, pm_21 G, pm_22 G, pm_23 G, pm_25 G, pm_26 G, pm_27 G, pm_28 G, pm_31 G, pm_32 G, pm_33 G, pm_34 G, pm_35 G, pm_36 G, pm_38 G, pm_39 G, pm_40 G, pm_41 G, pm_42 G, pm_43 G, pm_44 G, pm_45 G, pm_46 G, r_isWork, r_isTag, r_isPerson, r_isFace, r_h0, r_h1, r_h2, r_h3, n10, n20, n30, n00, if_true, if_false, r_in, a1, a2, not_true_eq_false, false_and, and_false, decide_false]
  by_cases a3 : y < x
  · refine ok_ex R0 (c := 1) (b := 0) (by decide) (L_collection_x1 _ _ ?_) ?_
    · simp (decide := true) only [f_X10_collection_23, f_X10_collection, nz_0, nz_1, rz_bI, rz_0, rz_1, bI_eq0, bI_t, bI_f, bI_ri, bI_ex, bR_ra, bR_ex, bV_rt, bV_ex, bW_rt, bJ_ri, bIx_ri, bIx_ex, bVx_rt, bVx_ex, gi_ne, gi_eq, gi_sr, gi_sl, gi_th, gi_op, gr_si, gr_sl, gr_th, gr_op, gr_ne, gl_si, gl_sr, gl_th, gl_op, gl_eq, gi_al, gr_al, gl_al, nx_si, nx_sr, nx_sl, nx_th, nx_op, nx_al, nx_als, nc_si, nc_sr, nc_sl, nc_th, nc_op, nc_al, ns_si, ns_sr, ns_sl, ns_th, ns_op, ns_al, gi_neI, aR_2, sR_2, aI_3, sI_3, aI_4, sI_4, aI_5, sI_5, aI_6, sI_6, aI_7, sI_7, aI_8, sI_8, aI_9, sI_9, aI_10, sZ_10, aI_11, sI_11, aI_12, sI_12, aI_13, sI_13, aI_14, sC_14, gI_15, gR_15, pI_15, pR_15, pZ_15, ao_15, pC_15, aI_16, sI_16, aI_17, sI_17, aR_18, sR_18, aR_19, sR_19, aR_20, sR_20, gI_21, gR_21, pI_21, pR_21, pZ_21, ao_21, gI_22, gR_22, pI_22, pR_22, pZ_22, ao_22, gI_23, gR_23, pI_23, pR_23, pZ_23, ao_23, gI_24, gR_24, pI_24, pR_24, pZ_24, ao_24, aR_25, sR_25, gI_26, gR_26, pI_26, pR_26, pZ_26, ao_26, gI_27, gR_27, pI_27, pR_27, pZ_27, ao_27, gI_28, gR_28, pI_28, pR_28, pZ_28, ao_28, gI_29, gR_29, pI_29, pR_29, pZ_29, ao_29, gI_30, gR_30, pI_30, pR_30, pZ_30, ao_30, gI_69, gR_69, pI_69, pR_69, pZ_69, ao_69, pc_same H, pc_people H, pc_works H, pc_cols H, pc_tags H, pc_tape H, pc_sieve H, pc_gifts H, pc_coms H, pc_mean H, pc_par H, pc_abv H, pc_chars H, pc_scan H, pc_parts H, pc_items H, pc_nots H, pc_signs H, pc_recv H, pc_ways H, if_true, if_false, a1, a2, a3]
    · simp (decide := true) only [f_X11_collection_51, f_X11_collection_27, f_X11_collection_26, f_X11_collection, nz_0, nz_1, rz_bI, rz_0, rz_1, bI_eq0, bI_t, bI_f, bI_ri, bI_ex, bR_ra, bR_ex, bV_rt, bV_ex, bW_rt, bJ_ri, bIx_ri, bIx_ex, bVx_rt, bVx_ex, gi_ne, gi_eq, gi_sr, gi_sl, gi_th, gi_op, gr_si, gr_sl, gr_th, gr_op, gr_ne, gl_si, gl_sr, gl_th, gl_op, gl_eq, gi_al, gr_al, gl_al, nx_si, nx_sr, nx_sl, nx_th, nx_op, nx_al, nx_als, nc_si, nc_sr, nc_sl, nc_th, nc_op, nc_al, ns_si, ns_sr, ns_sl, ns_th, ns_op, ns_al, gi_neI, aI_31, sZ_31, aI_32, sI_32, aI_33, sI_33, aI_34, sI_34, aI_35, sI_35, aI_36, sI_36, aI_37, sI_37, aI_38, sZ_38, aI_39, sI_39, aI_40, sI_40, aI_41, sI_41, aI_42, sZ_42, aI_43, sZ_43, aI_44, sI_44, aI_45, sI_45, aI_46, sI_46, aI_47, sI_47, aI_48, sI_48, aI_49, sI_49, aI_50, sI_50, aI_51, sZ_51, aI_52, sZ_52, aI_53, sZ_53, aI_54, sI_54, aI_55, sI_55, aI_56, sI_56, aI_57, sI_57, aI_58, sZ_58, aI_59, sI_59, aI_60, sI_60, aI_61, sI_61, aI_62, sI_62, aI_63, sZ_63, aI_64, sZ_64, aI_65, sZ_65, aI_66, sI_66, aI_67, sI_67, aI_68, sZ_68, gI_70, gR_70, pI_70, pR_70, pZ_70, ao_70, aL_71, sL_71, pm_2 G, pm_3 G, pm_5 G, pm_6 G, pm_7 G, pm_8 G, pm_9 G, pm_10 G, pm_11 G, pm_12 G, pm_13 G, pm_14 G, pm_15 G, pm_16 G, pm_18 G, pm_19 G, pm_21 G, pm_22 G, pm_23 G, pm_25 G, pm_26 G, pm_27 G, pm_28 G, pm_31 G, pm_32 G, pm_33 G, pm_34 G, pm_35 G, pm_36 G, pm_38 G, pm_39 G, pm_40 G, pm_41 G, pm_42 G, pm_43 G, pm_44 G, pm_45 G, pm_46 G, r_isWork, r_isTag, r_isPerson, r_isFace, r_h0, r_h1, r_h2, r_h3, n10, n20, n30, n00, if_true, if_false, r_in, a1, a2, a3]
  by_cases a4 : y ≤ 2000
  · have a5 : ¬ 2000 < y := Int32.not_lt.mpr a4
    by_cases h6 : Cn < 6
    · have h6' : ¬ Cn = 6 := by omega
      refine ok_u (h1 := (m_si (m_sr (m_si (m_si (m_al h 28 2) 28 Cn 0 x) 28 Cn 1 y) 20 0 Cn (some (28, Cn))) 69 0 6 (nI (Cn + 1)))) (b := nI Cn) (h2 := (m_si (m_si (m_si (m_si (m_sl (m_si (m_sr (m_si (m_si (m_al h 28 2) 28 Cn 0 x) 28 Cn 1 y) 20 0 Cn (some (28, Cn))) 69 0 6 (nI (Cn + 1))) 71 0 0 (vI (nI Cn))) 70 0 0 0) 45 0 Cn x) 46 0 Cn y) 70 0 17 (nI (Cn + 1)))) (L_collection_ret _ _ ?_) ?_ rfl rfl rfl rfl ?_ ?_ ?_
      · simp (decide := true) only [f_X10_collection_23, f_X10_collection, f_X0_init, nz_0, nz_1, rz_bI, rz_0, rz_1, bI_eq0, bI_t, bI_f, bI_ri, bI_ex, bR_ra, bR_ex, bV_rt, bV_ex, bW_rt, bJ_ri, bIx_ri, bIx_ex, bVx_rt, bVx_ex, gi_ne, gi_eq, gi_sr, gi_sl, gi_th, gi_op, gr_si, gr_sl, gr_th, gr_op, gr_ne, gl_si, gl_sr, gl_th, gl_op, gl_eq, gi_al, gr_al, gl_al, nx_si, nx_sr, nx_sl, nx_th, nx_op, nx_al, nx_als, nc_si, nc_sr, nc_sl, nc_th, nc_op, nc_al, ns_si, ns_sr, ns_sl, ns_th, ns_op, ns_al, gi_neI, aR_2, sR_2, aI_3, sI_3, aI_4, sI_4, aI_5, sI_5, aI_6, sI_6, aI_7, sI_7, aI_8, sI_8, aI_9, sI_9, aI_10, sZ_10, aI_11, sI_11, aI_12, sI_12, aI_13, sI_13, aI_14, sC_14, gI_15, gR_15, pI_15, pR_15, pZ_15, ao_15, pC_15, aI_16, sI_16, aI_17, sI_17, aR_18, sR_18, aR_19, sR_19, aR_20, sR_20, gI_21, gR_21, pI_21, pR_21, pZ_21, ao_21, gI_22, gR_22, pI_22, pR_22, pZ_22, ao_22, gI_23, gR_23, pI_23, pR_23, pZ_23, ao_23, gI_24, gR_24, pI_24, pR_24, pZ_24, ao_24, aR_25, sR_25, gI_26, gR_26, pI_26, pR_26, pZ_26, ao_26, gI_27, gR_27, pI_27, pR_27, pZ_27, ao_27, gI_28, gR_28, pI_28, pR_28, pZ_28, ao_28, gI_29, gR_29, pI_29, pR_29, pZ_29, ao_29, gI_30, gR_30, pI_30, pR_30, pZ_30, ao_30, gI_69, gR_69, pI_69, pR_69, pZ_69, ao_69, pc_same H, pc_people H, pc_works H, pc_cols H, pc_tags H, pc_tape H, pc_sieve H, pc_gifts H, pc_coms H, pc_mean H, pc_par H, pc_abv H, pc_chars H, pc_scan H, pc_parts H, pc_items H, pc_nots H, pc_signs H, pc_recv H, pc_ways H, if_true, if_false, a1, a2, a3, a4, l1, h6, new_eq, k1, k3, nI_1, nI_pred]
      · simp (decide := true) only [f_X11_collection_51, f_X11_collection_27, f_X11_collection_26, f_X11_collection, nz_0, nz_1, rz_bI, rz_0, rz_1, bI_eq0, bI_t, bI_f, bI_ri, bI_ex, bR_ra, bR_ex, bV_rt, bV_ex, bW_rt, bJ_ri, bIx_ri, bIx_ex, bVx_rt, bVx_ex, gi_ne, gi_eq, gi_sr, gi_sl, gi_th, gi_op, gr_si, gr_sl, gr_th, gr_op, gr_ne, gl_si, gl_sr, gl_th, gl_op, gl_eq, gi_al, gr_al, gl_al, nx_si, nx_sr, nx_sl, nx_th, nx_op, nx_al, nx_als, nc_si, nc_sr, nc_sl, nc_th, nc_op, nc_al, ns_si, ns_sr, ns_sl, ns_th, ns_op, ns_al, gi_neI, aI_31, sZ_31, aI_32, sI_32, aI_33, sI_33, aI_34, sI_34, aI_35, sI_35, aI_36, sI_36, aI_37, sI_37, aI_38, sZ_38, aI_39, sI_39, aI_40, sI_40, aI_41, sI_41, aI_42, sZ_42, aI_43, sZ_43, aI_44, sI_44, aI_45, sI_45, aI_46, sI_46, aI_47, sI_47, aI_48, sI_48, aI_49, sI_49, aI_50, sI_50, aI_51, sZ_51, aI_52, sZ_52, aI_53, sZ_53, aI_54, sI_54, aI_55, sI_55, aI_56, sI_56, aI_57, sI_57, aI_58, sZ_58, aI_59, sI_59, aI_60, sI_60, aI_61, sI_61, aI_62, sI_62, aI_63, sZ_63, aI_64, sZ_64, aI_65, sZ_65, aI_66, sI_66, aI_67, sI_67, aI_68, sZ_68, gI_70, gR_70, pI_70, pR_70, pZ_70, ao_70, aL_71, sL_71, pm_2 G, pm_3 G, pm_5 G, pm_6 G, pm_7 G, pm_8 G, pm_9 G, pm_10 G, pm_11 G, pm_12 G, pm_13 G, pm_14 G, pm_15 G, pm_16 G, pm_18 G, pm_19 G, pm_21 G, pm_22 G, pm_23 G, pm_25 G, pm_26 G, pm_27 G, pm_28 G, pm_31 G, pm_32 G, pm_33 G, pm_34 G, pm_35 G, pm_36 G, pm_38 G, pm_39 G, pm_40 G, pm_41 G, pm_42 G, pm_43 G, pm_44 G, pm_45 G, pm_46 G, r_isWork, r_isTag, r_isPerson, r_isFace, r_h0, r_h1, r_h2, r_h3, n10, n20, n30, n00, if_true, if_false, r_in, a1, a2, a3, a5, k2, l2, h6', h6, nI_1, nI_pred]
      · show m_nc h + 1 ≤ _; omega
      · show m_ns h + 2 ≤ _; omega
      · have F : Frm (pX [(69, 6), (70, 17)] [28, 1028, 20, 45, 46]) h (m_si (m_si (m_si (m_si (m_sl (m_si (m_sr (m_si (m_si (m_al h 28 2) 28 Cn 0 x) 28 Cn 1 y) 20 0 Cn (some (28, Cn))) 69 0 6 (nI (Cn + 1))) 71 0 0 (vI (nI Cn))) 70 0 0 0) 45 0 Cn x) 46 0 Cn y) 70 0 17 (nI (Cn + 1))) := (((((((((((Frm.refl _ h).al (fun _ => rfl) rfl).si rfl).si rfl).sr rfl).si rfl).sl).si rfl).si rfl).si rfl).si rfl)
        have e1 : ∀ j i, j < Cn → m_gi (m_si (m_si (m_si (m_si (m_sl (m_si (m_sr (m_si (m_si (m_al h 28 2) 28 Cn 0 x) 28 Cn 1 y) 20 0 Cn (some (28, Cn))) 69 0 6 (nI (Cn + 1))) 71 0 0 (vI (nI Cn))) 70 0 0 0) 45 0 Cn x) 46 0 Cn y) 70 0 17 (nI (Cn + 1))) 28 j i = m_gi h 28 j i := fun j i hj => by
          simp only [m_gi_si, gi_sr, gi_sl, m_gi_al, k3]
          simp [show ¬ j = Cn by omega]
        have e2 : ∀ j, m_gr (m_si (m_si (m_si (m_si (m_sl (m_si (m_sr (m_si (m_si (m_al h 28 2) 28 Cn 0 x) 28 Cn 1 y) 20 0 Cn (some (28, Cn))) 69 0 6 (nI (Cn + 1))) 71 0 0 (vI (nI Cn))) 70 0 0 0) 45 0 Cn x) 46 0 Cn y) 70 0 17 (nI (Cn + 1))) 20 0 j = if j = Cn then some (28, Cn) else m_gr h 20 0 j := fun j => by
          simp only [gr_si, gr_sl, m_gr_sr, m_gr_al, k3]
          simp
        have e3 : ∀ j, m_gi (m_si (m_si (m_si (m_si (m_sl (m_si (m_sr (m_si (m_si (m_al h 28 2) 28 Cn 0 x) 28 Cn 1 y) 20 0 Cn (some (28, Cn))) 69 0 6 (nI (Cn + 1))) 71 0 0 (vI (nI Cn))) 70 0 0 0) 45 0 Cn x) 46 0 Cn y) 70 0 17 (nI (Cn + 1))) 45 0 j = if j = Cn then x else m_gi h 45 0 j := fun j => by
          simp only [m_gi_si, gi_sr, gi_sl, m_gi_al, k3]
          simp
        have e4 : ∀ j, m_gi (m_si (m_si (m_si (m_si (m_sl (m_si (m_sr (m_si (m_si (m_al h 28 2) 28 Cn 0 x) 28 Cn 1 y) 20 0 Cn (some (28, Cn))) 69 0 6 (nI (Cn + 1))) 71 0 0 (vI (nI Cn))) 70 0 0 0) 45 0 Cn x) 46 0 Cn y) 70 0 17 (nI (Cn + 1))) 46 0 j = if j = Cn then y else m_gi h 46 0 j := fun j => by
          simp only [m_gi_si, gi_sr, gi_sl, m_gi_al, k3]
          simp
        have e5 : m_gi (m_si (m_si (m_si (m_si (m_sl (m_si (m_sr (m_si (m_si (m_al h 28 2) 28 Cn 0 x) 28 Cn 1 y) 20 0 Cn (some (28, Cn))) 69 0 6 (nI (Cn + 1))) 71 0 0 (vI (nI Cn))) 70 0 0 0) 45 0 Cn x) 46 0 Cn y) 70 0 17 (nI (Cn + 1))) 28 Cn 0 = x := by
          simp only [m_gi_si, gi_sr, gi_sl, m_gi_al, k3]
          simp
        have e6 : m_gi (m_si (m_si (m_si (m_si (m_sl (m_si (m_sr (m_si (m_si (m_al h 28 2) 28 Cn 0 x) 28 Cn 1 y) 20 0 Cn (some (28, Cn))) 69 0 6 (nI (Cn + 1))) 71 0 0 (vI (nI Cn))) 70 0 0 0) 45 0 Cn x) 46 0 Cn y) 70 0 17 (nI (Cn + 1))) 28 Cn 1 = y := by
          simp only [m_gi_si, gi_sr, gi_sl, m_gi_al, k3]
          simp
        refine ⟨W, Cn + 1, Tn, Sn, Qn, ⟨H.frm F, G.frm F, rDay.frm F, rBlk.frm F, rSam.frm F, N.frm F, rWa.frm F, rWc.frm F, rWp.frm F, rWl.frm F, ?_, rWt.frm F, rWf.frm F, rWw.frm F, rWs.frm F, rWk.frm F, ?_, rTg.frm F, rPa.frm F, rTp.frm F, rSg.frm F, rCm.frm F, rSb.frm F, rDg.frm F⟩⟩
        · intro j hj
          rcases (show RWo W Cn _ from rWo.frm F) j hj with q | ⟨c, q1, q2, q3⟩
          · exact Or.inl q
          · exact Or.inr ⟨c, by omega, q2, q3⟩
        · refine ⟨by omega, rfl, rfl, ?_, fun j hj => ?_⟩
          · show (if 28 = 28 then m_nx h 28 + 1 else _) = _
            rw [if_pos rfl, k3]
          · rw [e2, e3, e4]
            by_cases ej : j = Cn
            · subst ej
              rw [if_pos rfl, if_pos rfl, if_pos rfl, e5, e6]
              exact ⟨rfl, rfl, rfl⟩
            · rw [if_neg ej, if_neg ej, if_neg ej, e1 j 0 (by omega), e1 j 1 (by omega)]
              exact rCo.2.2.2.2 j (by omega)
    · have h6' : Cn = 6 := by omega
      refine ok_ex R0 (c := 2) (b := 0) (by decide) (L_collection_x2 _ _ ?_) ?_
      · simp (decide := true) only [f_X10_collection_23, f_X10_collection, nz_0, nz_1, rz_bI, rz_0, rz_1, bI_eq0, bI_t, bI_f, bI_ri, bI_ex, bR_ra, bR_ex, bV_rt, bV_ex, bW_rt, bJ_ri, bIx_ri, bIx_ex, bVx_rt, bVx_ex, gi_ne, gi_eq, gi_sr, gi_sl, gi_th, gi_op, gr_si, gr_sl, gr_th, gr_op, gr_ne, gl_si, gl_sr, gl_th, gl_op, gl_eq, gi_al, gr_al, gl_al, nx_si, nx_sr, nx_sl, nx_th, nx_op, nx_al, nx_als, nc_si, nc_sr, nc_sl, nc_th, nc_op, nc_al, ns_si, ns_sr, ns_sl, ns_th, ns_op, ns_al, gi_neI, aR_2, sR_2, aI_3, sI_3, aI_4, sI_4, aI_5, sI_5, aI_6, sI_6, aI_7, sI_7, aI_8, sI_8, aI_9, sI_9, aI_10, sZ_10, aI_11, sI_11, aI_12, sI_12, aI_13, sI_13, aI_14, sC_14, gI_15, gR_15, pI_15, pR_15, pZ_15, ao_15, pC_15, aI_16, sI_16, aI_17, sI_17, aR_18, sR_18, aR_19, sR_19, aR_20, sR_20, gI_21, gR_21, pI_21, pR_21, pZ_21, ao_21, gI_22, gR_22, pI_22, pR_22, pZ_22, ao_22, gI_23, gR_23, pI_23, pR_23, pZ_23, ao_23, gI_24, gR_24, pI_24, pR_24, pZ_24, ao_24, aR_25, sR_25, gI_26, gR_26, pI_26, pR_26, pZ_26, ao_26, gI_27, gR_27, pI_27, pR_27, pZ_27, ao_27, gI_28, gR_28, pI_28, pR_28, pZ_28, ao_28, gI_29, gR_29, pI_29, pR_29, pZ_29, ao_29, gI_30, gR_30, pI_30, pR_30, pZ_30, ao_30, gI_69, gR_69, pI_69, pR_69, pZ_69, ao_69, pc_same H, pc_people H, pc_works H, pc_cols H, pc_tags H, pc_tape H, pc_sieve H, pc_gifts H, pc_coms H, pc_mean H, pc_par H, pc_abv H, pc_chars H, pc_scan H, pc_parts H, pc_items H, pc_nots H, pc_signs H, pc_recv H, pc_ways H, if_true, if_false, a1, a2, a3, a4, l1, h6, k1]
      · simp (decide := true) only [f_X11_collection_51, f_X11_collection_27, f_X11_collection_26, f_X11_collection, nz_0, nz_1, rz_bI, rz_0, rz_1, bI_eq0, bI_t, bI_f, bI_ri, bI_ex, bR_ra, bR_ex, bV_rt, bV_ex, bW_rt, bJ_ri, bIx_ri, bIx_ex, bVx_rt, bVx_ex, gi_ne, gi_eq, gi_sr, gi_sl, gi_th, gi_op, gr_si, gr_sl, gr_th, gr_op, gr_ne, gl_si, gl_sr, gl_th, gl_op, gl_eq, gi_al, gr_al, gl_al, nx_si, nx_sr, nx_sl, nx_th, nx_op, nx_al, nx_als, nc_si, nc_sr, nc_sl, nc_th, nc_op, nc_al, ns_si, ns_sr, ns_sl, ns_th, ns_op, ns_al, gi_neI, aI_31, sZ_31, aI_32, sI_32, aI_33, sI_33, aI_34, sI_34, aI_35, sI_35, aI_36, sI_36, aI_37, sI_37, aI_38, sZ_38, aI_39, sI_39, aI_40, sI_40, aI_41, sI_41, aI_42, sZ_42, aI_43, sZ_43, aI_44, sI_44, aI_45, sI_45, aI_46, sI_46, aI_47, sI_47, aI_48, sI_48, aI_49, sI_49, aI_50, sI_50, aI_51, sZ_51, aI_52, sZ_52, aI_53, sZ_53, aI_54, sI_54, aI_55, sI_55, aI_56, sI_56, aI_57, sI_57, aI_58, sZ_58, aI_59, sI_59, aI_60, sI_60, aI_61, sI_61, aI_62, sI_62, aI_63, sZ_63, aI_64, sZ_64, aI_65, sZ_65, aI_66, sI_66, aI_67, sI_67, aI_68, sZ_68, gI_70, gR_70, pI_70, pR_70, pZ_70, ao_70, aL_71, sL_71, pm_2 G, pm_3 G, pm_5 G, pm_6 G, pm_7 G, pm_8 G, pm_9 G, pm_10 G, pm_11 G, pm_12 G, pm_13 G, pm_14 G, pm_15 G, pm_16 G, pm_18 G, pm_19 G, pm_21 G, pm_22 G, pm_23 G, pm_25 G, pm_26 G, pm_27 G, pm_28 G, pm_31 G, pm_32 G, pm_33 G, pm_34 G, pm_35 G, pm_36 G, pm_38 G, pm_39 G, pm_40 G, pm_41 G, pm_42 G, pm_43 G, pm_44 G, pm_45 G, pm_46 G, r_isWork, r_isTag, r_isPerson, r_isFace, r_h0, r_h1, r_h2, r_h3, n10, n20, n30, n00, if_true, if_false, r_in, a1, a2, a3, a5, k2, l2, h6']
  · have a5 : 2000 < y := Int32.not_le.mp a4
    refine ok_ex R0 (c := 1) (b := 0) (by decide) (L_collection_x1 _ _ ?_) ?_
    · simp (decide := true) only [f_X10_collection_23, f_X10_collection, nz_0, nz_1, rz_bI, rz_0, rz_1, bI_eq0, bI_t, bI_f, bI_ri, bI_ex, bR_ra, bR_ex, bV_rt, bV_ex, bW_rt, bJ_ri, bIx_ri, bIx_ex, bVx_rt, bVx_ex, gi_ne, gi_eq, gi_sr, gi_sl, gi_th, gi_op, gr_si, gr_sl, gr_th, gr_op, gr_ne, gl_si, gl_sr, gl_th, gl_op, gl_eq, gi_al, gr_al, gl_al, nx_si, nx_sr, nx_sl, nx_th, nx_op, nx_al, nx_als, nc_si, nc_sr, nc_sl, nc_th, nc_op, nc_al, ns_si, ns_sr, ns_sl, ns_th, ns_op, ns_al, gi_neI, aR_2, sR_2, aI_3, sI_3, aI_4, sI_4, aI_5, sI_5, aI_6, sI_6, aI_7, sI_7, aI_8, sI_8, aI_9, sI_9, aI_10, sZ_10, aI_11, sI_11, aI_12, sI_12, aI_13, sI_13, aI_14, sC_14, gI_15, gR_15, pI_15, pR_15, pZ_15, ao_15, pC_15, aI_16, sI_16, aI_17, sI_17, aR_18, sR_18, aR_19, sR_19, aR_20, sR_20, gI_21, gR_21, pI_21, pR_21, pZ_21, ao_21, gI_22, gR_22, pI_22, pR_22, pZ_22, ao_22, gI_23, gR_23, pI_23, pR_23, pZ_23, ao_23, gI_24, gR_24, pI_24, pR_24, pZ_24, ao_24, aR_25, sR_25, gI_26, gR_26, pI_26, pR_26, pZ_26, ao_26, gI_27, gR_27, pI_27, pR_27, pZ_27, ao_27, gI_28, gR_28, pI_28, pR_28, pZ_28, ao_28, gI_29, gR_29, pI_29, pR_29, pZ_29, ao_29, gI_30, gR_30, pI_30, pR_30, pZ_30, ao_30, gI_69, gR_69, pI_69, pR_69, pZ_69, ao_69, pc_same H, pc_people H, pc_works H, pc_cols H, pc_tags H, pc_tape H, pc_sieve H, pc_gifts H, pc_coms H, pc_mean H, pc_par H, pc_abv H, pc_chars H, pc_scan H, pc_parts H, pc_items H, pc_nots H, pc_signs H, pc_recv H, pc_ways H, if_true, if_false, a1, a2, a3, a4]
    · simp (decide := true) only [f_X11_collection_51, f_X11_collection_27, f_X11_collection_26, f_X11_collection, nz_0, nz_1, rz_bI, rz_0, rz_1, bI_eq0, bI_t, bI_f, bI_ri, bI_ex, bR_ra, bR_ex, bV_rt, bV_ex, bW_rt, bJ_ri, bIx_ri, bIx_ex, bVx_rt, bVx_ex, gi_ne, gi_eq, gi_sr, gi_sl, gi_th, gi_op, gr_si, gr_sl, gr_th, gr_op, gr_ne, gl_si, gl_sr, gl_th, gl_op, gl_eq, gi_al, gr_al, gl_al, nx_si, nx_sr, nx_sl, nx_th, nx_op, nx_al, nx_als, nc_si, nc_sr, nc_sl, nc_th, nc_op, nc_al, ns_si, ns_sr, ns_sl, ns_th, ns_op, ns_al, gi_neI, aI_31, sZ_31, aI_32, sI_32, aI_33, sI_33, aI_34, sI_34, aI_35, sI_35, aI_36, sI_36, aI_37, sI_37, aI_38, sZ_38, aI_39, sI_39, aI_40, sI_40, aI_41, sI_41, aI_42, sZ_42, aI_43, sZ_43, aI_44, sI_44, aI_45, sI_45, aI_46, sI_46, aI_47, sI_47, aI_48, sI_48, aI_49, sI_49, aI_50, sI_50, aI_51, sZ_51, aI_52, sZ_52, aI_53, sZ_53, aI_54, sI_54, aI_55, sI_55, aI_56, sI_56, aI_57, sI_57, aI_58, sZ_58, aI_59, sI_59, aI_60, sI_60, aI_61, sI_61, aI_62, sI_62, aI_63, sZ_63, aI_64, sZ_64, aI_65, sZ_65, aI_66, sI_66, aI_67, sI_67, aI_68, sZ_68, gI_70, gR_70, pI_70, pR_70, pZ_70, ao_70, aL_71, sL_71, pm_2 G, pm_3 G, pm_5 G, pm_6 G, pm_7 G, pm_8 G, pm_9 G, pm_10 G, pm_11 G, pm_12 G, pm_13 G, pm_14 G, pm_15 G, pm_16 G, pm_18 G, pm_19 G, pm_21 G, pm_22 G, pm_23 G, pm_25 G, pm_26 G, pm_27 G, pm_28 G, pm_31 G, pm_32 G, pm_33 G, pm_34 G, pm_35 G, pm_36 G, pm_38 G, pm_39 G, pm_40 G, pm_41 G, pm_42 G, pm_43 G, pm_44 G, pm_45 G, pm_46 G, r_isWork, r_isTag, r_isPerson, r_isFace, r_h0, r_h1, r_h2, r_h3, n10, n20, n30, n00, if_true, if_false, r_in, a1, a2, a3, a5]
theorem pcn_wi_t {s : Int32} {i : Nat} (hi : i < 32) (hb : bt s i = false) : pcn (wi s i true) 32 = pcn s 32 + 1 := by
  have := pcn_add (s := s) hi 32 (Nat.le_refl _)
  rw [hb] at this
  simpa [hi, wi] using this
theorem op_join {W Cn Tn Sn Qn : Nat} {h : am_H} (R : RR W Cn Tn Sn Qn h) (x y : Int32) : OpOK h (f_L_join (some (69, 0)) x y (some (71, 0)) h) (f_X11_join (70, 0) x y) vI := by
  have R0 := R
  obtain ⟨H, G, rDay, rBlk, rSam, N, rWa, rWc, rWp, rWl, rWo, rWt, rWf, rWw, rWs, rWk, rCo, rTg, rPa, rTp, rSg, rCm, rSb, rDg⟩ := R
  have hW := N.1
  rcases ix_cases x (n := W) (by omega) with ⟨k, hk, rfl⟩ | hx
  · have h20 : k < 20 := by omega
    rcases ix_cases y (n := 12) (by omega) with ⟨p, hp, rfl⟩ | hy
    · obtain ⟨a1, a2, a3, a4⟩ := rWa k hk
      have hp32 : p < 32 := by omega
      have pl := pcn_le (m_gi h 34 0 k) 32
      have l1 : ((3 : Int32) ≤ nI (pcn (m_gi h 34 0 k) 32)) = (3 ≤ pcn (m_gi h 34 0 k) 32) := i_le (a := 3) (by omega) (by omega)
      have l2 : (nI (pcn (m_gi h 34 0 k) 32) = (0 : Int32)) = (pcn (m_gi h 34 0 k) 32 = 0) := i_eq0 (by omega)
      have l3 : (m_gi h 34 0 k = 0) = (pcn (m_gi h 34 0 k) 32 = 0) := propext pcn_zero.symm
      by_cases b1 : bt (m_gi h 34 0 k) p = true
      · refine ok_ex R0 (c := 2) (b := 0) (by decide) (L_join_x2 _ _ ?_) ?_
        · simp (decide := true) only [f_X10_join_38, f_X10_join, nz_0, nz_1, rz_bI, rz_0, rz_1, bI_eq0, bI_t, bI_f, bI_ri, bI_ex, bR_ra, bR_ex, bV_rt, bV_ex, bW_rt, bJ_ri, bIx_ri, bIx_ex, bVx_rt, bVx_ex, gi_ne, gi_eq, gi_sr, gi_sl, gi_th, gi_op, gr_si, gr_sl, gr_th, gr_op, gr_ne, gl_si, gl_sr, gl_th, gl_op, gl_eq, gi_al, gr_al, gl_al, nx_si, nx_sr, nx_sl, nx_th, nx_op, nx_al, nx_als, nc_si, nc_sr, nc_sl, nc_th, nc_op, nc_al, ns_si, ns_sr, ns_sl, ns_th, ns_op, ns_al, gi_neI, aR_2, sR_2, aI_3, sI_3, aI_4, sI_4, aI_5, sI_5, aI_6, sI_6, aI_7, sI_7, aI_8, sI_8, aI_9, sI_9, aI_10, sZ_10, aI_11, sI_11, aI_12, sI_12, aI_13, sI_13, aI_14, sC_14, gI_15, gR_15, pI_15, pR_15, pZ_15, ao_15, pC_15, aI_16, sI_16, aI_17, sI_17, aR_18, sR_18, aR_19, sR_19, aR_20, sR_20, gI_21, gR_21, pI_21, pR_21, pZ_21, ao_21, gI_22, gR_22, pI_22, pR_22, pZ_22, ao_22, gI_23, gR_23, pI_23, pR_23, pZ_23, ao_23, gI_24, gR_24, pI_24, pR_24, pZ_24, ao_24, aR_25, sR_25, gI_26, gR_26, pI_26, pR_26, pZ_26, ao_26, gI_27, gR_27, pI_27, pR_27, pZ_27, ao_27, gI_28, gR_28, pI_28, pR_28, pZ_28, ao_28, gI_29, gR_29, pI_29, pR_29, pZ_29, ao_29, gI_30, gR_30, pI_30, pR_30, pZ_30, ao_30, gI_69, gR_69, pI_69, pR_69, pZ_69, ao_69, pc_same H, pc_people H, pc_works H, pc_cols H, pc_tags H, pc_tape H, pc_sieve H, pc_gifts H, pc_coms H, pc_mean H, pc_par H, pc_abv H, pc_chars H, pc_scan H, pc_parts H, pc_items H, pc_nots H, pc_signs H, pc_recv H, pc_ways H, if_true, if_false, c_workAt H N hk, c_checkPerson hp, a2, c_bits12 a4, c_isOwnedBy rWa hk hp32, ownP, b1]
        · simp (decide := true) only [f_X11_join_86, f_X11_join_65, f_X11_join_64, f_X11_join_20, f_X11_join_19, f_X11_join, nz_0, nz_1, rz_bI, rz_0, rz_1, bI_eq0, bI_t, bI_f, bI_ri, bI_ex, bR_ra, bR_ex, bV_rt, bV_ex, bW_rt, bJ_ri, bIx_ri, bIx_ex, bVx_rt, bVx_ex, gi_ne, gi_eq, gi_sr, gi_sl, gi_th, gi_op, gr_si, gr_sl, gr_th, gr_op, gr_ne, gl_si, gl_sr, gl_th, gl_op, gl_eq, gi_al, gr_al, gl_al, nx_si, nx_sr, nx_sl, nx_th, nx_op, nx_al, nx_als, nc_si, nc_sr, nc_sl, nc_th, nc_op, nc_al, ns_si, ns_sr, ns_sl, ns_th, ns_op, ns_al, gi_neI, aI_31, sZ_31, aI_32, sI_32, aI_33, sI_33, aI_34, sI_34, aI_35, sI_35, aI_36, sI_36, aI_37, sI_37, aI_38, sZ_38, aI_39, sI_39, aI_40, sI_40, aI_41, sI_41, aI_42, sZ_42, aI_43, sZ_43, aI_44, sI_44, aI_45, sI_45, aI_46, sI_46, aI_47, sI_47, aI_48, sI_48, aI_49, sI_49, aI_50, sI_50, aI_51, sZ_51, aI_52, sZ_52, aI_53, sZ_53, aI_54, sI_54, aI_55, sI_55, aI_56, sI_56, aI_57, sI_57, aI_58, sZ_58, aI_59, sI_59, aI_60, sI_60, aI_61, sI_61, aI_62, sI_62, aI_63, sZ_63, aI_64, sZ_64, aI_65, sZ_65, aI_66, sI_66, aI_67, sI_67, aI_68, sZ_68, gI_70, gR_70, pI_70, pR_70, pZ_70, ao_70, aL_71, sL_71, pm_2 G, pm_3 G, pm_5 G, pm_6 G, pm_7 G, pm_8 G, pm_9 G, pm_10 G, pm_11 G, pm_12 G, pm_13 G, pm_14 G, pm_15 G, pm_16 G, pm_18 G, pm_19 G, pm_21 G, pm_22 G, pm_23 G, pm_25 G, pm_26 G, pm_27 G, pm_28 G, pm_31 G, pm_32 G, pm_33 G, pm_34 G, pm_35 G, pm_36 G, pm_38 G, pm_39 G, pm_40 G, pm_41 G, pm_42 G, pm_43 G, pm_44 G, pm_45 G, pm_46 G, r_isWork, r_isTag, r_isPerson, r_isFace, r_h0, r_h1, r_h2, r_h3, n10, n20, n30, n00, if_true, if_false, N.2.2.1, isIx_ok (show W < 10000 by omega) hk, isIx_ok (show 12 < 10000 by omega) hp, h20, r_has hp32, b1]
      · have b1' : bt (m_gi h 34 0 k) p = false := by simpa using b1
        by_cases b2 : 3 ≤ pcn (m_gi h 34 0 k) 32
        · have b3 : ¬ pcn (m_gi h 34 0 k) 32 = 0 := by omega
          refine ok_ex R0 (c := 2) (b := 0) (by decide) (L_join_x2 _ _ ?_) ?_
          · simp (decide := true) only [f_X10_join_38, f_X10_join, nz_0, nz_1, rz_bI, rz_0, rz_1, bI_eq0, bI_t, bI_f, bI_ri, bI_ex, bR_ra, bR_ex, bV_rt, bV_ex, bW_rt, bJ_ri, bIx_ri, bIx_ex, bVx_rt, bVx_ex, gi_ne, gi_eq, gi_sr, gi_sl, gi_th, gi_op, gr_si, gr_sl, gr_th, gr_op, gr_ne, gl_si, gl_sr, gl_th, gl_op, gl_eq, gi_al, gr_al, gl_al, nx_si, nx_sr, nx_sl, nx_th, nx_op, nx_al, nx_als, nc_si, nc_sr, nc_sl, nc_th, nc_op, nc_al, ns_si, ns_sr, ns_sl, ns_th, ns_op, ns_al, gi_neI, aR_2, sR_2, aI_3, sI_3, aI_4, sI_4, aI_5, sI_5, aI_6, sI_6, aI_7, sI_7, aI_8, sI_8, aI_9, sI_9, aI_10, sZ_10, aI_11, sI_11, aI_12, sI_12, aI_13, sI_13, aI_14, sC_14, gI_15, gR_15, pI_15, pR_15, pZ_15, ao_15, pC_15, aI_16, sI_16, aI_17, sI_17, aR_18, sR_18, aR_19, sR_19, aR_20, sR_20, gI_21, gR_21, pI_21, pR_21, pZ_21, ao_21, gI_22, gR_22, pI_22, pR_22, pZ_22, ao_22, gI_23, gR_23, pI_23, pR_23, pZ_23, ao_23, gI_24, gR_24, pI_24, pR_24, pZ_24, ao_24, aR_25, sR_25, gI_26, gR_26, pI_26, pR_26, pZ_26, ao_26, gI_27, gR_27, pI_27, pR_27, pZ_27, ao_27, gI_28, gR_28, pI_28, pR_28, pZ_28, ao_28, gI_29, gR_29, pI_29, pR_29, pZ_29, ao_29, gI_30, gR_30, pI_30, pR_30, pZ_30, ao_30, gI_69, gR_69, pI_69, pR_69, pZ_69, ao_69, pc_same H, pc_people H, pc_works H, pc_cols H, pc_tags H, pc_tape H, pc_sieve H, pc_gifts H, pc_coms H, pc_mean H, pc_par H, pc_abv H, pc_chars H, pc_scan H, pc_parts H, pc_items H, pc_nots H, pc_signs H, pc_recv H, pc_ways H, if_true, if_false, c_workAt H N hk, c_checkPerson hp, a2, c_bits12 a4, c_isOwnedBy rWa hk hp32, ownP, b1', l1, b2]
          · simp (decide := true) only [f_X11_join_86, f_X11_join_65, f_X11_join_64, f_X11_join_20, f_X11_join_19, f_X11_join, nz_0, nz_1, rz_bI, rz_0, rz_1, bI_eq0, bI_t, bI_f, bI_ri, bI_ex, bR_ra, bR_ex, bV_rt, bV_ex, bW_rt, bJ_ri, bIx_ri, bIx_ex, bVx_rt, bVx_ex, gi_ne, gi_eq, gi_sr, gi_sl, gi_th, gi_op, gr_si, gr_sl, gr_th, gr_op, gr_ne, gl_si, gl_sr, gl_th, gl_op, gl_eq, gi_al, gr_al, gl_al, nx_si, nx_sr, nx_sl, nx_th, nx_op, nx_al, nx_als, nc_si, nc_sr, nc_sl, nc_th, nc_op, nc_al, ns_si, ns_sr, ns_sl, ns_th, ns_op, ns_al, gi_neI, aI_31, sZ_31, aI_32, sI_32, aI_33, sI_33, aI_34, sI_34, aI_35, sI_35, aI_36, sI_36, aI_37, sI_37, aI_38, sZ_38, aI_39, sI_39, aI_40, sI_40, aI_41, sI_41, aI_42, sZ_42, aI_43, sZ_43, aI_44, sI_44, aI_45, sI_45, aI_46, sI_46, aI_47, sI_47, aI_48, sI_48, aI_49, sI_49, aI_50, sI_50, aI_51, sZ_51, aI_52, sZ_52, aI_53, sZ_53, aI_54, sI_54, aI_55, sI_55, aI_56, sI_56, aI_57, sI_57, aI_58, sZ_58, aI_59, sI_59, aI_60, sI_60, aI_61, sI_61, aI_62, sI_62, aI_63, sZ_63, aI_64, sZ_64, aI_65, sZ_65, aI_66, sI_66, aI_67, sI_67, aI_68, sZ_68, gI_70, gR_70, pI_70, pR_70, pZ_70, ao_70, aL_71, sL_71, pm_2 G, pm_3 G, pm_5 G, pm_6 G, pm_7 G, pm_8 G, pm_9 G, pm_10 G, pm_11 G, pm_12 G, pm_13 G, pm_14 G, pm_15 G, pm_16 G, pm_18 G, pm_19 G, pm_21 G, pm_22 G, pm_23 G, pm_25 G, pm_26 G, pm_27 G, pm_28 G, pm_31 G, pm_32 G, pm_33 G, pm_34 G, pm_35 G, pm_36 G, pm_38 G, pm_39 G, pm_40 G, pm_41 G, pm_42 G, pm_43 G, pm_44 G, pm_45 G, pm_46 G, r_isWork, r_isTag, r_isPerson, r_isFace, r_h0, r_h1, r_h2, r_h3, n10, n20, n30, n00, if_true, if_false, N.2.2.1, isIx_ok (show W < 10000 by omega) hk, isIx_ok (show 12 < 10000 by omega) hp, h20, r_has hp32, b1', l3, b3, r_bits, l1, b2]
        · by_cases b3 : pcn (m_gi h 34 0 k) 32 = 0
          · refine ok_ex R0 (c := 2) (b := 0) (by decide) (L_join_x2 _ _ ?_) ?_
            · simp (decide := true) only [f_X10_join_38, f_X10_join, nz_0, nz_1, rz_bI, rz_0, rz_1, bI_eq0, bI_t, bI_f, bI_ri, bI_ex, bR_ra, bR_ex, bV_rt, bV_ex, bW_rt, bJ_ri, bIx_ri, bIx_ex, bVx_rt, bVx_ex, gi_ne, gi_eq, gi_sr, gi_sl, gi_th, gi_op, gr_si, gr_sl, gr_th, gr_op, gr_ne, gl_si, gl_sr, gl_th, gl_op, gl_eq, gi_al, gr_al, gl_al, nx_si, nx_sr, nx_sl, nx_th, nx_op, nx_al, nx_als, nc_si, nc_sr, nc_sl, nc_th, nc_op, nc_al, ns_si, ns_sr, ns_sl, ns_th, ns_op, ns_al, gi_neI, aR_2, sR_2, aI_3, sI_3, aI_4, sI_4, aI_5, sI_5, aI_6, sI_6, aI_7, sI_7, aI_8, sI_8, aI_9, sI_9, aI_10, sZ_10, aI_11, sI_11, aI_12, sI_12, aI_13, sI_13, aI_14, sC_14, gI_15, gR_15, pI_15, pR_15, pZ_15, ao_15, pC_15, aI_16, sI_16, aI_17, sI_17, aR_18, sR_18, aR_19, sR_19, aR_20, sR_20, gI_21, gR_21, pI_21, pR_21, pZ_21, ao_21, gI_22, gR_22, pI_22, pR_22, pZ_22, ao_22, gI_23, gR_23, pI_23, pR_23, pZ_23, ao_23, gI_24, gR_24, pI_24, pR_24, pZ_24, ao_24, aR_25, sR_25, gI_26, gR_26, pI_26, pR_26, pZ_26, ao_26, gI_27, gR_27, pI_27, pR_27, pZ_27, ao_27, gI_28, gR_28, pI_28, pR_28, pZ_28, ao_28, gI_29, gR_29, pI_29, pR_29, pZ_29, ao_29, gI_30, gR_30, pI_30, pR_30, pZ_30, ao_30, gI_69, gR_69, pI_69, pR_69, pZ_69, ao_69, pc_same H, pc_people H, pc_works H, pc_cols H, pc_tags H, pc_tape H, pc_sieve H, pc_gifts H, pc_coms H, pc_mean H, pc_par H, pc_abv H, pc_chars H, pc_scan H, pc_parts H, pc_items H, pc_nots H, pc_signs H, pc_recv H, pc_ways H, if_true, if_false, c_workAt H N hk, c_checkPerson hp, a2, c_bits12 a4, c_isOwnedBy rWa hk hp32, ownP, b1', l1, b2, l2, b3]
            · simp (decide := true) only [f_X11_join_86, f_X11_join_65, f_X11_join_64, f_X11_join_20, f_X11_join_19, f_X11_join, nz_0, nz_1, rz_bI, rz_0, rz_1, bI_eq0, bI_t, bI_f, bI_ri, bI_ex, bR_ra, bR_ex, bV_rt, bV_ex, bW_rt, bJ_ri, bIx_ri, bIx_ex, bVx_rt, bVx_ex, gi_ne, gi_eq, gi_sr, gi_sl, gi_th, gi_op, gr_si, gr_sl, gr_th, gr_op, gr_ne, gl_si, gl_sr, gl_th, gl_op, gl_eq, gi_al, gr_al, gl_al, nx_si, nx_sr, nx_sl, nx_th, nx_op, nx_al, nx_als, nc_si, nc_sr, nc_sl, nc_th, nc_op, nc_al, ns_si, ns_sr, ns_sl, ns_th, ns_op, ns_al, gi_neI, aI_31, sZ_31, aI_32, sI_32, aI_33, sI_33, aI_34, sI_34, aI_35, sI_35, aI_36, sI_36, aI_37, sI_37, aI_38, sZ_38, aI_39, sI_39, aI_40, sI_40, aI_41, sI_41, aI_42, sZ_42, aI_43, sZ_43, aI_44, sI_44, aI_45, sI_45, aI_46, sI_46, aI_47, sI_47, aI_48, sI_48, aI_49, sI_49, aI_50, sI_50, aI_51, sZ_51, aI_52, sZ_52, aI_53, sZ_53, aI_54, sI_54, aI_55, sI_55, aI_56, sI_56, aI_57, sI_57, aI_58, sZ_58, aI_59, sI_59, aI_60, sI_60, aI_61, sI_61, aI_62, sI_62, aI_63, sZ_63, aI_64, sZ_64, aI_65, sZ_65, aI_66, sI_66, aI_67, sI_67, aI_68, sZ_68, gI_70, gR_70, pI_70, pR_70, pZ_70, ao_70, aL_71, sL_71, pm_2 G, pm_3 G, pm_5 G, pm_6 G, pm_7 G, pm_8 G, pm_9 G, pm_10 G, pm_11 G, pm_12 G, pm_13 G, pm_14 G, pm_15 G, pm_16 G, pm_18 G, pm_19 G, pm_21 G, pm_22 G, pm_23 G, pm_25 G, pm_26 G, pm_27 G, pm_28 G, pm_31 G, pm_32 G, pm_33 G, pm_34 G, pm_35 G, pm_36 G, pm_38 G, pm_39 G, pm_40 G, pm_41 G, pm_42 G, pm_43 G, pm_44 G, pm_45 G, pm_46 G, r_isWork, r_isTag, r_isPerson, r_isFace, r_h0, r_h1, r_h2, r_h3, n10, n20, n30, n00, if_true, if_false, N.2.2.1, isIx_ok (show W < 10000 by omega) hk, isIx_ok (show 12 < 10000 by omega) hp, h20, r_has hp32, b1', l3, b3]
          · skip
            have w1 : f_X10_with (m_gi h 34 0 k) (nI p) 1 h = m_ri h (wi (m_gi h 34 0 k) p true) := c_with (b := true)
            have w2 := pcn_wi_t hp32 b1'
            refine ok_u (h1 := (m_si h 27 k 1 (wi (m_gi h 34 0 k) p true))) (b := (nI (pcn (m_gi h 34 0 k) 32 + 1))) (h2 := (m_si (m_si (m_sl (m_si h 27 k 1 (wi (m_gi h 34 0 k) p true)) 71 0 0 (vI (nI (pcn (m_gi h 34 0 k) 32 + 1)))) 70 0 0 0) 34 0 k (wi (m_gi h 34 0 k) p true))) (L_join_ret _ _ ?_) ?_ rfl rfl rfl rfl (Nat.le_add_right _ _) (Nat.le_add_right _ _) ?_
            · simp (decide := true) only [f_X10_join_38, f_X10_join, nz_0, nz_1, rz_bI, rz_0, rz_1, bI_eq0, bI_t, bI_f, bI_ri, bI_ex, bR_ra, bR_ex, bV_rt, bV_ex, bW_rt, bJ_ri, bIx_ri, bIx_ex, bVx_rt, bVx_ex, gi_ne, gi_eq, gi_sr, gi_sl, gi_th, gi_op, gr_si, gr_sl, gr_th, gr_op, gr_ne, gl_si, gl_sr, gl_th, gl_op, gl_eq, gi_al, gr_al, gl_al, nx_si, nx_sr, nx_sl, nx_th, nx_op, nx_al, nx_als, nc_si, nc_sr, nc_sl, nc_th, nc_op, nc_al, ns_si, ns_sr, ns_sl, ns_th, ns_op, ns_al, gi_neI, aR_2, sR_2, aI_3, sI_3, aI_4, sI_4, aI_5, sI_5, aI_6, sI_6, aI_7, sI_7, aI_8, sI_8, aI_9, sI_9, aI_10, sZ_10, aI_11, sI_11, aI_12, sI_12, aI_13, sI_13, aI_14, sC_14, gI_15, gR_15, pI_15, pR_15, pZ_15, ao_15, pC_15, aI_16, sI_16, aI_17, sI_17, aR_18, sR_18, aR_19, sR_19, aR_20, sR_20, gI_21, gR_21, pI_21, pR_21, pZ_21, ao_21, gI_22, gR_22, pI_22, pR_22, pZ_22, ao_22, gI_23, gR_23, pI_23, pR_23, pZ_23, ao_23, gI_24, gR_24, pI_24, pR_24, pZ_24, ao_24, aR_25, sR_25, gI_26, gR_26, pI_26, pR_26, pZ_26, ao_26, gI_27, gR_27, pI_27, pR_27, pZ_27, ao_27, gI_28, gR_28, pI_28, pR_28, pZ_28, ao_28, gI_29, gR_29, pI_29, pR_29, pZ_29, ao_29, gI_30, gR_30, pI_30, pR_30, pZ_30, ao_30, gI_69, gR_69, pI_69, pR_69, pZ_69, ao_69, pc_same H, pc_people H, pc_works H, pc_cols H, pc_tags H, pc_tape H, pc_sieve H, pc_gifts H, pc_coms H, pc_mean H, pc_par H, pc_abv H, pc_chars H, pc_scan H, pc_parts H, pc_items H, pc_nots H, pc_signs H, pc_recv H, pc_ways H, if_true, if_false, c_workAt H N hk, c_checkPerson hp, a2, c_bits12 a4, c_isOwnedBy rWa hk hp32, ownP, b1', l1, b2, l2, b3, w1, nI_1]
            · simp (decide := true) only [f_X11_join_86, f_X11_join_65, f_X11_join_64, f_X11_join_20, f_X11_join_19, f_X11_join, nz_0, nz_1, rz_bI, rz_0, rz_1, bI_eq0, bI_t, bI_f, bI_ri, bI_ex, bR_ra, bR_ex, bV_rt, bV_ex, bW_rt, bJ_ri, bIx_ri, bIx_ex, bVx_rt, bVx_ex, gi_ne, gi_eq, gi_sr, gi_sl, gi_th, gi_op, gr_si, gr_sl, gr_th, gr_op, gr_ne, gl_si, gl_sr, gl_th, gl_op, gl_eq, gi_al, gr_al, gl_al, nx_si, nx_sr, nx_sl, nx_th, nx_op, nx_al, nx_als, nc_si, nc_sr, nc_sl, nc_th, nc_op, nc_al, ns_si, ns_sr, ns_sl, ns_th, ns_op, ns_al, gi_neI, aI_31, sZ_31, aI_32, sI_32, aI_33, sI_33, aI_34, sI_34, aI_35, sI_35, aI_36, sI_36, aI_37, sI_37, aI_38, sZ_38, aI_39, sI_39, aI_40, sI_40, aI_41, sI_41, aI_42, sZ_42, aI_43, sZ_43, aI_44, sI_44, aI_45, sI_45, aI_46, sI_46, aI_47, sI_47, aI_48, sI_48, aI_49, sI_49, aI_50, sI_50, aI_51, sZ_51, aI_52, sZ_52, aI_53, sZ_53, aI_54, sI_54, aI_55, sI_55, aI_56, sI_56, aI_57, sI_57, aI_58, sZ_58, aI_59, sI_59, aI_60, sI_60, aI_61, sI_61, aI_62, sI_62, aI_63, sZ_63, aI_64, sZ_64, aI_65, sZ_65, aI_66, sI_66, aI_67, sI_67, aI_68, sZ_68, gI_70, gR_70, pI_70, pR_70, pZ_70, ao_70, aL_71, sL_71, pm_2 G, pm_3 G, pm_5 G, pm_6 G, pm_7 G, pm_8 G, pm_9 G, pm_10 G, pm_11 G, pm_12 G, pm_13 G, pm_14 G, pm_15 G, pm_16 G, pm_18 G, pm_19 G, pm_21 G, pm_22 G, pm_23 G, pm_25 G, pm_26 G, pm_27 G, pm_28 G, pm_31 G, pm_32 G, pm_33 G, pm_34 G, pm_35 G, pm_36 G, pm_38 G, pm_39 G, pm_40 G, pm_41 G, pm_42 G, pm_43 G, pm_44 G, pm_45 G, pm_46 G, r_isWork, r_isTag, r_isPerson, r_isFace, r_h0, r_h1, r_h2, r_h3, n10, n20, n30, n00, if_true, if_false, N.2.2.1, isIx_ok (show W < 10000 by omega) hk, isIx_ok (show 12 < 10000 by omega) hp, h20, r_has hp32, b1', l3, b3, r_bits, l1, b2, one_eq, wi_t, w2]
            · have F : Frm (pX [(27, 1)] [34]) h (m_si (m_si (m_sl (m_si h 27 k 1 (wi (m_gi h 34 0 k) p true)) 71 0 0 (vI (nI (pcn (m_gi h 34 0 k) 32 + 1)))) 70 0 0 0) 34 0 k (wi (m_gi h 34 0 k) p true)) := (((Frm.refl _ h).si rfl).sl.si rfl).si rfl
              have e1 : ∀ j, m_gi (m_si (m_si (m_sl (m_si h 27 k 1 (wi (m_gi h 34 0 k) p true)) 71 0 0 (vI (nI (pcn (m_gi h 34 0 k) 32 + 1)))) 70 0 0 0) 34 0 k (wi (m_gi h 34 0 k) p true)) 27 j 1 = if j = k then (wi (m_gi h 34 0 k) p true) else m_gi h 27 j 1 := fun j => show m_gi (m_si h 27 k 1 (wi (m_gi h 34 0 k) p true)) 27 j 1 = _ from gi_upK
              have e2 : ∀ j, m_gi (m_si (m_si (m_sl (m_si h 27 k 1 (wi (m_gi h 34 0 k) p true)) 71 0 0 (vI (nI (pcn (m_gi h 34 0 k) 32 + 1)))) 70 0 0 0) 34 0 k (wi (m_gi h 34 0 k) p true)) 34 0 j = if j = k then (wi (m_gi h 34 0 k) p true) else m_gi h 34 0 j := fun j => gi_upJ
              have e3 : ∀ j i, m_gi (m_si (m_si (m_sl (m_si h 27 k 1 (wi (m_gi h 34 0 k) p true)) 71 0 0 (vI (nI (pcn (m_gi h 34 0 k) 32 + 1)))) 70 0 0 0) 34 0 k (wi (m_gi h 34 0 k) p true)) 33 j i = m_gi h 33 j i := fun j i => F.1 33 j i rfl
              have e4 : ∀ j, m_gi (m_si (m_si (m_sl (m_si h 27 k 1 (wi (m_gi h 34 0 k) p true)) 71 0 0 (vI (nI (pcn (m_gi h 34 0 k) 32 + 1)))) 70 0 0 0) 34 0 k (wi (m_gi h 34 0 k) p true)) 27 j 0 = m_gi h 27 j 0 := fun j => F.1 27 j 0 rfl
              refine ⟨W, Cn, Tn, Sn, Qn, ⟨H.frm F, G.frm F, rDay.frm F, rBlk.frm F, rSam.frm F, N.frm F, ?_, rWc.frm F, rWp.frm F, rWl.frm F, rWo.frm F, rWt.frm F, rWf.frm F, rWw.frm F, rWs.frm F, rWk.frm F, rCo.frm F, rTg.frm F, rPa.frm F, rTp.frm F, rSg.frm F, rCm.frm F, rSb.frm F, rDg.frm F⟩⟩
              intro j hj
              rw [e1, e2, e3, e4]
              by_cases ej : j = k
              · subst ej
                rw [if_pos rfl, if_pos rfl]
                exact ⟨a1, rfl, a3, bt_wi_hi hp (by omega) true a4⟩
              · rw [if_neg ej, if_neg ej]; exact rWa j hj
    · refine ok_ex R0 (c := 1) (b := 0) (by decide) (L_join_x0 _ _ ?_) ?_
      · simp (decide := true) only [f_X10_join_38, f_X10_join, nz_0, nz_1, rz_bI, rz_0, rz_1, bI_eq0, bI_t, bI_f, bI_ri, bI_ex, bR_ra, bR_ex, bV_rt, bV_ex, bW_rt, bJ_ri, bIx_ri, bIx_ex, bVx_rt, bVx_ex, gi_ne, gi_eq, gi_sr, gi_sl, gi_th, gi_op, gr_si, gr_sl, gr_th, gr_op, gr_ne, gl_si, gl_sr, gl_th, gl_op, gl_eq, gi_al, gr_al, gl_al, nx_si, nx_sr, nx_sl, nx_th, nx_op, nx_al, nx_als, nc_si, nc_sr, nc_sl, nc_th, nc_op, nc_al, ns_si, ns_sr, ns_sl, ns_th, ns_op, ns_al, gi_neI, aR_2, sR_2, aI_3, sI_3, aI_4, sI_4, aI_5, sI_5, aI_6, sI_6, aI_7, sI_7, aI_8, sI_8, aI_9, sI_9, aI_10, sZ_10, aI_11, sI_11, aI_12, sI_12, aI_13, sI_13, aI_14, sC_14, gI_15, gR_15, pI_15, pR_15, pZ_15, ao_15, pC_15, aI_16, sI_16, aI_17, sI_17, aR_18, sR_18, aR_19, sR_19, aR_20, sR_20, gI_21, gR_21, pI_21, pR_21, pZ_21, ao_21, gI_22, gR_22, pI_22, pR_22, pZ_22, ao_22, gI_23, gR_23, pI_23, pR_23, pZ_23, ao_23, gI_24, gR_24, pI_24, pR_24, pZ_24, ao_24, aR_25, sR_25, gI_26, gR_26, pI_26, pR_26, pZ_26, ao_26, gI_27, gR_27, pI_27, pR_27, pZ_27, ao_27, gI_28, gR_28, pI_28, pR_28, pZ_28, ao_28, gI_29, gR_29, pI_29, pR_29, pZ_29, ao_29, gI_30, gR_30, pI_30, pR_30, pZ_30, ao_30, gI_69, gR_69, pI_69, pR_69, pZ_69, ao_69, pc_same H, pc_people H, pc_works H, pc_cols H, pc_tags H, pc_tape H, pc_sieve H, pc_gifts H, pc_coms H, pc_mean H, pc_par H, pc_abv H, pc_chars H, pc_scan H, pc_parts H, pc_items H, pc_nots H, pc_signs H, pc_recv H, pc_ways H, if_true, if_false, c_workAt H N hk, c_checkPerson_bad hy]
      · simp (decide := true) only [f_X11_join_86, f_X11_join_65, f_X11_join_64, f_X11_join_20, f_X11_join_19, f_X11_join, nz_0, nz_1, rz_bI, rz_0, rz_1, bI_eq0, bI_t, bI_f, bI_ri, bI_ex, bR_ra, bR_ex, bV_rt, bV_ex, bW_rt, bJ_ri, bIx_ri, bIx_ex, bVx_rt, bVx_ex, gi_ne, gi_eq, gi_sr, gi_sl, gi_th, gi_op, gr_si, gr_sl, gr_th, gr_op, gr_ne, gl_si, gl_sr, gl_th, gl_op, gl_eq, gi_al, gr_al, gl_al, nx_si, nx_sr, nx_sl, nx_th, nx_op, nx_al, nx_als, nc_si, nc_sr, nc_sl, nc_th, nc_op, nc_al, ns_si, ns_sr, ns_sl, ns_th, ns_op, ns_al, gi_neI, aI_31, sZ_31, aI_32, sI_32, aI_33, sI_33, aI_34, sI_34, aI_35, sI_35, aI_36, sI_36, aI_37, sI_37, aI_38, sZ_38, aI_39, sI_39, aI_40, sI_40, aI_41, sI_41, aI_42, sZ_42, aI_43, sZ_43, aI_44, sI_44, aI_45, sI_45, aI_46, sI_46, aI_47, sI_47, aI_48, sI_48, aI_49, sI_49, aI_50, sI_50, aI_51, sZ_51, aI_52, sZ_52, aI_53, sZ_53, aI_54, sI_54, aI_55, sI_55, aI_56, sI_56, aI_57, sI_57, aI_58, sZ_58, aI_59, sI_59, aI_60, sI_60, aI_61, sI_61, aI_62, sI_62, aI_63, sZ_63, aI_64, sZ_64, aI_65, sZ_65, aI_66, sI_66, aI_67, sI_67, aI_68, sZ_68, gI_70, gR_70, pI_70, pR_70, pZ_70, ao_70, aL_71, sL_71, pm_2 G, pm_3 G, pm_5 G, pm_6 G, pm_7 G, pm_8 G, pm_9 G, pm_10 G, pm_11 G, pm_12 G, pm_13 G, pm_14 G, pm_15 G, pm_16 G, pm_18 G, pm_19 G, pm_21 G, pm_22 G, pm_23 G, pm_25 G, pm_26 G, pm_27 G, pm_28 G, pm_31 G, pm_32 G, pm_33 G, pm_34 G, pm_35 G, pm_36 G, pm_38 G, pm_39 G, pm_40 G, pm_41 G, pm_42 G, pm_43 G, pm_44 G, pm_45 G, pm_46 G, r_isWork, r_isTag, r_isPerson, r_isFace, r_h0, r_h1, r_h2, r_h3, n10, n20, n30, n00, if_true, if_false, N.2.2.1, isIx_ok (show W < 10000 by omega) hk, isIx_bad (show 12 < 10000 by omega) hy]
  · refine ok_ex R0 (c := 1) (b := 0) (by decide) (L_join_x0 _ _ ?_) ?_
    · simp (decide := true) only [f_X10_join_38, f_X10_join, nz_0, nz_1, rz_bI, rz_0, rz_1, bI_eq0, bI_t, bI_f, bI_ri, bI_ex, bR_ra, bR_ex, bV_rt, bV_ex, bW_rt, bJ_ri, bIx_ri, bIx_ex, bVx_rt, bVx_ex, gi_ne, gi_eq, gi_sr, gi_sl, gi_th, gi_op, gr_si, gr_sl, gr_th, gr_op, gr_ne, gl_si, gl_sr, gl_th, gl_op, gl_eq, gi_al, gr_al, gl_al, nx_si, nx_sr, nx_sl, nx_th, nx_op, nx_al, nx_als, nc_si, nc_sr, nc_sl, nc_th, nc_op, nc_al, ns_si, ns_sr, ns_sl, ns_th, ns_op, ns_al, gi_neI, aR_2, sR_2, aI_3, sI_3, aI_4, sI_4, aI_5, sI_5, aI_6, sI_6, aI_7, sI_7, aI_8, sI_8, aI_9, sI_9, aI_10, sZ_10, aI_11, sI_11, aI_12, sI_12, aI_13, sI_13, aI_14, sC_14, gI_15, gR_15, pI_15, pR_15, pZ_15, ao_15, pC_15, aI_16, sI_16, aI_17, sI_17, aR_18, sR_18, aR_19, sR_19, aR_20, sR_20, gI_21, gR_21, pI_21, pR_21, pZ_21, ao_21, gI_22, gR_22, pI_22, pR_22, pZ_22, ao_22, gI_23, gR_23, pI_23, pR_23, pZ_23, ao_23, gI_24, gR_24, pI_24, pR_24, pZ_24, ao_24, aR_25, sR_25, gI_26, gR_26, pI_26, pR_26, pZ_26, ao_26, gI_27, gR_27, pI_27, pR_27, pZ_27, ao_27, gI_28, gR_28, pI_28, pR_28, pZ_28, ao_28, gI_29, gR_29, pI_29, pR_29, pZ_29, ao_29, gI_30, gR_30, pI_30, pR_30, pZ_30, ao_30, gI_69, gR_69, pI_69, pR_69, pZ_69, ao_69, pc_same H, pc_people H, pc_works H, pc_cols H, pc_tags H, pc_tape H, pc_sieve H, pc_gifts H, pc_coms H, pc_mean H, pc_par H, pc_abv H, pc_chars H, pc_scan H, pc_parts H, pc_items H, pc_nots H, pc_signs H, pc_recv H, pc_ways H, if_true, if_false, c_workAt_bad N hx]
    · simp (decide := true) only [f_X11_join_86, f_X11_join_65, f_X11_join_64, f_X11_join_20, f_X11_join_19, f_X11_join, nz_0, nz_1, rz_bI, rz_0, rz_1, bI_eq0, bI_t, bI_f, bI_ri, bI_ex, bR_ra, bR_ex, bV_rt, bV_ex, bW_rt, bJ_ri, bIx_ri, bIx_ex, bVx_rt, bVx_ex, gi_ne, gi_eq, gi_sr, gi_sl, gi_th, gi_op, gr_si, gr_sl, gr_th, gr_op, gr_ne, gl_si, gl_sr, gl_th, gl_op, gl_eq, gi_al, gr_al, gl_al, nx_si, nx_sr, nx_sl, nx_th, nx_op, nx_al, nx_als, nc_si, nc_sr, nc_sl, nc_th, nc_op, nc_al, ns_si, ns_sr, ns_sl, ns_th, ns_op, ns_al, gi_neI, aI_31, sZ_31, aI_32, sI_32, aI_33, sI_33, aI_34, sI_34, aI_35, sI_35, aI_36, sI_36, aI_37, sI_37, aI_38, sZ_38, aI_39, sI_39, aI_40, sI_40, aI_41, sI_41, aI_42, sZ_42, aI_43, sZ_43, aI_44, sI_44, aI_45, sI_45, aI_46, sI_46, aI_47, sI_47, aI_48, sI_48, aI_49, sI_49, aI_50, sI_50, aI_51, sZ_51, aI_52, sZ_52, aI_53, sZ_53, aI_54, sI_54, aI_55, sI_55, aI_56, sI_56, aI_57, sI_57, aI_58, sZ_58, aI_59, sI_59, aI_60, sI_60, aI_61, sI_61, aI_62, sI_62, aI_63, sZ_63, aI_64, sZ_64, aI_65, sZ_65, aI_66, sI_66, aI_67, sI_67, aI_68, sZ_68, gI_70, gR_70, pI_70, pR_70, pZ_70, ao_70, aL_71, sL_71, pm_2 G, pm_3 G, pm_5 G, pm_6 G, pm_7 G, pm_8 G, pm_9 G, pm_10 G, pm_11 G, pm_12 G, pm_13 G, pm_14 G, pm_15 G, pm_16 G, pm_18 G, pm_19 G, pm_21 G, pm_22 G, pm_23 G, pm_25 G, pm_26 G, pm_27 G, pm_28 G, pm_31 G, pm_32 G, pm_33 G, pm_34 G, pm_35 G, pm_36 G, pm_38 G, pm_39 G, pm_40 G, pm_41 G, pm_42 G, pm_43 G, pm_44 G, pm_45 G, pm_46 G, r_isWork, r_isTag, r_isPerson, r_isFace, r_h0, r_h1, r_h2, r_h3, n10, n20, n30, n00, if_true, if_false, N.2.2.1, isIx_bad (show W < 10000 by omega) hx]
theorem op_leave {W Cn Tn Sn Qn : Nat} {h : am_H} (R : RR W Cn Tn Sn Qn h) (x y : Int32) : OpOK h (f_L_leave (some (69, 0)) x y (some (71, 0)) h) (f_X11_leave (70, 0) x y) vI := by
  have R0 := R
  obtain ⟨H, G, rDay, rBlk, rSam, N, rWa, rWc, rWp, rWl, rWo, rWt, rWf, rWw, rWs, rWk, rCo, rTg, rPa, rTp, rSg, rCm, rSb, rDg⟩ := R
  have hW := N.1
  rcases ix_cases x (n := W) (by omega) with ⟨k, hk, rfl⟩ | hx
  · have h20 : k < 20 := by omega
    rcases ix_cases y (n := 12) (by omega) with ⟨p, hp, rfl⟩ | hy
    · obtain ⟨a1, a2, a3, a4⟩ := rWa k hk
      have hp32 : p < 32 := by omega
      by_cases b1 : bt (m_gi h 34 0 k) p = true
      · skip
        have w1 : f_X10_with (m_gi h 34 0 k) (nI p) 0 h = m_ri h (wi (m_gi h 34 0 k) p false) := c_with (b := false)
        have w2 := bt_wi_hi hp (by omega) false a4
        refine ok_u (h1 := (m_si h 27 k 1 (wi (m_gi h 34 0 k) p false))) (b := (nI (pcn (wi (m_gi h 34 0 k) p false) 32))) (h2 := (m_si (m_si (m_sl (m_si h 27 k 1 (wi (m_gi h 34 0 k) p false)) 71 0 0 (vI (nI (pcn (wi (m_gi h 34 0 k) p false) 32)))) 70 0 0 0) 34 0 k (wi (m_gi h 34 0 k) p false))) (L_leave_ret _ _ ?_) ?_ rfl rfl rfl rfl (Nat.le_add_right _ _) (Nat.le_add_right _ _) ?_
        · simp (decide := true) only [f_X10_leave, nz_0, nz_1, rz_bI, rz_0, rz_1, bI_eq0, bI_t, bI_f, bI_ri, bI_ex, bR_ra, bR_ex, bV_rt, bV_ex, bW_rt, bJ_ri, bIx_ri, bIx_ex, bVx_rt, bVx_ex, gi_ne, gi_eq, gi_sr, gi_sl, gi_th, gi_op, gr_si, gr_sl, gr_th, gr_op, gr_ne, gl_si, gl_sr, gl_th, gl_op, gl_eq, gi_al, gr_al, gl_al, nx_si, nx_sr, nx_sl, nx_th, nx_op, nx_al, nx_als, nc_si, nc_sr, nc_sl, nc_th, nc_op, nc_al, ns_si, ns_sr, ns_sl, ns_th, ns_op, ns_al, gi_neI, aR_2, sR_2, aI_3, sI_3, aI_4, sI_4, aI_5, sI_5, aI_6, sI_6, aI_7, sI_7, aI_8, sI_8, aI_9, sI_9, aI_10, sZ_10, aI_11, sI_11, aI_12, sI_12, aI_13, sI_13, aI_14, sC_14, gI_15, gR_15, pI_15, pR_15, pZ_15, ao_15, pC_15, aI_16, sI_16, aI_17, sI_17, aR_18, sR_18, aR_19, sR_19, aR_20, sR_20, gI_21, gR_21, pI_21, pR_21, pZ_21, ao_21, gI_22, gR_22, pI_22, pR_22, pZ_22, ao_22, gI_23, gR_23, pI_23, pR_23, pZ_23, ao_23, gI_24, gR_24, pI_24, pR_24, pZ_24, ao_24, aR_25, sR_25, gI_26, gR_26, pI_26, pR_26, pZ_26, ao_26, gI_27, gR_27, pI_27, pR_27, pZ_27, ao_27, gI_28, gR_28, pI_28, pR_28, pZ_28, ao_28, gI_29, gR_29, pI_29, pR_29, pZ_29, ao_29, gI_30, gR_30, pI_30, pR_30, pZ_30, ao_30, gI_69, gR_69, pI_69, pR_69, pZ_69, ao_69, pc_same H, pc_people H, pc_works H, pc_cols H, pc_tags H, pc_tape H, pc_sieve H, pc_gifts H, pc_coms H, pc_mean H, pc_par H, pc_abv H, pc_chars H, pc_scan H, pc_parts H, pc_items H, pc_nots H, pc_signs H, pc_recv H, pc_ways H, if_true, if_false, c_workAt H N hk, c_checkPerson hp, a2, c_isOwnedBy rWa hk hp32, ownP, b1, w1, c_bits12 w2]
        · simp (decide := true) only [f_X11_leave_48, f_X11_leave_20, f_X11_leave_19, f_X11_leave, nz_0, nz_1, rz_bI, rz_0, rz_1, bI_eq0, bI_t, bI_f, bI_ri, bI_ex, bR_ra, bR_ex, bV_rt, bV_ex, bW_rt, bJ_ri, bIx_ri, bIx_ex, bVx_rt, bVx_ex, gi_ne, gi_eq, gi_sr, gi_sl, gi_th, gi_op, gr_si, gr_sl, gr_th, gr_op, gr_ne, gl_si, gl_sr, gl_th, gl_op, gl_eq, gi_al, gr_al, gl_al, nx_si, nx_sr, nx_sl, nx_th, nx_op, nx_al, nx_als, nc_si, nc_sr, nc_sl, nc_th, nc_op, nc_al, ns_si, ns_sr, ns_sl, ns_th, ns_op, ns_al, gi_neI, aI_31, sZ_31, aI_32, sI_32, aI_33, sI_33, aI_34, sI_34, aI_35, sI_35, aI_36, sI_36, aI_37, sI_37, aI_38, sZ_38, aI_39, sI_39, aI_40, sI_40, aI_41, sI_41, aI_42, sZ_42, aI_43, sZ_43, aI_44, sI_44, aI_45, sI_45, aI_46, sI_46, aI_47, sI_47, aI_48, sI_48, aI_49, sI_49, aI_50, sI_50, aI_51, sZ_51, aI_52, sZ_52, aI_53, sZ_53, aI_54, sI_54, aI_55, sI_55, aI_56, sI_56, aI_57, sI_57, aI_58, sZ_58, aI_59, sI_59, aI_60, sI_60, aI_61, sI_61, aI_62, sI_62, aI_63, sZ_63, aI_64, sZ_64, aI_65, sZ_65, aI_66, sI_66, aI_67, sI_67, aI_68, sZ_68, gI_70, gR_70, pI_70, pR_70, pZ_70, ao_70, aL_71, sL_71, pm_2 G, pm_3 G, pm_5 G, pm_6 G, pm_7 G, pm_8 G, pm_9 G, pm_10 G, pm_11 G, pm_12 G, pm_13 G, pm_14 G, pm_15 G, pm_16 G, pm_18 G, pm_19 G, pm_21 G, pm_22 G, pm_23 G, pm_25 G, pm_26 G, pm_27 G, pm_28 G, pm_31 G, pm_32 G, pm_33 G, pm_34 G, pm_35 G, pm_36 G, pm_38 G, pm_39 G, pm_40 G, pm_41 G, pm_42 G, pm_43 G, pm_44 G, pm_45 G, pm_46 G, r_isWork, r_isTag, r_isPerson, r_isFace, r_h0, r_h1, r_h2, r_h3, n10, n20, n30, n00, if_true, if_false, N.2.2.1, isIx_ok (show W < 10000 by omega) hk, isIx_ok (show 12 < 10000 by omega) hp, h20, r_has hp32, b1, r_bits, one_eq, wi_f]
        · have F : Frm (pX [(27, 1)] [34]) h (m_si (m_si (m_sl (m_si h 27 k 1 (wi (m_gi h 34 0 k) p false)) 71 0 0 (vI (nI (pcn (wi (m_gi h 34 0 k) p false) 32)))) 70 0 0 0) 34 0 k (wi (m_gi h 34 0 k) p false)) := (((Frm.refl _ h).si rfl).sl.si rfl).si rfl
          have e1 : ∀ j, m_gi (m_si (m_si (m_sl (m_si h 27 k 1 (wi (m_gi h 34 0 k) p false)) 71 0 0 (vI (nI (pcn (wi (m_gi h 34 0 k) p false) 32)))) 70 0 0 0) 34 0 k (wi (m_gi h 34 0 k) p false)) 27 j 1 = if j = k then (wi (m_gi h 34 0 k) p false) else m_gi h 27 j 1 := fun j => show m_gi (m_si h 27 k 1 (wi (m_gi h 34 0 k) p false)) 27 j 1 = _ from gi_upK
          have e2 : ∀ j, m_gi (m_si (m_si (m_sl (m_si h 27 k 1 (wi (m_gi h 34 0 k) p false)) 71 0 0 (vI (nI (pcn (wi (m_gi h 34 0 k) p false) 32)))) 70 0 0 0) 34 0 k (wi (m_gi h 34 0 k) p false)) 34 0 j = if j = k then (wi (m_gi h 34 0 k) p false) else m_gi h 34 0 j := fun j => gi_upJ
          have e3 : ∀ j i, m_gi (m_si (m_si (m_sl (m_si h 27 k 1 (wi (m_gi h 34 0 k) p false)) 71 0 0 (vI (nI (pcn (wi (m_gi h 34 0 k) p false) 32)))) 70 0 0 0) 34 0 k (wi (m_gi h 34 0 k) p false)) 33 j i = m_gi h 33 j i := fun j i => F.1 33 j i rfl
          have e4 : ∀ j, m_gi (m_si (m_si (m_sl (m_si h 27 k 1 (wi (m_gi h 34 0 k) p false)) 71 0 0 (vI (nI (pcn (wi (m_gi h 34 0 k) p false) 32)))) 70 0 0 0) 34 0 k (wi (m_gi h 34 0 k) p false)) 27 j 0 = m_gi h 27 j 0 := fun j => F.1 27 j 0 rfl
          refine ⟨W, Cn, Tn, Sn, Qn, ⟨H.frm F, G.frm F, rDay.frm F, rBlk.frm F, rSam.frm F, N.frm F, ?_, rWc.frm F, rWp.frm F, rWl.frm F, rWo.frm F, rWt.frm F, rWf.frm F, rWw.frm F, rWs.frm F, rWk.frm F, rCo.frm F, rTg.frm F, rPa.frm F, rTp.frm F, rSg.frm F, rCm.frm F, rSb.frm F, rDg.frm F⟩⟩
          intro j hj
          rw [e1, e2, e3, e4]
          by_cases ej : j = k
          · subst ej
            rw [if_pos rfl, if_pos rfl]
            exact ⟨a1, rfl, a3, w2⟩
          · rw [if_neg ej, if_neg ej]; exact rWa j hj
      · have b1' : bt (m_gi h 34 0 k) p = false := by simpa using b1
        refine ok_ex R0 (c := 2) (b := 0) (by decide) (L_leave_x2 _ _ ?_) ?_
        · simp (decide := true) only [f_X10_leave, nz_0, nz_1, rz_bI, rz_0, rz_1, bI_eq0, bI_t, bI_f, bI_ri, bI_ex, bR_ra, bR_ex, bV_rt, bV_ex, bW_rt, bJ_ri, bIx_ri, bIx_ex, bVx_rt, bVx_ex, gi_ne, gi_eq, gi_sr, gi_sl, gi_th, gi_op, gr_si, gr_sl, gr_th, gr_op, gr_ne, gl_si, gl_sr, gl_th, gl_op, gl_eq, gi_al, gr_al, gl_al, nx_si, nx_sr, nx_sl, nx_th, nx_op, nx_al, nx_als, nc_si, nc_sr, nc_sl, nc_th, nc_op, nc_al, ns_si, ns_sr, ns_sl, ns_th, ns_op, ns_al, gi_neI, aR_2, sR_2, aI_3, sI_3, aI_4, sI_4, aI_5, sI_5, aI_6, sI_6, aI_7, sI_7, aI_8, sI_8, aI_9, sI_9, aI_10, sZ_10, aI_11, sI_11, aI_12, sI_12, aI_13, sI_13, aI_14, sC_14, gI_15, gR_15, pI_15, pR_15, pZ_15, ao_15, pC_15, aI_16, sI_16, aI_17, sI_17, aR_18, sR_18, aR_19, sR_19, aR_20, sR_20, gI_21, gR_21, pI_21, pR_21, pZ_21, ao_21, gI_22, gR_22, pI_22, pR_22, pZ_22, ao_22, gI_23, gR_23, pI_23, pR_23, pZ_23, ao_23, gI_24, gR_24, pI_24, pR_24, pZ_24, ao_24, aR_25, sR_25, gI_26, gR_26, pI_26, pR_26, pZ_26, ao_26, gI_27, gR_27, pI_27, pR_27, pZ_27, ao_27, gI_28, gR_28, pI_28, pR_28, pZ_28, ao_28, gI_29, gR_29, pI_29, pR_29, pZ_29, ao_29, gI_30, gR_30, pI_30, pR_30, pZ_30, ao_30, gI_69, gR_69, pI_69, pR_69, pZ_69, ao_69, pc_same H, pc_people H, pc_works H, pc_cols H, pc_tags H, pc_tape H, pc_sieve H, pc_gifts H, pc_coms H, pc_mean H, pc_par H, pc_abv H, pc_chars H, pc_scan H, pc_parts H, pc_items H, pc_nots H, pc_signs H, pc_recv H, pc_ways H, if_true, if_false, c_workAt H N hk, c_checkPerson hp, c_isOwnedBy rWa hk hp32, ownP, b1']
        · simp (decide := true) only [f_X11_leave_48, f_X11_leave_20, f_X11_leave_19, f_X11_leave, nz_0, nz_1, rz_bI, rz_0, rz_1, bI_eq0, bI_t, bI_f, bI_ri, bI_ex, bR_ra, bR_ex, bV_rt, bV_ex, bW_rt, bJ_ri, bIx_ri, bIx_ex, bVx_rt, bVx_ex, gi_ne, gi_eq, gi_sr, gi_sl, gi_th, gi_op, gr_si, gr_sl, gr_th, gr_op, gr_ne, gl_si, gl_sr, gl_th, gl_op, gl_eq, gi_al, gr_al, gl_al, nx_si, nx_sr, nx_sl, nx_th, nx_op, nx_al, nx_als, nc_si, nc_sr, nc_sl, nc_th, nc_op, nc_al, ns_si, ns_sr, ns_sl, ns_th, ns_op, ns_al, gi_neI, aI_31, sZ_31, aI_32, sI_32, aI_33, sI_33, aI_34, sI_34, aI_35, sI_35, aI_36, sI_36, aI_37, sI_37, aI_38, sZ_38, aI_39, sI_39, aI_40, sI_40, aI_41, sI_41, aI_42, sZ_42, aI_43, sZ_43, aI_44, sI_44, aI_45, sI_45, aI_46, sI_46, aI_47, sI_47, aI_48, sI_48, aI_49, sI_49, aI_50, sI_50, aI_51, sZ_51, aI_52, sZ_52, aI_53, sZ_53, aI_54, sI_54, aI_55, sI_55, aI_56, sI_56, aI_57, sI_57, aI_58, sZ_58, aI_59, sI_59, aI_60, sI_60, aI_61, sI_61, aI_62, sI_62, aI_63, sZ_63, aI_64, sZ_64, aI_65, sZ_65, aI_66, sI_66, aI_67, sI_67, aI_68, sZ_68, gI_70, gR_70, pI_70, pR_70, pZ_70, ao_70, aL_71, sL_71, pm_2 G, pm_3 G, pm_5 G, pm_6 G, pm_7 G, pm_8 G, pm_9 G, pm_10 G, pm_11 G, pm_12 G, pm_13 G, pm_14 G, pm_15 G, pm_16 G, pm_18 G, pm_19 G, pm_21 G, pm_22 G, pm_23 G, pm_25 G, pm_26 G, pm_27 G, pm_28 G, pm_31 G, pm_32 G, pm_33 G, pm_34 G, pm_35 G, pm_36 G, pm_38 G, pm_39 G, pm_40 G, pm_41 G, pm_42 G, pm_43 G, pm_44 G, pm_45 G, pm_46 G, r_isWork, r_isTag, r_isPerson, r_isFace, r_h0, r_h1, r_h2, r_h3, n10, n20, n30, n00, if_true, if_false, N.2.2.1, isIx_ok (show W < 10000 by omega) hk, isIx_ok (show 12 < 10000 by omega) hp, h20, r_has hp32, b1']
    · refine ok_ex R0 (c := 1) (b := 0) (by decide) (L_leave_x0 _ _ ?_) ?_
      · simp (decide := true) only [f_X10_leave, nz_0, nz_1, rz_bI, rz_0, rz_1, bI_eq0, bI_t, bI_f, bI_ri, bI_ex, bR_ra, bR_ex, bV_rt, bV_ex, bW_rt, bJ_ri, bIx_ri, bIx_ex, bVx_rt, bVx_ex, gi_ne, gi_eq, gi_sr, gi_sl, gi_th, gi_op, gr_si, gr_sl, gr_th, gr_op, gr_ne, gl_si, gl_sr, gl_th, gl_op, gl_eq, gi_al, gr_al, gl_al, nx_si, nx_sr, nx_sl, nx_th, nx_op, nx_al, nx_als, nc_si, nc_sr, nc_sl, nc_th, nc_op, nc_al, ns_si, ns_sr, ns_sl, ns_th, ns_op, ns_al, gi_neI, aR_2, sR_2, aI_3, sI_3, aI_4, sI_4, aI_5, sI_5, aI_6, sI_6, aI_7, sI_7, aI_8, sI_8, aI_9, sI_9, aI_10, sZ_10, aI_11, sI_11, aI_12, sI_12, aI_13, sI_13, aI_14, sC_14, gI_15, gR_15, pI_15, pR_15, pZ_15, ao_15, pC_15, aI_16, sI_16, aI_17, sI_17, aR_18, sR_18, aR_19, sR_19, aR_20, sR_20, gI_21, gR_21, pI_21, pR_21, pZ_21, ao_21, gI_22, gR_22, pI_22, pR_22, pZ_22, ao_22, gI_23, gR_23, pI_23, pR_23, pZ_23, ao_23, gI_24, gR_24, pI_24, pR_24, pZ_24, ao_24, aR_25, sR_25, gI_26, gR_26, pI_26, pR_26, pZ_26, ao_26, gI_27, gR_27, pI_27, pR_27, pZ_27, ao_27, gI_28, gR_28, pI_28, pR_28, pZ_28, ao_28, gI_29, gR_29, pI_29, pR_29, pZ_29, ao_29, gI_30, gR_30, pI_30, pR_30, pZ_30, ao_30, gI_69, gR_69, pI_69, pR_69, pZ_69, ao_69, pc_same H, pc_people H, pc_works H, pc_cols H, pc_tags H, pc_tape H, pc_sieve H, pc_gifts H, pc_coms H, pc_mean H, pc_par H, pc_abv H, pc_chars H, pc_scan H, pc_parts H, pc_items H, pc_nots H, pc_signs H, pc_recv H, pc_ways H, if_true, if_false, c_workAt H N hk, c_checkPerson_bad hy]
      · simp (decide := true) only [f_X11_leave_48, f_X11_leave_20, f_X11_leave_19, f_X11_leave, nz_0, nz_1, rz_bI, rz_0, rz_1, bI_eq0, bI_t, bI_f, bI_ri, bI_ex, bR_ra, bR_ex, bV_rt, bV_ex, bW_rt, bJ_ri, bIx_ri, bIx_ex, bVx_rt, bVx_ex, gi_ne, gi_eq, gi_sr, gi_sl, gi_th, gi_op, gr_si, gr_sl, gr_th, gr_op, gr_ne, gl_si, gl_sr, gl_th, gl_op, gl_eq, gi_al, gr_al, gl_al, nx_si, nx_sr, nx_sl, nx_th, nx_op, nx_al, nx_als, nc_si, nc_sr, nc_sl, nc_th, nc_op, nc_al, ns_si, ns_sr, ns_sl, ns_th, ns_op, ns_al, gi_neI, aI_31, sZ_31, aI_32, sI_32, aI_33, sI_33, aI_34, sI_34, aI_35, sI_35, aI_36, sI_36, aI_37, sI_37, aI_38, sZ_38, aI_39, sI_39, aI_40, sI_40, aI_41, sI_41, aI_42, sZ_42, aI_43, sZ_43, aI_44, sI_44, aI_45, sI_45, aI_46, sI_46, aI_47, sI_47, aI_48, sI_48, aI_49, sI_49, aI_50, sI_50, aI_51, sZ_51, aI_52, sZ_52, aI_53, sZ_53, aI_54, sI_54, aI_55, sI_55, aI_56, sI_56, aI_57, sI_57, aI_58, sZ_58, aI_59, sI_59, aI_60, sI_60, aI_61, sI_61, aI_62, sI_62, aI_63, sZ_63, aI_64, sZ_64, aI_65, sZ_65, aI_66, sI_66, aI_67, sI_67, aI_68, sZ_68, gI_70, gR_70, pI_70, pR_70, pZ_70, ao_70, aL_71, sL_71, pm_2 G, pm_3 G, pm_5 G, pm_6 G, pm_7 G, pm_8 G, pm_9 G, pm_10 G, pm_11 G, pm_12 G, pm_13 G, pm_14 G, pm_15 G, pm_16 G, pm_18 G, pm_19 G, pm_21 G, pm_22 G, pm_23 G, pm_25 G, pm_26 G, pm_27 G, pm_28 G, pm_31 G, pm_32 G, pm_33 G, pm_34 G, pm_35 G, pm_36 G, pm_38 G, pm_39 G, pm_40 G, pm_41 G, pm_42 G, pm_43 G, pm_44 G, pm_45 G, pm_46 G, r_isWork, r_isTag, r_isPerson, r_isFace, r_h0, r_h1, r_h2, r_h3, n10, n20, n30, n00, if_true, if_false, N.2.2.1, isIx_ok (show W < 10000 by omega) hk, isIx_bad (show 12 < 10000 by omega) hy]
  · refine ok_ex R0 (c := 1) (b := 0) (by decide) (L_leave_x0 _ _ ?_) ?_
    · simp (decide := true) only [f_X10_leave, nz_0, nz_1, rz_bI, rz_0, rz_1, bI_eq0, bI_t, bI_f, bI_ri, bI_ex, bR_ra, bR_ex, bV_rt, bV_ex, bW_rt, bJ_ri, bIx_ri, bIx_ex, bVx_rt, bVx_ex, gi_ne, gi_eq, gi_sr, gi_sl, gi_th, gi_op, gr_si, gr_sl, gr_th, gr_op, gr_ne, gl_si, gl_sr, gl_th, gl_op, gl_eq, gi_al, gr_al, gl_al, nx_si, nx_sr, nx_sl, nx_th, nx_op, nx_al, nx_als, nc_si, nc_sr, nc_sl, nc_th, nc_op, nc_al, ns_si, ns_sr, ns_sl, ns_th, ns_op, ns_al, gi_neI, aR_2, sR_2, aI_3, sI_3, aI_4, sI_4, aI_5, sI_5, aI_6, sI_6, aI_7, sI_7, aI_8, sI_8, aI_9, sI_9, aI_10, sZ_10, aI_11, sI_11, aI_12, sI_12, aI_13, sI_13, aI_14, sC_14, gI_15, gR_15, pI_15, pR_15, pZ_15, ao_15, pC_15, aI_16, sI_16, aI_17, sI_17, aR_18, sR_18, aR_19, sR_19, aR_20, sR_20, gI_21, gR_21, pI_21, pR_21, pZ_21, ao_21, gI_22, gR_22, pI_22, pR_22, pZ_22, ao_22, gI_23, gR_23, pI_23, pR_23, pZ_23, ao_23, gI_24, gR_24, pI_24, pR_24, pZ_24, ao_24, aR_25, sR_25, gI_26, gR_26, pI_26, pR_26, pZ_26, ao_26, gI_27, gR_27, pI_27, pR_27, pZ_27, ao_27, gI_28, gR_28, pI_28, pR_28, pZ_28, ao_28, gI_29, gR_29, pI_29, pR_29, pZ_29, ao_29, gI_30, gR_30, pI_30, pR_30, pZ_30, ao_30, gI_69, gR_69, pI_69, pR_69, pZ_69, ao_69, pc_same H, pc_people H, pc_works H, pc_cols H, pc_tags H, pc_tape H, pc_sieve H, pc_gifts H, pc_coms H, pc_mean H, pc_par H, pc_abv H, pc_chars H, pc_scan H, pc_parts H, pc_items H, pc_nots H, pc_signs H, pc_recv H, pc_ways H, if_true, if_false, c_workAt_bad N hx]
    · simp (decide := true) only [f_X11_leave_48, f_X11_leave_20, f_X11_leave_19, f_X11_leave, nz_0, nz_1, rz_bI, rz_0, rz_1, bI_eq0, bI_t, bI_f, bI_ri, bI_ex, bR_ra, bR_ex, bV_rt, bV_ex, bW_rt, bJ_ri, bIx_ri, bIx_ex, bVx_rt, bVx_ex, gi_ne, gi_eq, gi_sr, gi_sl, gi_th, gi_op, gr_si, gr_sl, gr_th, gr_op, gr_ne, gl_si, gl_sr, gl_th, gl_op, gl_eq, gi_al, gr_al, gl_al, nx_si, nx_sr, nx_sl, nx_th, nx_op, nx_al, nx_als, nc_si, nc_sr, nc_sl, nc_th, nc_op, nc_al, ns_si, ns_sr, ns_sl, ns_th, ns_op, ns_al, gi_neI, aI_31, sZ_31, aI_32, sI_32, aI_33, sI_33, aI_34, sI_34, aI_35, sI_35, aI_36, sI_36, aI_37, sI_37, aI_38, sZ_38, aI_39, sI_39, aI_40, sI_40, aI_41, sI_41, aI_42, sZ_42, aI_43, sZ_43, aI_44, sI_44, aI_45, sI_45, aI_46, sI_46, aI_47, sI_47, aI_48, sI_48, aI_49, sI_49, aI_50, sI_50, aI_51, sZ_51, aI_52, sZ_52, aI_53, sZ_53, aI_54, sI_54, aI_55, sI_55, aI_56, sI_56, aI_57, sI_57, aI_58, sZ_58, aI_59, sI_59, aI_60, sI_60, aI_61, sI_61, aI_62, sI_62, aI_63, sZ_63, aI_64, sZ_64, aI_65, sZ_65, aI_66, sI_66, aI_67, sI_67, aI_68, sZ_68, gI_70, gR_70, pI_70, pR_70, pZ_70, ao_70, aL_71, sL_71, pm_2 G, pm_3 G, pm_5 G, pm_6 G, pm_7 G, pm_8 G, pm_9 G, pm_10 G, pm_11 G, pm_12 G, pm_13 G, pm_14 G, pm_15 G, pm_16 G, pm_18 G, pm_19 G, pm_21 G, pm_22 G, pm_23 G, pm_25 G, pm_26 G, pm_27 G, pm_28 G, pm_31 G, pm_32 G, pm_33 G, pm_34 G, pm_35 G, pm_36 G, pm_38 G, pm_39 G, pm_40 G, pm_41 G, pm_42 G, pm_43 G, pm_44 G, pm_45 G, pm_46 G, r_isWork, r_isTag, r_isPerson, r_isFace, r_h0, r_h1, r_h2, r_h3, n10, n20, n30, n00, if_true, if_false, N.2.2.1, isIx_bad (show W < 10000 by omega) hx]
theorem op_work {W Cn Tn Sn Qn : Nat} {h : am_H} (R : RR W Cn Tn Sn Qn h) (x y : Int32) : OpOK h (f_L_work (some (69, 0)) x y (some (71, 0)) h) (f_X11_work (70, 0) x y) vI := by
  have R0 := R
  obtain ⟨H, G, rDay, rBlk, rSam, N, rWa, rWc, rWp, rWl, rWo, rWt, rWf, rWw, rWs, rWk, rCo, rTg, rPa, rTp, rSg, rCm, rSb, rDg⟩ := R
  have hW := N.1
  have k1 := N.2.1
  have k2 := N.2.2.1
  have k3 := N.2.2.2.1
  have k4 := N.2.2.2.2.1
  have l1 : (nI W < (20 : Int32)) = (W < 20) := i_lt (b := 20) (by omega) (by omega)
  have l2 : (nI W = (20 : Int32)) = (W = 20) := i_eq (b := 20) (by omega) (by omega)
  rcases ix_cases x (n := 12) (by omega) with ⟨p, hp, rfl⟩ | hx
  · rcases ix_cases y (n := 4) (by omega) with ⟨r, hr, rfl⟩ | hy
    · have m1 : (nI r < 0) = False := i_neg (by omega)
      have m2 : (nI r ≤ (3 : Int32)) = True := eq_true (nI_le (b := 3) (by omega) (by omega))
      have m3 : ((3 : Int32) < nI r) = False := eq_false (nI_nlt (a := 3) (by omega) (by omega))
      by_cases h6 : W < 20
      · have h6' : ¬ W = 20 := by omega
        refine ok_u (h1 := (m_si (m_sr (m_si (m_si (m_si (m_sr (m_al (m_al h 27 12) 16 8) 27 W 2 (some (16, W))) 27 W 4 (-1)) 27 W 1 (one p)) 27 W 0 (nI r)) 19 0 W (some (27, W))) 69 0 4 (nI (W + 1)))) (b := nI W) (h2 := (m_si (m_si (m_si (m_si (m_si (m_si (m_sl (m_si (m_sr (m_si (m_si (m_si (m_sr (m_al (m_al h 27 12) 16 8) 27 W 2 (some (16, W))) 27 W 4 (-1)) 27 W 1 (one p)) 27 W 0 (nI r)) 19 0 W (some (27, W))) 69 0 4 (nI (W + 1))) 71 0 0 (vI (nI W))) 70 0 0 0) 33 0 W (nI r)) 34 0 W (one p)) 37 0 W (-1)) 39 0 W (-1)) 70 0 4 (nI (W + 1)))) (L_work_ret _ _ ?_) ?_ rfl rfl rfl rfl ?_ ?_ ?_
        · simp (decide := true) only [f_X10_work_13, f_X10_work, f_X9_init, nz_0, nz_1, rz_bI, rz_0, rz_1, bI_eq0, bI_t, bI_f, bI_ri, bI_ex, bR_ra, bR_ex, bV_rt, bV_ex, bW_rt, bJ_ri, bIx_ri, bIx_ex, bVx_rt, bVx_ex, gi_ne, gi_eq, gi_sr, gi_sl, gi_th, gi_op, gr_si, gr_sl, gr_th, gr_op, gr_ne, gl_si, gl_sr, gl_th, gl_op, gl_eq, gi_al, gr_al, gl_al, nx_si, nx_sr, nx_sl, nx_th, nx_op, nx_al, nx_als, nc_si, nc_sr, nc_sl, nc_th, nc_op, nc_al, ns_si, ns_sr, ns_sl, ns_th, ns_op, ns_al, gi_neI, aR_2, sR_2, aI_3, sI_3, aI_4, sI_4, aI_5, sI_5, aI_6, sI_6, aI_7, sI_7, aI_8, sI_8, aI_9, sI_9, aI_10, sZ_10, aI_11, sI_11, aI_12, sI_12, aI_13, sI_13, aI_14, sC_14, gI_15, gR_15, pI_15, pR_15, pZ_15, ao_15, pC_15, aI_16, sI_16, aI_17, sI_17, aR_18, sR_18, aR_19, sR_19, aR_20, sR_20, gI_21, gR_21, pI_21, pR_21, pZ_21, ao_21, gI_22, gR_22, pI_22, pR_22, pZ_22, ao_22, gI_23, gR_23, pI_23, pR_23, pZ_23, ao_23, gI_24, gR_24, pI_24, pR_24, pZ_24, ao_24, aR_25, sR_25, gI_26, gR_26, pI_26, pR_26, pZ_26, ao_26, gI_27, gR_27, pI_27, pR_27, pZ_27, ao_27, gI_28, gR_28, pI_28, pR_28, pZ_28, ao_28, gI_29, gR_29, pI_29, pR_29, pZ_29, ao_29, gI_30, gR_30, pI_30, pR_30, pZ_30, ao_30, gI_69, gR_69, pI_69, pR_69, pZ_69, ao_69, pc_same H, pc_people H, pc_works H, pc_cols H, pc_tags H, pc_tape H, pc_sieve H, pc_gifts H, pc_coms H, pc_mean H, pc_par H, pc_abv H, pc_chars H, pc_scan H, pc_parts H, pc_items H, pc_nots H, pc_signs H, pc_recv H, pc_ways H, if_true, if_false, c_checkPerson hp, m1, m2, l1, h6, new_eq, k1, k3, k4, one_eq, nI_1, nI_pred]
        · simp (decide := true) only [f_X11_work_39, f_X11_work, nz_0, nz_1, rz_bI, rz_0, rz_1, bI_eq0, bI_t, bI_f, bI_ri, bI_ex, bR_ra, bR_ex, bV_rt, bV_ex, bW_rt, bJ_ri, bIx_ri, bIx_ex, bVx_rt, bVx_ex, gi_ne, gi_eq, gi_sr, gi_sl, gi_th, gi_op, gr_si, gr_sl, gr_th, gr_op, gr_ne, gl_si, gl_sr, gl_th, gl_op, gl_eq, gi_al, gr_al, gl_al, nx_si, nx_sr, nx_sl, nx_th, nx_op, nx_al, nx_als, nc_si, nc_sr, nc_sl, nc_th, nc_op, nc_al, ns_si, ns_sr, ns_sl, ns_th, ns_op, ns_al, gi_neI, aI_31, sZ_31, aI_32, sI_32, aI_33, sI_33, aI_34, sI_34, aI_35, sI_35, aI_36, sI_36, aI_37, sI_37, aI_38, sZ_38, aI_39, sI_39, aI_40, sI_40, aI_41, sI_41, aI_42, sZ_42, aI_43, sZ_43, aI_44, sI_44, aI_45, sI_45, aI_46, sI_46, aI_47, sI_47, aI_48, sI_48, aI_49, sI_49, aI_50, sI_50, aI_51, sZ_51, aI_52, sZ_52, aI_53, sZ_53, aI_54, sI_54, aI_55, sI_55, aI_56, sI_56, aI_57, sI_57, aI_58, sZ_58, aI_59, sI_59, aI_60, sI_60, aI_61, sI_61, aI_62, sI_62, aI_63, sZ_63, aI_64, sZ_64, aI_65, sZ_65, aI_66, sI_66, aI_67, sI_67, aI_68, sZ_68, gI_70, gR_70, pI_70, pR_70, pZ_70, ao_70, aL_71, sL_71, pm_2 G, pm_3 G, pm_5 G, pm_6 G, pm_7 G, pm_8 G, pm_9 G, pm_10 G, pm_11 G, pm_12 G, pm_13 G, pm_14 G, pm_15 G, pm_16 G, pm_18 G, pm_19 G, pm_21 G, pm_22 G, pm_23 G, pm_25 G, pm_26 G, pm_27 G, pm_28 G, pm_31 G, pm_32 G, pm_33 G, pm_34 G, pm_35 G, pm_36 G, pm_38 G, pm_39 G, pm_40 G, pm_41 G, pm_42 G, pm_43 G, pm_44 G, pm_45 G, pm_46 G, r_isWork, r_isTag, r_isPerson, r_isFace, r_h0, r_h1, r_h2, r_h3, n10, n20, n30, n00, if_true, if_false, isIx_ok (show 12 < 10000 by omega) hp, r_in, m1, m3, k2, l2, h6', h6, one_eq, nI_1, nI_pred]
        · show m_nc h + 1 + 1 ≤ _; omega
        · show m_ns h + 12 + 8 ≤ _; omega
        · have F : Frm (pX [(69, 4), (70, 4)] [27, 1027, 16, 1016, 19, 33, 34, 37, 39]) h (m_si (m_si (m_si (m_si (m_si (m_si (m_sl (m_si (m_sr (m_si (m_si (m_si (m_sr (m_al (m_al h 27 12) 16 8) 27 W 2 (some (16, W))) 27 W 4 (-1)) 27 W 1 (one p)) 27 W 0 (nI r)) 19 0 W (some (27, W))) 69 0 4 (nI (W + 1))) 71 0 0 (vI (nI W))) 70 0 0 0) 33 0 W (nI r)) 34 0 W (one p)) 37 0 W (-1)) 39 0 W (-1)) 70 0 4 (nI (W + 1))) := ((((((((((((((((Frm.refl _ h).al (fun _ => rfl) rfl).al (fun _ => rfl) rfl).sr rfl).si rfl).si rfl).si rfl).sr rfl).si rfl).sl).si rfl).si rfl).si rfl).si rfl).si rfl).si rfl)
          have e27 : ∀ j i, j < W → m_gi (m_si (m_si (m_si (m_si (m_si (m_si (m_sl (m_si (m_sr (m_si (m_si (m_si (m_sr (m_al (m_al h 27 12) 16 8) 27 W 2 (some (16, W))) 27 W 4 (-1)) 27 W 1 (one p)) 27 W 0 (nI r)) 19 0 W (some (27, W))) 69 0 4 (nI (W + 1))) 71 0 0 (vI (nI W))) 70 0 0 0) 33 0 W (nI r)) 34 0 W (one p)) 37 0 W (-1)) 39 0 W (-1)) 70 0 4 (nI (W + 1))) 27 j i = m_gi h 27 j i := fun j i hj => by
            simp only [m_gi_si, gi_sr, gi_sl, m_gi_al, k3]
            simp [show ¬ j = W by omega]
          have e27W : ∀ i, m_gi (m_si (m_si (m_si (m_si (m_si (m_si (m_sl (m_si (m_sr (m_si (m_si (m_si (m_sr (m_al (m_al h 27 12) 16 8) 27 W 2 (some (16, W))) 27 W 4 (-1)) 27 W 1 (one p)) 27 W 0 (nI r)) 19 0 W (some (27, W))) 69 0 4 (nI (W + 1))) 71 0 0 (vI (nI W))) 70 0 0 0) 33 0 W (nI r)) 34 0 W (one p)) 37 0 W (-1)) 39 0 W (-1)) 70 0 4 (nI (W + 1))) 27 W i = if i = 0 then nI r else if i = 1 then one p else if i = 4 then -1 else 0 := fun i => by
            simp only [m_gi_si, gi_sr, gi_sl, m_gi_al, k3]
            simp
          have g27 : ∀ j i, j < W → m_gr (m_si (m_si (m_si (m_si (m_si (m_si (m_sl (m_si (m_sr (m_si (m_si (m_si (m_sr (m_al (m_al h 27 12) 16 8) 27 W 2 (some (16, W))) 27 W 4 (-1)) 27 W 1 (one p)) 27 W 0 (nI r)) 19 0 W (some (27, W))) 69 0 4 (nI (W + 1))) 71 0 0 (vI (nI W))) 70 0 0 0) 33 0 W (nI r)) 34 0 W (one p)) 37 0 W (-1)) 39 0 W (-1)) 70 0 4 (nI (W + 1))) 27 j i = m_gr h 27 j i := fun j i hj => by
            simp only [gr_si, gr_sl, m_gr_sr, m_gr_al, k3]
            simp [show ¬ j = W by omega]
          have g27W : ∀ i, m_gr (m_si (m_si (m_si (m_si (m_si (m_si (m_sl (m_si (m_sr (m_si (m_si (m_si (m_sr (m_al (m_al h 27 12) 16 8) 27 W 2 (some (16, W))) 27 W 4 (-1)) 27 W 1 (one p)) 27 W 0 (nI r)) 19 0 W (some (27, W))) 69 0 4 (nI (W + 1))) 71 0 0 (vI (nI W))) 70 0 0 0) 33 0 W (nI r)) 34 0 W (one p)) 37 0 W (-1)) 39 0 W (-1)) 70 0 4 (nI (W + 1))) 27 W i = if i = 2 then some (16, W) else none := fun i => by
            simp only [gr_si, gr_sl, m_gr_sr, m_gr_al, k3]
            simp
          have g19 : ∀ j, m_gr (m_si (m_si (m_si (m_si (m_si (m_si (m_sl (m_si (m_sr (m_si (m_si (m_si (m_sr (m_al (m_al h 27 12) 16 8) 27 W 2 (some (16, W))) 27 W 4 (-1)) 27 W 1 (one p)) 27 W 0 (nI r)) 19 0 W (some (27, W))) 69 0 4 (nI (W + 1))) 71 0 0 (vI (nI W))) 70 0 0 0) 33 0 W (nI r)) 34 0 W (one p)) 37 0 W (-1)) 39 0 W (-1)) 70 0 4 (nI (W + 1))) 19 0 j = if j = W then some (27, W) else m_gr h 19 0 j := fun j => by
            simp only [gr_si, gr_sl, m_gr_sr, m_gr_al, k3]
            simp
          have e16 : ∀ j i, j < W → m_gi (m_si (m_si (m_si (m_si (m_si (m_si (m_sl (m_si (m_sr (m_si (m_si (m_si (m_sr (m_al (m_al h 27 12) 16 8) 27 W 2 (some (16, W))) 27 W 4 (-1)) 27 W 1 (one p)) 27 W 0 (nI r)) 19 0 W (some (27, W))) 69 0 4 (nI (W + 1))) 71 0 0 (vI (nI W))) 70 0 0 0) 33 0 W (nI r)) 34 0 W (one p)) 37 0 W (-1)) 39 0 W (-1)) 70 0 4 (nI (W + 1))) 16 j i = m_gi h 16 j i := fun j i hj => by
            simp only [m_gi_si, gi_sr, gi_sl, m_gi_al, nx_al (show 16 ≠ 27 by decide), k4]
            simp [show ¬ j = W by omega]
          have e33 : ∀ j, m_gi (m_si (m_si (m_si (m_si (m_si (m_si (m_sl (m_si (m_sr (m_si (m_si (m_si (m_sr (m_al (m_al h 27 12) 16 8) 27 W 2 (some (16, W))) 27 W 4 (-1)) 27 W 1 (one p)) 27 W 0 (nI r)) 19 0 W (some (27, W))) 69 0 4 (nI (W + 1))) 71 0 0 (vI (nI W))) 70 0 0 0) 33 0 W (nI r)) 34 0 W (one p)) 37 0 W (-1)) 39 0 W (-1)) 70 0 4 (nI (W + 1))) 33 0 j = if j = W then nI r else m_gi h 33 0 j := fun j => by
            simp only [m_gi_si, gi_sr, gi_sl, m_gi_al]
            simp
          have e34 : ∀ j, m_gi (m_si (m_si (m_si (m_si (m_si (m_si (m_sl (m_si (m_sr (m_si (m_si (m_si (m_sr (m_al (m_al h 27 12) 16 8) 27 W 2 (some (16, W))) 27 W 4 (-1)) 27 W 1 (one p)) 27 W 0 (nI r)) 19 0 W (some (27, W))) 69 0 4 (nI (W + 1))) 71 0 0 (vI (nI W))) 70 0 0 0) 33 0 W (nI r)) 34 0 W (one p)) 37 0 W (-1)) 39 0 W (-1)) 70 0 4 (nI (W + 1))) 34 0 j = if j = W then one p else m_gi h 34 0 j := fun j => by
            simp only [m_gi_si, gi_sr, gi_sl, m_gi_al]
            simp
          have e37 : ∀ j, m_gi (m_si (m_si (m_si (m_si (m_si (m_si (m_sl (m_si (m_sr (m_si (m_si (m_si (m_sr (m_al (m_al h 27 12) 16 8) 27 W 2 (some (16, W))) 27 W 4 (-1)) 27 W 1 (one p)) 27 W 0 (nI r)) 19 0 W (some (27, W))) 69 0 4 (nI (W + 1))) 71 0 0 (vI (nI W))) 70 0 0 0) 33 0 W (nI r)) 34 0 W (one p)) 37 0 W (-1)) 39 0 W (-1)) 70 0 4 (nI (W + 1))) 37 0 j = if j = W then -1 else m_gi h 37 0 j := fun j => by
            simp only [m_gi_si, gi_sr, gi_sl, m_gi_al]
            simp
          have e39 : ∀ j, m_gi (m_si (m_si (m_si (m_si (m_si (m_si (m_sl (m_si (m_sr (m_si (m_si (m_si (m_sr (m_al (m_al h 27 12) 16 8) 27 W 2 (some (16, W))) 27 W 4 (-1)) 27 W 1 (one p)) 27 W 0 (nI r)) 19 0 W (some (27, W))) 69 0 4 (nI (W + 1))) 71 0 0 (vI (nI W))) 70 0 0 0) 33 0 W (nI r)) 34 0 W (one p)) 37 0 W (-1)) 39 0 W (-1)) 70 0 4 (nI (W + 1))) 39 0 j = if j = W then -1 else m_gi h 39 0 j := fun j => by
            simp only [m_gi_si, gi_sr, gi_sl, m_gi_al]
            simp
          have e35 : ∀ j, m_gi (m_si (m_si (m_si (m_si (m_si (m_si (m_sl (m_si (m_sr (m_si (m_si (m_si (m_sr (m_al (m_al h 27 12) 16 8) 27 W 2 (some (16, W))) 27 W 4 (-1)) 27 W 1 (one p)) 27 W 0 (nI r)) 19 0 W (some (27, W))) 69 0 4 (nI (W + 1))) 71 0 0 (vI (nI W))) 70 0 0 0) 33 0 W (nI r)) 34 0 W (one p)) 37 0 W (-1)) 39 0 W (-1)) 70 0 4 (nI (W + 1))) 35 0 j = m_gi h 35 0 j := fun j => F.1 35 0 j rfl
          have e36 : ∀ j, m_gi (m_si (m_si (m_si (m_si (m_si (m_si (m_sl (m_si (m_sr (m_si (m_si (m_si (m_sr (m_al (m_al h 27 12) 16 8) 27 W 2 (some (16, W))) 27 W 4 (-1)) 27 W 1 (one p)) 27 W 0 (nI r)) 19 0 W (some (27, W))) 69 0 4 (nI (W + 1))) 71 0 0 (vI (nI W))) 70 0 0 0) 33 0 W (nI r)) 34 0 W (one p)) 37 0 W (-1)) 39 0 W (-1)) 70 0 4 (nI (W + 1))) 36 0 j = m_gi h 36 0 j := fun j => F.1 36 0 j rfl
          have e38 : ∀ j, m_gi (m_si (m_si (m_si (m_si (m_si (m_si (m_sl (m_si (m_sr (m_si (m_si (m_si (m_sr (m_al (m_al h 27 12) 16 8) 27 W 2 (some (16, W))) 27 W 4 (-1)) 27 W 1 (one p)) 27 W 0 (nI r)) 19 0 W (some (27, W))) 69 0 4 (nI (W + 1))) 71 0 0 (vI (nI W))) 70 0 0 0) 33 0 W (nI r)) 34 0 W (one p)) 37 0 W (-1)) 39 0 W (-1)) 70 0 4 (nI (W + 1))) 38 0 j = m_gi h 38 0 j := fun j => F.1 38 0 j rfl
          have e40 : ∀ j, m_gi (m_si (m_si (m_si (m_si (m_si (m_si (m_sl (m_si (m_sr (m_si (m_si (m_si (m_sr (m_al (m_al h 27 12) 16 8) 27 W 2 (some (16, W))) 27 W 4 (-1)) 27 W 1 (one p)) 27 W 0 (nI r)) 19 0 W (some (27, W))) 69 0 4 (nI (W + 1))) 71 0 0 (vI (nI W))) 70 0 0 0) 33 0 W (nI r)) 34 0 W (one p)) 37 0 W (-1)) 39 0 W (-1)) 70 0 4 (nI (W + 1))) 40 0 j = m_gi h 40 0 j := fun j => F.1 40 0 j rfl
          have e41 : ∀ j, m_gi (m_si (m_si (m_si (m_si (m_si (m_si (m_sl (m_si (m_sr (m_si (m_si (m_si (m_sr (m_al (m_al h 27 12) 16 8) 27 W 2 (some (16, W))) 27 W 4 (-1)) 27 W 1 (one p)) 27 W 0 (nI r)) 19 0 W (some (27, W))) 69 0 4 (nI (W + 1))) 71 0 0 (vI (nI W))) 70 0 0 0) 33 0 W (nI r)) 34 0 W (one p)) 37 0 W (-1)) 39 0 W (-1)) 70 0 4 (nI (W + 1))) 41 0 j = m_gi h 41 0 j := fun j => F.1 41 0 j rfl
          have e42 : ∀ j, m_gi (m_si (m_si (m_si (m_si (m_si (m_si (m_sl (m_si (m_sr (m_si (m_si (m_si (m_sr (m_al (m_al h 27 12) 16 8) 27 W 2 (some (16, W))) 27 W 4 (-1)) 27 W 1 (one p)) 27 W 0 (nI r)) 19 0 W (some (27, W))) 69 0 4 (nI (W + 1))) 71 0 0 (vI (nI W))) 70 0 0 0) 33 0 W (nI r)) 34 0 W (one p)) 37 0 W (-1)) 39 0 W (-1)) 70 0 4 (nI (W + 1))) 42 0 j = m_gi h 42 0 j := fun j => F.1 42 0 j rfl
          have e43 : ∀ j, m_gi (m_si (m_si (m_si (m_si (m_si (m_si (m_sl (m_si (m_sr (m_si (m_si (m_si (m_sr (m_al (m_al h 27 12) 16 8) 27 W 2 (some (16, W))) 27 W 4 (-1)) 27 W 1 (one p)) 27 W 0 (nI r)) 19 0 W (some (27, W))) 69 0 4 (nI (W + 1))) 71 0 0 (vI (nI W))) 70 0 0 0) 33 0 W (nI r)) 34 0 W (one p)) 37 0 W (-1)) 39 0 W (-1)) 70 0 4 (nI (W + 1))) 43 0 j = m_gi h 43 0 j := fun j => F.1 43 0 j rfl
          have e44 : ∀ j, m_gi (m_si (m_si (m_si (m_si (m_si (m_si (m_sl (m_si (m_sr (m_si (m_si (m_si (m_sr (m_al (m_al h 27 12) 16 8) 27 W 2 (some (16, W))) 27 W 4 (-1)) 27 W 1 (one p)) 27 W 0 (nI r)) 19 0 W (some (27, W))) 69 0 4 (nI (W + 1))) 71 0 0 (vI (nI W))) 70 0 0 0) 33 0 W (nI r)) 34 0 W (one p)) 37 0 W (-1)) 39 0 W (-1)) 70 0 4 (nI (W + 1))) 44 0 j = m_gi h 44 0 j := fun j => F.1 44 0 j rfl
          have cs : ∀ {j}, j < W + 1 → j < W ∨ j = W := fun {j} hj => by omega
          refine ⟨W + 1, Cn, Tn, Sn, Qn, ⟨H.frm F, G.frm F, rDay.frm F, rBlk.frm F, rSam.frm F, ?_, ?_, ?_, ?_, ?_, ?_, ?_, ?_, ?_, ?_, ?_, rCo.frm F, rTg.frm F, rPa.frm F, rTp.frm F, rSg.frm F, ?_, rSb.frm F, rDg.frm F⟩⟩
          · refine ⟨by omega, rfl, rfl, ?_, ?_, fun j hj => ?_⟩
            · show m_nx (m_al (m_al h 27 12) 16 8) 27 = _
              rw [nx_al (by decide), nx_als, k3]
            · show m_nx (m_al (m_al h 27 12) 16 8) 16 = _
              rw [nx_als, nx_al (by decide), k4]
            · rw [g19]
              rcases cs hj with q | q
              · rw [if_neg (by omega), g27 j 2 q]; exact N.2.2.2.2.2 j q
              · subst q; rw [if_pos rfl, g27W]; exact ⟨rfl, rfl⟩
          · intro j hj
            rw [e33, e34]
            rcases cs hj with q | q
            · rw [if_neg (by omega), if_neg (by omega), e27 j 0 q, e27 j 1 q]; exact rWa j q
            · subst q
              rw [if_pos rfl, if_pos rfl, e27W, e27W]
              refine ⟨rfl, rfl, ⟨r, hr, rfl⟩, fun i hi => ?_⟩
              rcases Nat.lt_or_ge i 32 with h32 | h32
              · rw [bt_one (by omega) h32, decide_eq_false (by omega)]
              · exact b_big h32
          · refine ⟨fun j hj => ?_, fun j a b => by rw [e35]; exact rWc.2 j (by omega) b⟩
            rw [e35]
            rcases cs hj with q | q
            · obtain ⟨c, c1, c2, c3, c4⟩ := rWc.1 j q
              rw [e27 j 3 q]
              exact ⟨c, c1, c2, c3, fun i hi => by rw [e36, e16 j i q]; exact c4 i hi⟩
            · subst q
              rw [e27W, rWc.2 _ (Nat.le_refl _) h6]
              exact ⟨0, by omega, rfl, rfl, fun i hi => absurd hi (by omega)⟩
          · intro j hj
            rw [e37, e35]
            rcases cs hj with q | q
            · rw [if_neg (by omega), e27 j 4 q]; exact rWp j q
            · subst q; rw [if_pos rfl, e27W]; exact ⟨rfl, Or.inl rfl⟩
          · refine ⟨fun j hj => ?_, fun j a => by rw [e38]; exact rWl.2.1 j a, fun j a b => by rw [e38]; exact rWl.2.2 j (by omega) b⟩
            rw [e38]
            rcases cs hj with q | q
            · rw [e27 j 5 q]; exact rWl.1 j q
            · subst q; rw [e27W, rWl.2.2 _ (Nat.le_refl _) h6]; rfl
          · intro j hj
            rw [e39]
            rcases cs hj with q | q
            · rw [if_neg (by omega), g27 j 6 q]; exact rWo j q
            · subst q; rw [if_pos rfl, g27W]; exact Or.inl ⟨rfl, rfl⟩
          · refine ⟨fun j hj => ?_, fun j i a b => by rw [e40]; exact rWt.2.1 j i a b, fun j a b => by rw [e40]; exact rWt.2.2 j (by omega) b⟩
            rw [e40]
            rcases cs hj with q | q
            · rw [e27 j 7 q]; exact rWt.1 j q
            · subst q; rw [e27W, rWt.2.2 _ (Nat.le_refl _) h6]; rfl
          · refine ⟨fun j hj => ?_, fun j i a b => by rw [e41]; exact rWf.2.1 j i a b, fun j a b => by rw [e41]; exact rWf.2.2 j (by omega) b⟩
            rw [e41]
            rcases cs hj with q | q
            · rw [e27 j 8 q]; exact rWf.1 j q
            · subst q; rw [e27W, rWf.2.2 _ (Nat.le_refl _) h6]; rfl
          · refine ⟨fun j hj => ?_, fun j a => by rw [e42]; exact rWw.2.1 j a, fun j a b => by rw [e42]; exact rWw.2.2 j (by omega) b⟩
            rw [e42]
            rcases cs hj with q | q
            · rw [e27 j 9 q]; exact rWw.1 j q
            · subst q; rw [e27W, rWw.2.2 _ (Nat.le_refl _) h6]; rfl
          · refine ⟨fun j hj => ?_, fun j a => by rw [e43]; exact rWs.2.1 j a, fun j a b => by rw [e43]; exact rWs.2.2 j (by omega) b⟩
            rw [e43]
            rcases cs hj with q | q
            · rw [e27 j 10 q]; exact rWs.1 j q
            · subst q; rw [e27W, rWs.2.2 _ (Nat.le_refl _) h6]; rfl
          · refine ⟨fun j hj => ?_, fun j a b => by rw [e44]; exact rWk.2 j (by omega) b⟩
            rw [e44]
            rcases cs hj with q | q
            · rw [e27 j 11 q]; exact rWk.1 j q
            · subst q; rw [e27W, rWk.2 _ (Nat.le_refl _) h6]; rfl
          · obtain ⟨b1, b2, b3, b4, b5, b6⟩ := rCm.frm F
            refine ⟨b1, b2, b3, b4, fun j hj => ?_, b6⟩
            obtain ⟨q1, q2, ⟨w, q3, q4⟩, q5⟩ := b5 j hj
            exact ⟨q1, q2, ⟨w, by omega, q4⟩, q5⟩
      · have h6' : W = 20 := by omega
        refine ok_ex R0 (c := 3) (b := 0) (by decide) (L_work_x2 _ _ ?_) ?_
        · simp (decide := true) only [f_X10_work_13, f_X10_work, nz_0, nz_1, rz_bI, rz_0, rz_1, bI_eq0, bI_t, bI_f, bI_ri, bI_ex, bR_ra, bR_ex, bV_rt, bV_ex, bW_rt, bJ_ri, bIx_ri, bIx_ex, bVx_rt, bVx_ex, gi_ne, gi_eq, gi_sr, gi_sl, gi_th, gi_op, gr_si, gr_sl, gr_th, gr_op, gr_ne, gl_si, gl_sr, gl_th, gl_op, gl_eq, gi_al, gr_al, gl_al, nx_si, nx_sr, nx_sl, nx_th, nx_op, nx_al, nx_als, nc_si, nc_sr, nc_sl, nc_th, nc_op, nc_al, ns_si, ns_sr, ns_sl, ns_th, ns_op, ns_al, gi_neI, aR_2, sR_2, aI_3, sI_3, aI_4, sI_4, aI_5, sI_5, aI_6, sI_6, aI_7, sI_7, aI_8, sI_8, aI_9, sI_9, aI_10, sZ_10, aI_11, sI_11, aI_12, sI_12, aI_13, sI_13, aI_14, sC_14, gI_15, gR_15, pI_15, pR_15, pZ_15, ao_15, pC_15, aI_16, sI_16, aI_17, sI_17, aR_18, sR_18, aR_19, sR_19, aR_20, sR_20, gI_21, gR_21, pI_21, pR_21, pZ_21, ao_21, gI_22, gR_22, pI_22, pR_22, pZ_22, ao_22, gI_23, gR_23, pI_23, pR_23, pZ_23, ao_23, gI_24, gR_24, pI_24, pR_24, pZ_24, ao_24, aR_25, sR_25, gI_26, gR_26, pI_26, pR_26, pZ_26, ao_26, gI_27, gR_27, pI_27, pR_27, pZ_27, ao_27, gI_28, gR_28, pI_28, pR_28, pZ_28, ao_28, gI_29, gR_29, pI_29, pR_29, pZ_29, ao_29, gI_30, gR_30, pI_30, pR_30, pZ_30, ao_30, gI_69, gR_69, pI_69, pR_69, pZ_69, ao_69, pc_same H, pc_people H, pc_works H, pc_cols H, pc_tags H, pc_tape H, pc_sieve H, pc_gifts H, pc_coms H, pc_mean H, pc_par H, pc_abv H, pc_chars H, pc_scan H, pc_parts H, pc_items H, pc_nots H, pc_signs H, pc_recv H, pc_ways H, if_true, if_false, c_checkPerson hp, m1, m2, l1, h6, k1]
        · simp (decide := true) only [f_X11_work_39, f_X11_work, nz_0, nz_1, rz_bI, rz_0, rz_1, bI_eq0, bI_t, bI_f, bI_ri, bI_ex, bR_ra, bR_ex, bV_rt, bV_ex, bW_rt, bJ_ri, bIx_ri, bIx_ex, bVx_rt, bVx_ex, gi_ne, gi_eq, gi_sr, gi_sl, gi_th, gi_op, gr_si, gr_sl, gr_th, gr_op, gr_ne, gl_si, gl_sr, gl_th, gl_op, gl_eq, gi_al, gr_al, gl_al, nx_si, nx_sr, nx_sl, nx_th, nx_op, nx_al, nx_als, nc_si, nc_sr, nc_sl, nc_th, nc_op, nc_al, ns_si, ns_sr, ns_sl, ns_th, ns_op, ns_al, gi_neI, aI_31, sZ_31, aI_32, sI_32, aI_33, sI_33, aI_34, sI_34, aI_35, sI_35, aI_36, sI_36, aI_37, sI_37, aI_38, sZ_38, aI_39, sI_39, aI_40, sI_40, aI_41, sI_41, aI_42, sZ_42, aI_43, sZ_43, aI_44, sI_44, aI_45, sI_45, aI_46, sI_46, aI_47, sI_47, aI_48, sI_48, aI_49, sI_49, aI_50, sI_50, aI_51, sZ_51, aI_52, sZ_52, aI_53, sZ_53, aI_54, sI_54, aI_55, sI_55, aI_56, sI_56, aI_57, sI_57, aI_58, sZ_58, aI_59, sI_59, aI_60, sI_60, aI_61, sI_61, aI_62, sI_62, aI_63, sZ_63, aI_64, sZ_64, aI_65, sZ_65, aI_66, sI_66, aI_67, sI_67, aI_68, sZ_68, gI_70, gR_70, pI_70, pR_70, pZ_70, ao_70, aL_71, sL_71, pm_2 G, pm_3 G, pm_5 G, pm_6 G, pm_7 G, pm_8 G, pm_9 G, pm_10 G, pm_11 G, pm_12 G, pm_13 G, pm_14 G, pm_15 G, pm_16 G, pm_18 G, pm_19 G, pm_21 G, pm_22 G, pm_23 G, pm_25 G, pm_26 G, pm_27 G, pm_28 G, pm_31 G, pm_32 G, pm_33 G, pm_34 G, pm_35 G, pm_36 G, pm_38 G, pm_39 G, pm_40 G, pm_41 G, pm_42 G, pm_43 G, pm_44 G, pm_45 G, pm_46 G, r_isWork, r_isTag, r_isPerson, r_isFace, r_h0, r_h1, r_h2, r_h3, n10, n20, n30, n00, if_true, if_false, isIx_ok (show 12 < 10000 by omega) hp, r_in, m1, m3, k2, l2, h6']
    · have d : decide (¬ y < 0 ∧ ¬ 3 < y) = false := isIx_bad (n := 4) (by omega) hy
      refine ok_ex R0 (c := 2) (b := 0) (by decide) (L_work_x1 _ _ ?_) ?_
      · rcases hy with hy | hy
        · simp (decide := true) only [f_X10_work_13, f_X10_work, nz_0, nz_1, rz_bI, rz_0, rz_1, bI_eq0, bI_t, bI_f, bI_ri, bI_ex, bR_ra, bR_ex, bV_rt, bV_ex, bW_rt, bJ_ri, bIx_ri, bIx_ex, bVx_rt, bVx_ex, gi_ne, gi_eq, gi_sr, gi_sl, gi_th, gi_op, gr_si, gr_sl, gr_th, gr_op, gr_ne, gl_si, gl_sr, gl_th, gl_op, gl_eq, gi_al, gr_al, gl_al, nx_si, nx_sr, nx_sl, nx_th, nx_op, nx_al, nx_als, nc_si, nc_sr, nc_sl, nc_th, nc_op, nc_al, ns_si, ns_sr, ns_sl, ns_th, ns_op, ns_al, gi_neI, aR_2, sR_2, aI_3, sI_3, aI_4, sI_4, aI_5, sI_5, aI_6, sI_6, aI_7, sI_7, aI_8, sI_8, aI_9, sI_9, aI_10, sZ_10, aI_11, sI_11, aI_12, sI_12, aI_13, sI_13, aI_14, sC_14, gI_15, gR_15, pI_15, pR_15, pZ_15, ao_15, pC_15, aI_16, sI_16, aI_17, sI_17, aR_18, sR_18, aR_19, sR_19, aR_20, sR_20, gI_21, gR_21, pI_21, pR_21, pZ_21, ao_21, gI_22, gR_22, pI_22, pR_22, pZ_22, ao_22, gI_23, gR_23, pI_23, pR_23, pZ_23, ao_23, gI_24, gR_24, pI_24, pR_24, pZ_24, ao_24, aR_25, sR_25, gI_26, gR_26, pI_26, pR_26, pZ_26, ao_26, gI_27, gR_27, pI_27, pR_27, pZ_27, ao_27, gI_28, gR_28, pI_28, pR_28, pZ_28, ao_28, gI_29, gR_29, pI_29, pR_29, pZ_29, ao_29, gI_30, gR_30, pI_30, pR_30, pZ_30, ao_30, gI_69, gR_69, pI_69, pR_69, pZ_69, ao_69, pc_same H, pc_people H, pc_works H, pc_cols H, pc_tags H, pc_tape H, pc_sieve H, pc_gifts H, pc_coms H, pc_mean H, pc_par H, pc_abv H, pc_chars H, pc_scan H, pc_parts H, pc_items H, pc_nots H, pc_signs H, pc_recv H, pc_ways H, if_true, if_false, c_checkPerson hp, hy]
        · have : ¬ y ≤ 3 := fun z => absurd (Int32.le_trans hy z) (by decide)
          simp (decide := true) only [f_X10_work_13, f_X10_work, nz_0, nz_1, rz_bI, rz_0, rz_1, bI_eq0, bI_t, bI_f, bI_ri, bI_ex, bR_ra, bR_ex, bV_rt, bV_ex, bW_rt, bJ_ri, bIx_ri, bIx_ex, bVx_rt, bVx_ex, gi_ne, gi_eq, gi_sr, gi_sl, gi_th, gi_op, gr_si, gr_sl, gr_th, gr_op, gr_ne, gl_si, gl_sr, gl_th, gl_op, gl_eq, gi_al, gr_al, gl_al, nx_si, nx_sr, nx_sl, nx_th, nx_op, nx_al, nx_als, nc_si, nc_sr, nc_sl, nc_th, nc_op, nc_al, ns_si, ns_sr, ns_sl, ns_th, ns_op, ns_al, gi_neI, aR_2, sR_2, aI_3, sI_3, aI_4, sI_4, aI_5, sI_5, aI_6, sI_6, aI_7, sI_7, aI_8, sI_8, aI_9, sI_9, aI_10, sZ_10, aI_11, sI_11, aI_12, sI_12, aI_13, sI_13, aI_14, sC_14, gI_15, gR_15, pI_15, pR_15, pZ_15, ao_15, pC_15, aI_16, sI_16, aI_17, sI_17, aR_18, sR_18, aR_19, sR_19, aR_20, sR_20, gI_21, gR_21, pI_21, pR_21, pZ_21, ao_21, gI_22, gR_22, pI_22, pR_22, pZ_22, ao_22, gI_23, gR_23, pI_23, pR_23, pZ_23, ao_23, gI_24, gR_24, pI_24, pR_24, pZ_24, ao_24, aR_25, sR_25, gI_26, gR_26, pI_26, pR_26, pZ_26, ao_26, gI_27, gR_27, pI_27, pR_27, pZ_27, ao_27, gI_28, gR_28, pI_28, pR_28, pZ_28, ao_28, gI_29, gR_29, pI_29, pR_29, pZ_29, ao_29, gI_30, gR_30, pI_30, pR_30, pZ_30, ao_30, gI_69, gR_69, pI_69, pR_69, pZ_69, ao_69, pc_same H, pc_people H, pc_works H, pc_cols H, pc_tags H, pc_tape H, pc_sieve H, pc_gifts H, pc_coms H, pc_mean H, pc_par H, pc_abv H, pc_chars H, pc_scan H, pc_parts H, pc_items H, pc_nots H, pc_signs H, pc_recv H, pc_ways H, if_true, if_false, c_checkPerson hp, this, ite_self]
      · simp (decide := true) only [f_X11_work_39, f_X11_work, nz_0, nz_1, rz_bI, rz_0, rz_1, bI_eq0, bI_t, bI_f, bI_ri, bI_ex, bR_ra, bR_ex, bV_rt, bV_ex, bW_rt, bJ_ri, bIx_ri, bIx_ex, bVx_rt, bVx_ex, gi_ne, gi_eq, gi_sr, gi_sl, gi_th, gi_op, gr_si, gr_sl, gr_th, gr_op, gr_ne, gl_si, gl_sr, gl_th, gl_op, gl_eq, gi_al, gr_al, gl_al, nx_si, nx_sr, nx_sl, nx_th, nx_op, nx_al, nx_als, nc_si, nc_sr, nc_sl, nc_th, nc_op, nc_al, ns_si, ns_sr, ns_sl, ns_th, ns_op, ns_al, gi_neI, aI_31, sZ_31, aI_32, sI_32, aI_33, sI_33, aI_34, sI_34, aI_35, sI_35, aI_36, sI_36, aI_37, sI_37, aI_38, sZ_38, aI_39, sI_39, aI_40, sI_40, aI_41, sI_41, aI_42, sZ_42, aI_43, sZ_43, aI_44, sI_44, aI_45, sI_45, aI_46, sI_46, aI_47, sI_47, aI_48, sI_48, aI_49, sI_49, aI_50, sI_50, aI_51, sZ_51, aI_52, sZ_52, aI_53, sZ_53, aI_54, sI_54, aI_55, sI_55, aI_56, sI_56, aI_57, sI_57, aI_58, sZ_58, aI_59, sI_59, aI_60, sI_60, aI_61, sI_61, aI_62, sI_62, aI_63, sZ_63, aI_64, sZ_64, aI_65, sZ_65, aI_66, sI_66, aI_67, sI_67, aI_68, sZ_68, gI_70, gR_70, pI_70, pR_70, pZ_70, ao_70, aL_71, sL_71, pm_2 G, pm_3 G, pm_5 G, pm_6 G, pm_7 G, pm_8 G, pm_9 G, pm_10 G, pm_11 G, pm_12 G, pm_13 G, pm_14 G, pm_15 G, pm_16 G, pm_18 G, pm_19 G, pm_21 G, pm_22 G, pm_23 G, pm_25 G, pm_26 G, pm_27 G, pm_28 G, pm_31 G, pm_32 G, pm_33 G, pm_34 G, pm_35 G, pm_36 G, pm_38 G, pm_39 G, pm_40 G, pm_41 G, pm_42 G, pm_43 G, pm_44 G, pm_45 G, pm_46 G, r_isWork, r_isTag, r_isPerson, r_isFace, r_h0, r_h1, r_h2, r_h3, n10, n20, n30, n00, if_true, if_false, isIx_ok (show 12 < 10000 by omega) hp, r_in, d]
  · refine ok_ex R0 (c := 1) (b := 0) (by decide) (L_work_x0 _ _ ?_) ?_
    · simp (decide := true) only [f_X10_work_13, f_X10_work, nz_0, nz_1, rz_bI, rz_0, rz_1, bI_eq0, bI_t, bI_f, bI_ri, bI_ex, bR_ra, bR_ex, bV_rt, bV_ex, bW_rt, bJ_ri, bIx_ri, bIx_ex, bVx_rt, bVx_ex, gi_ne, gi_eq, gi_sr, gi_sl, gi_th, gi_op, gr_si, gr_sl, gr_th, gr_op, gr_ne, gl_si, gl_sr, gl_th, gl_op, gl_eq, gi_al, gr_al, gl_al, nx_si, nx_sr, nx_sl, nx_th, nx_op, nx_al, nx_als, nc_si, nc_sr, nc_sl, nc_th, nc_op, nc_al, ns_si, ns_sr, ns_sl, ns_th, ns_op, ns_al, gi_neI, aR_2, sR_2, aI_3, sI_3, aI_4, sI_4, aI_5, sI_5, aI_6, sI_6, aI_7, sI_7, aI_8, sI_8, aI_9, sI_9, aI_10, sZ_10, aI_11, sI_11, aI_12, sI_12, aI_13, sI_13, aI_14, sC_14, gI_15, gR_15, pI_15, pR_15, pZ_15, ao_15, pC_15, aI_16, sI_16, aI_17, sI_17, aR_18, sR_18, aR_19, sR_19, aR_20, sR_20, gI_21, gR_21, pI_21, pR_21, pZ_21, ao_21, gI_22, gR_22, pI_22, pR_22, pZ_22, ao_22, gI_23, gR_23, pI_23, pR_23, pZ_23, ao_23, gI_24, gR_24, pI_24, pR_24, pZ_24, ao_24, aR_25, sR_25, gI_26, gR_26, pI_26, pR_26, pZ_26, ao_26, gI_27, gR_27, pI_27, pR_27, pZ_27, ao_27, gI_28, gR_28, pI_28, pR_28, pZ_28, ao_28, gI_29, gR_29, pI_29, pR_29, pZ_29, ao_29, gI_30, gR_30, pI_30, pR_30, pZ_30, ao_30, gI_69, gR_69, pI_69, pR_69, pZ_69, ao_69, pc_same H, pc_people H, pc_works H, pc_cols H, pc_tags H, pc_tape H, pc_sieve H, pc_gifts H, pc_coms H, pc_mean H, pc_par H, pc_abv H, pc_chars H, pc_scan H, pc_parts H, pc_items H, pc_nots H, pc_signs H, pc_recv H, pc_ways H, if_true, if_false, c_checkPerson_bad hx]
    · simp (decide := true) only [f_X11_work_39, f_X11_work, nz_0, nz_1, rz_bI, rz_0, rz_1, bI_eq0, bI_t, bI_f, bI_ri, bI_ex, bR_ra, bR_ex, bV_rt, bV_ex, bW_rt, bJ_ri, bIx_ri, bIx_ex, bVx_rt, bVx_ex, gi_ne, gi_eq, gi_sr, gi_sl, gi_th, gi_op, gr_si, gr_sl, gr_th, gr_op, gr_ne, gl_si, gl_sr, gl_th, gl_op, gl_eq, gi_al, gr_al, gl_al, nx_si, nx_sr, nx_sl, nx_th, nx_op, nx_al, nx_als, nc_si, nc_sr, nc_sl, nc_th, nc_op, nc_al, ns_si, ns_sr, ns_sl, ns_th, ns_op, ns_al, gi_neI, aI_31, sZ_31, aI_32, sI_32, aI_33, sI_33, aI_34, sI_34, aI_35, sI_35, aI_36, sI_36, aI_37, sI_37, aI_38, sZ_38, aI_39, sI_39, aI_40, sI_40, aI_41, sI_41, aI_42, sZ_42, aI_43, sZ_43, aI_44, sI_44, aI_45, sI_45, aI_46, sI_46, aI_47, sI_47, aI_48, sI_48, aI_49, sI_49, aI_50, sI_50, aI_51, sZ_51, aI_52, sZ_52, aI_53, sZ_53, aI_54, sI_54, aI_55, sI_55, aI_56, sI_56, aI_57, sI_57, aI_58, sZ_58, aI_59, sI_59, aI_60, sI_60, aI_61, sI_61, aI_62, sI_62, aI_63, sZ_63, aI_64, sZ_64, aI_65, sZ_65, aI_66, sI_66, aI_67, sI_67, aI_68, sZ_68, gI_70, gR_70, pI_70, pR_70, pZ_70, ao_70, aL_71, sL_71, pm_2 G, pm_3 G, pm_5 G, pm_6 G, pm_7 G, pm_8 G, pm_9 G, pm_10 G, pm_11 G, pm_12 G, pm_13 G, pm_14 G, pm_15 G, pm_16 G, pm_18 G, pm_19 G, pm_21 G, pm_22 G, pm_23 G, pm_25 G, pm_26 G, pm_27 G, pm_28 G, pm_31 G, pm_32 G, pm_33 G, pm_34 G, pm_35 G, pm_36 G, pm_38 G, pm_39 G, pm_40 G, pm_41 G, pm_42 G, pm_43 G, pm_44 G, pm_45 G, pm_46 G, r_isWork, r_isTag, r_isPerson, r_isFace, r_h0, r_h1, r_h2, r_h3, n10, n20, n30, n00, if_true, if_false, isIx_bad (show 12 < 10000 by omega) hx]
theorem c_waiting4 {W : Nat} {h : am_H} (H : ShC h) (N : RWn W h) (w : RWw W h) : ∀ (n k : Nat), k ≤ W → W < k + n → f_X10_waiting_4 n (69, 0) (setOf (fun j => !decide (m_gi h 42 0 j = 0)) k) (nI k) h = m_ri h (setOf (fun j => !decide (m_gi h 42 0 j = 0)) W)
  | 0, k, h1, h2 => by omega
  | n + 1, k, h1, h2 => by
    have hW := N.1
    rw [f_X10_waiting_4]
    simp only [gI_69, N.2.1, i_le (show W < 10000 by omega) (show k < 10000 by omega)]
    by_cases hk : W ≤ k
    · rw [if_pos hk, show k = W by omega]
    · rw [if_neg hk]
      have ih := c_waiting4 H N w n (k + 1) (by omega) (by omega)
      rw [setOf] at ih
      have e := (w.1 k (by omega)).trans (nz_bv (w.2.1 k (by omega)))
      simp only [gR_69, pc_works H, aR_19 (show k < 20 by omega), (N.2.2.2.2.2 k (by omega)).1, gI_27, e, c_with, bI_ri, nI_1]
      exact ih
theorem r_waiting9 {W : Nat} {h : am_H} (G : ShM h) (e : m_gi h 70 0 4 = nI W) (hW : W ≤ 20) : ∀ (n k : Nat), k ≤ W → W < k + n → f_X11_waiting_9 n (70, 0) (setOf (fun j => !decide (m_gi h 42 0 j = 0)) k) (nI k) h = m_ri h (setOf (fun j => !decide (m_gi h 42 0 j = 0)) W)
  | 0, k, h1, h2 => by omega
  | n + 1, k, h1, h2 => by
    rw [f_X11_waiting_9]
    simp only [gI_70, e, i_le (show W < 10000 by omega) (show k < 10000 by omega)]
    by_cases hk : W ≤ k
    · rw [if_pos hk, show k = W by omega]
    · rw [if_neg hk]
      have ih := r_waiting9 G e hW n (k + 1) (by omega) (by omega)
      rw [← setOf_or _ (by omega)] at ih
      simp only [gR_70, pm_14 G, aI_42 (show k < 20 by omega), f_X11_waiting_34, nI_1, one_eq]
      by_cases q : m_gi h 42 0 k = 0
      · simp only [q, if_true]
        simpa [q] using ih
      · simp only [q, if_false]
        simpa [q] using ih
theorem c_waiting {W : Nat} {h : am_H} (H : ShC h) (N : RWn W h) (w : RWw W h) : f_X10_waiting (69, 0) h = m_ri h (setOf (fun j => !decide (m_gi h 42 0 j = 0)) W) := by
  have := c_waiting4 H N w 5000 0 (by omega) (by have := N.1; omega)
  rw [nI_0] at this
  rw [f_X10_waiting]
  exact this
theorem r_waiting {W : Nat} {h : am_H} (G : ShM h) (e : m_gi h 70 0 4 = nI W) (hW : W ≤ 20) : f_X11_waiting_9 5000 (70, 0) 0 0 h = m_ri h (setOf (fun j => !decide (m_gi h 42 0 j = 0)) W) := by
  have := r_waiting9 G e hW 5000 0 (by omega) (by omega)
  rw [nI_0] at this
  exact this
theorem op_waiting {W Cn Tn Sn Qn : Nat} {h : am_H} (R : RR W Cn Tn Sn Qn h) : OpOKn h (f_X10_waiting (69, 0) h) (f_X11_waiting (70, 0)) := by
  have R2 : RR W Cn Tn Sn Qn (m_si h 70 0 0 0) := rr_eqv ((Frm.refl _ h).si rfl) R
  refine ⟨h, m_si h 70 0 0 0, setOf (fun j => !decide (m_gi h 42 0 j = 0)) W, c_waiting R.H R.N R.rWw, ?_, rfl, rfl, Nat.le_add_right _ _, Nat.le_add_right _ _, W, Cn, Tn, Sn, Qn, R2⟩
  rw [f_X11_waiting, pI_70, r_waiting R2.G R2.N.2.2.1 R.N.1, gi_ne (by decide)]
theorem blg_eq {g h : am_H} (e1 : m_gi g 11 = m_gi h 11) (e2 : m_gi g 13 = m_gi h 13) (s : Int32) : ∀ n, blg g s n = blg h s n
  | 0 => rfl
  | n + 1 => by rw [blg, blg, blg_eq e1 e2 s n, e1, e2]
theorem op_under {W Cn Tn Sn Qn : Nat} {h : am_H} (R : RR W Cn Tn Sn Qn h) (x : Int32) (b : Bool) : OpOK h (f_L_under (some (69, 0)) x (bI b) (some (71, 0)) h) (f_X11_under (70, 0) x (bI b)) vI := by
  have R0 := R
  obtain ⟨H, G, rDay, rBlk, rSam, N, rWa, rWc, rWp, rWl, rWo, rWt, rWf, rWw, rWs, rWk, rCo, rTg, rPa, rTp, rSg, rCm, rSb, rDg⟩ := R
  have hW := N.1
  rcases ix_cases x (n := W) (by omega) with ⟨k, hk, rfl⟩ | hx
  · have h20 : k < 20 := by omega
    refine ok_q R0 (b := (if b = true then blg h (m_gi h 40 0 k) Tn else m_gi h 41 0 k)) (L_under_ret _ _ ?_) ?_
    · simp only [f_X10_under, f_X10_placesOf_22, f_X10_placesOf, ao_69, c_workAt H N hk, bR_ra, gI_27, rWf.1 k hk, rWt.1 k hk, gR_69, pc_tags H, ao_21, c_belongUnder H rTg, bI_ri, bI_eq0]
      cases b <;> rfl
    · skip
      have R2 : RR W Cn Tn Sn Qn (m_si (m_sl h 71 0 0 (vI (if b = true then blg h (m_gi h 40 0 k) Tn else m_gi h 41 0 k))) 70 0 0 0) := rr_eqv ((Frm.refl _ h).sl.si rfl) R0
      have e := r_belongs R2.G R2.rTg R2.rPa h20
      have e1 : blg (m_si (m_sl h 71 0 0 (vI (if b = true then blg h (m_gi h 40 0 k) Tn else m_gi h 41 0 k))) 70 0 0 0) (m_gi (m_si (m_sl h 71 0 0 (vI (if b = true then blg h (m_gi h 40 0 k) Tn else m_gi h 41 0 k))) 70 0 0 0) 40 0 k) Tn = blg h (m_gi h 40 0 k) Tn := blg_eq (g := (m_si (m_sl h 71 0 0 (vI (if b = true then blg h (m_gi h 40 0 k) Tn else m_gi h 41 0 k))) 70 0 0 0)) (h := h) rfl rfl _ _
      rw [e1] at e
      simp (decide := true) only [f_X11_under_40, f_X11_under_14, f_X11_under, ao_70, bI_ri, r_isWork, gi_sl, N.2.2.1, isIx_ok (show W < 10000 by omega) hk, bI_t, r_h0, n10, if_false, e, bI_eq0, gR_70, gr_si, gr_sl, pm_13 G, aI_41 h20, gi_ne]
      cases b <;> rfl
  · refine ok_ex R0 (c := 1) (b := 0) (by decide) (L_under_x0 _ _ ?_) ?_
    · simp (decide := true) only [f_X10_under, nz_0, nz_1, rz_bI, rz_0, rz_1, bI_eq0, bI_t, bI_f, bI_ri, bI_ex, bR_ra, bR_ex, bV_rt, bV_ex, bW_rt, bJ_ri, bIx_ri, bIx_ex, bVx_rt, bVx_ex, gi_ne, gi_eq, gi_sr, gi_sl, gi_th, gi_op, gr_si, gr_sl, gr_th, gr_op, gr_ne, gl_si, gl_sr, gl_th, gl_op, gl_eq, gi_al, gr_al, gl_al, nx_si, nx_sr, nx_sl, nx_th, nx_op, nx_al, nx_als, nc_si, nc_sr, nc_sl, nc_th, nc_op, nc_al, ns_si, ns_sr, ns_sl, ns_th, ns_op, ns_al, gi_neI, aR_2, sR_2, aI_3, sI_3, aI_4, sI_4, aI_5, sI_5, aI_6, sI_6, aI_7, sI_7, aI_8, sI_8, aI_9, sI_9, aI_10, sZ_10, aI_11, sI_11, aI_12, sI_12, aI_13, sI_13, aI_14, sC_14, gI_15, gR_15, pI_15, pR_15, pZ_15, ao_15, pC_15, aI_16, sI_16, aI_17, sI_17, aR_18, sR_18, aR_19, sR_19, aR_20, sR_20, gI_21, gR_21, pI_21, pR_21, pZ_21, ao_21, gI_22, gR_22, pI_22, pR_22, pZ_22, ao_22, gI_23, gR_23, pI_23, pR_23, pZ_23, ao_23, gI_24, gR_24, pI_24, pR_24, pZ_24, ao_24, aR_25, sR_25, gI_26, gR_26, pI_26, pR_26, pZ_26, ao_26, gI_27, gR_27, pI_27, pR_27, pZ_27, ao_27, gI_28, gR_28, pI_28, pR_28, pZ_28, ao_28, gI_29, gR_29, pI_29, pR_29, pZ_29, ao_29, gI_30, gR_30, pI_30, pR_30, pZ_30, ao_30, gI_69, gR_69, pI_69, pR_69, pZ_69, ao_69, pc_same H, pc_people H, pc_works H, pc_cols H, pc_tags H, pc_tape H, pc_sieve H, pc_gifts H, pc_coms H, pc_mean H, pc_par H, pc_abv H, pc_chars H, pc_scan H, pc_parts H, pc_items H, pc_nots H, pc_signs H, pc_recv H, pc_ways H, if_true, if_false, c_workAt_bad N hx]
    · simp (decide := true) only [f_X11_under_40, f_X11_under_14, f_X11_under, nz_0, nz_1, rz_bI, rz_0, rz_1, bI_eq0, bI_t, bI_f, bI_ri, bI_ex, bR_ra, bR_ex, bV_rt, bV_ex, bW_rt, bJ_ri, bIx_ri, bIx_ex, bVx_rt, bVx_ex, gi_ne, gi_eq, gi_sr, gi_sl, gi_th, gi_op, gr_si, gr_sl, gr_th, gr_op, gr_ne, gl_si, gl_sr, gl_th, gl_op, gl_eq, gi_al, gr_al, gl_al, nx_si, nx_sr, nx_sl, nx_th, nx_op, nx_al, nx_als, nc_si, nc_sr, nc_sl, nc_th, nc_op, nc_al, ns_si, ns_sr, ns_sl, ns_th, ns_op, ns_al, gi_neI, aI_31, sZ_31, aI_32, sI_32, aI_33, sI_33, aI_34, sI_34, aI_35, sI_35, aI_36, sI_36, aI_37, sI_37, aI_38, sZ_38, aI_39, sI_39, aI_40, sI_40, aI_41, sI_41, aI_42, sZ_42, aI_43, sZ_43, aI_44, sI_44, aI_45, sI_45, aI_46, sI_46, aI_47, sI_47, aI_48, sI_48, aI_49, sI_49, aI_50, sI_50, aI_51, sZ_51, aI_52, sZ_52, aI_53, sZ_53, aI_54, sI_54, aI_55, sI_55, aI_56, sI_56, aI_57, sI_57, aI_58, sZ_58, aI_59, sI_59, aI_60, sI_60, aI_61, sI_61, aI_62, sI_62, aI_63, sZ_63, aI_64, sZ_64, aI_65, sZ_65, aI_66, sI_66, aI_67, sI_67, aI_68, sZ_68, gI_70, gR_70, pI_70, pR_70, pZ_70, ao_70, aL_71, sL_71, pm_2 G, pm_3 G, pm_5 G, pm_6 G, pm_7 G, pm_8 G, pm_9 G, pm_10 G, pm_11 G, pm_12 G, pm_13 G, pm_14 G, pm_15 G, pm_16 G, pm_18 G, pm_19 G, pm_21 G, pm_22 G, pm_23 G, pm_25 G, pm_26 G, pm_27 G, pm_28 G, pm_31 G, pm_32 G, pm_33 G, pm_34 G, pm_35 G, pm_36 G, pm_38 G, pm_39 G, pm_40 G, pm_41 G, pm_42 G, pm_43 G, pm_44 G, pm_45 G, pm_46 G, r_isWork, r_isTag, r_isPerson, r_isFace, r_h0, r_h1, r_h2, r_h3, n10, n20, n30, n00, if_true, if_false, N.2.2.1, isIx_bad (show W < 10000 by omega) hx]
theorem c_countWith4 {W : Nat} {h : am_H} (H : ShC h) (N : RWn W h) (w : ∀ k, k < W → m_gi h 27 k 7 = m_gi h 40 0 k) {t : Nat} (ht : t < 32) : ∀ (n k : Nat), k ≤ W → W < k + n → f_X10_countWith_4 n (69, 0) (nI t) (nI (cnt (fun j => bt (m_gi h 40 0 j) t) k)) (nI k) h = m_ri h (nI (cnt (fun j => bt (m_gi h 40 0 j) t) W))
  | 0, k, h1, h2 => by omega
  | n + 1, k, h1, h2 => by
    have hW := N.1
    rw [f_X10_countWith_4]
    simp only [gI_69, N.2.1, i_le (show W < 10000 by omega) (show k < 10000 by omega)]
    by_cases hk : W ≤ k
    · rw [if_pos hk, show k = W by omega]
    · rw [if_neg hk]
      have ih := c_countWith4 H N w ht n (k + 1) (by omega) (by omega)
      rw [cnt] at ih
      simp only [gR_69, pc_works H, aR_19 (show k < 20 by omega), (N.2.2.2.2.2 k (by omega)).1, gI_27, w k (by omega), c_has ht, bI_ri, f_X10_countWith_34, nI_1, bI_eq0]
      cases hb : bt (m_gi h 40 0 k) t
      · rw [hb] at ih; simpa using ih
      · rw [hb] at ih; simpa [nI_1] using ih
theorem c_countFiled4 {W : Nat} {h : am_H} (H : ShC h) (N : RWn W h) (w : ∀ k, k < W → m_gi h 27 k 8 = m_gi h 41 0 k) {t : Nat} (ht : t < 32) : ∀ (n k : Nat), k ≤ W → W < k + n → f_X10_countFiledUnder_4 n (69, 0) (nI t) (nI (cnt (fun j => bt (m_gi h 41 0 j) t) k)) (nI k) h = m_ri h (nI (cnt (fun j => bt (m_gi h 41 0 j) t) W))
  | 0, k, h1, h2 => by omega
  | n + 1, k, h1, h2 => by
    have hW := N.1
    rw [f_X10_countFiledUnder_4]
    simp only [gI_69, N.2.1, i_le (show W < 10000 by omega) (show k < 10000 by omega)]
    by_cases hk : W ≤ k
    · rw [if_pos hk, show k = W by omega]
    · rw [if_neg hk]
      have ih := c_countFiled4 H N w ht n (k + 1) (by omega) (by omega)
      rw [cnt] at ih
      simp only [gR_69, pc_works H, aR_19 (show k < 20 by omega), (N.2.2.2.2.2 k (by omega)).1, gI_27, w k (by omega), c_has ht, bI_ri, f_X10_countFiledUnder_34, nI_1, bI_eq0]
      cases hb : bt (m_gi h 41 0 k) t
      · rw [hb] at ih; simpa using ih
      · rw [hb] at ih; simpa [nI_1] using ih
theorem r_ofTag3 {W : Nat} {h : am_H} (G : ShM h) (e : m_gi h 70 0 4 = nI W) (hW : W ≤ 20) {t : Nat} (ht : t < 32) : ∀ (n k : Nat), k ≤ W → W < k + n → f_X11_ofTag_77 n (70, 0) (nI t) 3 (nI (cnt (fun j => bt (m_gi h 40 0 j) t) k)) (nI k) h = m_ri h (nI (cnt (fun j => bt (m_gi h 40 0 j) t) W))
  | 0, k, h1, h2 => by omega
  | n + 1, k, h1, h2 => by
    rw [f_X11_ofTag_77]
    simp only [gI_70, e, i_le (show W < 10000 by omega) (show k < 10000 by omega)]
    by_cases hk : W ≤ k
    · rw [if_pos hk, show k = W by omega]
    · rw [if_neg hk]
      have ih := r_ofTag3 G e hW ht n (k + 1) (by omega) (by omega)
      rw [cnt] at ih
      simp only [if_true, gR_70, pm_12 G, aI_40 (show k < 20 by omega), r_has ht, bI_ri, f_X11_ofTag_109, f_X11_ofTag_121, nI_1, bI_eq0]
      cases hb : bt (m_gi h 40 0 k) t
      · rw [hb] at ih; simpa using ih
      · rw [hb] at ih; simpa [nI_1] using ih
theorem r_ofTag4 {W : Nat} {h : am_H} (G : ShM h) (e : m_gi h 70 0 4 = nI W) (hW : W ≤ 20) {t : Nat} (ht : t < 32) : ∀ (n k : Nat), k ≤ W → W < k + n → f_X11_ofTag_77 n (70, 0) (nI t) 4 (nI (cnt (fun j => bt (m_gi h 41 0 j) t) k)) (nI k) h = m_ri h (nI (cnt (fun j => bt (m_gi h 41 0 j) t) W))
  | 0, k, h1, h2 => by omega
  | n + 1, k, h1, h2 => by
    rw [f_X11_ofTag_77]
    simp only [gI_70, e, i_le (show W < 10000 by omega) (show k < 10000 by omega)]
    by_cases hk : W ≤ k
    · rw [if_pos hk, show k = W by omega]
    · rw [if_neg hk]
      have ih := r_ofTag4 G e hW ht n (k + 1) (by omega) (by omega)
      rw [cnt] at ih
      simp only [show ((4 : Int32) = 3) = False from eq_false (by decide), if_false, gR_70, pm_13 G, aI_41 (show k < 20 by omega), r_has ht, bI_ri, f_X11_ofTag_109, f_X11_ofTag_121, nI_1, bI_eq0]
      cases hb : bt (m_gi h 41 0 k) t
      · rw [hb] at ih; simpa using ih
      · rw [hb] at ih; simpa [nI_1] using ih
theorem op_ofTag {W Cn Tn Sn Qn : Nat} {h : am_H} (R : RR W Cn Tn Sn Qn h) (x y : Int32) : OpOK h (f_L_ofTag (some (69, 0)) x y (some (71, 0)) h) (f_X11_ofTag (70, 0) x y) vI := by
  have R0 := R
  obtain ⟨H, G, rDay, rBlk, rSam, N, rWa, rWc, rWp, rWl, rWo, rWt, rWf, rWw, rWs, rWk, rCo, rTg, rPa, rTp, rSg, rCm, rSb, rDg⟩ := R
  have hW := N.1
  have hT := rTg.1
  have t1 := rTg.2.1
  have t2 := rTg.2.2.1
  rcases ix_cases x (n := Tn) (by omega) with ⟨t, ht, rfl⟩ | hx
  · have h30 : t < 30 := by omega
    rcases ix_cases y (n := 5) (by omega) with ⟨w, hw, rfl⟩ | hy
    · have R2 : ∀ v, RR W Cn Tn Sn Qn (m_si (m_sl h 71 0 0 v) 70 0 0 0) := fun v => rr_eqv ((Frm.refl _ h).sl.si rfl) R0
      rcases (show w = 0 ∨ w = 1 ∨ w = 2 ∨ w = 3 ∨ w = 4 by omega) with e | e | e | e | e <;> subst e
      · refine ok_q R0 (b := m_gi h 47 0 t) (L_ofTag_ret _ _ ?_) ?_
        · rw [nI_0]
          simp (decide := true) only [f_X10_ofTag, nz_0, nz_1, rz_bI, rz_0, rz_1, bI_eq0, bI_t, bI_f, bI_ri, bI_ex, bR_ra, bR_ex, bV_rt, bV_ex, bW_rt, bJ_ri, bIx_ri, bIx_ex, bVx_rt, bVx_ex, gi_ne, gi_eq, gi_sr, gi_sl, gi_th, gi_op, gr_si, gr_sl, gr_th, gr_op, gr_ne, gl_si, gl_sr, gl_th, gl_op, gl_eq, gi_al, gr_al, gl_al, nx_si, nx_sr, nx_sl, nx_th, nx_op, nx_al, nx_als, nc_si, nc_sr, nc_sl, nc_th, nc_op, nc_al, ns_si, ns_sr, ns_sl, ns_th, ns_op, ns_al, gi_neI, aR_2, sR_2, aI_3, sI_3, aI_4, sI_4, aI_5, sI_5, aI_6, sI_6, aI_7, sI_7, aI_8, sI_8, aI_9, sI_9, aI_10, sZ_10, aI_11, sI_11, aI_12, sI_12, aI_13, sI_13, aI_14, sC_14, gI_15, gR_15, pI_15, pR_15, pZ_15, ao_15, pC_15, aI_16, sI_16, aI_17, sI_17, aR_18, sR_18, aR_19, sR_19, aR_20, sR_20, gI_21, gR_21, pI_21, pR_21, pZ_21, ao_21, gI_22, gR_22, pI_22, pR_22, pZ_22, ao_22, gI_23, gR_23, pI_23, pR_23, pZ_23, ao_23, gI_24, gR_24, pI_24, pR_24, pZ_24, ao_24, aR_25, sR_25, gI_26, gR_26, pI_26, pR_26, pZ_26, ao_26, gI_27, gR_27, pI_27, pR_27, pZ_27, ao_27, gI_28, gR_28, pI_28, pR_28, pZ_28, ao_28, gI_29, gR_29, pI_29, pR_29, pZ_29, ao_29, gI_30, gR_30, pI_30, pR_30, pZ_30, ao_30, gI_69, gR_69, pI_69, pR_69, pZ_69, ao_69, pc_same H, pc_people H, pc_works H, pc_cols H, pc_tags H, pc_tape H, pc_sieve H, pc_gifts H, pc_coms H, pc_mean H, pc_par H, pc_abv H, pc_chars H, pc_scan H, pc_parts H, pc_items H, pc_nots H, pc_signs H, pc_recv H, pc_ways H, if_true, if_false, c_checkTag H t1 hT ht, c_kindOf H rTg ht]
        · rw [nI_0]
          simp (decide := true) only [f_X11_ofTag_121, f_X11_ofTag_109, f_X11_ofTag_71, f_X11_ofTag_27, f_X11_ofTag, nz_0, nz_1, rz_bI, rz_0, rz_1, bI_eq0, bI_t, bI_f, bI_ri, bI_ex, bR_ra, bR_ex, bV_rt, bV_ex, bW_rt, bJ_ri, bIx_ri, bIx_ex, bVx_rt, bVx_ex, gi_ne, gi_eq, gi_sr, gi_sl, gi_th, gi_op, gr_si, gr_sl, gr_th, gr_op, gr_ne, gl_si, gl_sr, gl_th, gl_op, gl_eq, gi_al, gr_al, gl_al, nx_si, nx_sr, nx_sl, nx_th, nx_op, nx_al, nx_als, nc_si, nc_sr, nc_sl, nc_th, nc_op, nc_al, ns_si, ns_sr, ns_sl, ns_th, ns_op, ns_al, gi_neI, aI_31, sZ_31, aI_32, sI_32, aI_33, sI_33, aI_34, sI_34, aI_35, sI_35, aI_36, sI_36, aI_37, sI_37, aI_38, sZ_38, aI_39, sI_39, aI_40, sI_40, aI_41, sI_41, aI_42, sZ_42, aI_43, sZ_43, aI_44, sI_44, aI_45, sI_45, aI_46, sI_46, aI_47, sI_47, aI_48, sI_48, aI_49, sI_49, aI_50, sI_50, aI_51, sZ_51, aI_52, sZ_52, aI_53, sZ_53, aI_54, sI_54, aI_55, sI_55, aI_56, sI_56, aI_57, sI_57, aI_58, sZ_58, aI_59, sI_59, aI_60, sI_60, aI_61, sI_61, aI_62, sI_62, aI_63, sZ_63, aI_64, sZ_64, aI_65, sZ_65, aI_66, sI_66, aI_67, sI_67, aI_68, sZ_68, gI_70, gR_70, pI_70, pR_70, pZ_70, ao_70, aL_71, sL_71, pm_2 G, pm_3 G, pm_5 G, pm_6 G, pm_7 G, pm_8 G, pm_9 G, pm_10 G, pm_11 G, pm_12 G, pm_13 G, pm_14 G, pm_15 G, pm_16 G, pm_18 G, pm_19 G, pm_21 G, pm_22 G, pm_23 G, pm_25 G, pm_26 G, pm_27 G, pm_28 G, pm_31 G, pm_32 G, pm_33 G, pm_34 G, pm_35 G, pm_36 G, pm_38 G, pm_39 G, pm_40 G, pm_41 G, pm_42 G, pm_43 G, pm_44 G, pm_45 G, pm_46 G, r_isWork, r_isTag, r_isPerson, r_isFace, r_h0, r_h1, r_h2, r_h3, n10, n20, n30, n00, if_true, if_false, t2, isIx_ok (show Tn < 10000 by omega) ht, r_in, h30]
      · refine ok_q R0 (b := m_gi h 11 0 t) (L_ofTag_ret _ _ ?_) ?_
        · rw [show nI 1 = 1 from rfl]
          simp (decide := true) only [f_X10_ofTag, f_X7_meaningOf, nz_0, nz_1, rz_bI, rz_0, rz_1, bI_eq0, bI_t, bI_f, bI_ri, bI_ex, bR_ra, bR_ex, bV_rt, bV_ex, bW_rt, bJ_ri, bIx_ri, bIx_ex, bVx_rt, bVx_ex, gi_ne, gi_eq, gi_sr, gi_sl, gi_th, gi_op, gr_si, gr_sl, gr_th, gr_op, gr_ne, gl_si, gl_sr, gl_th, gl_op, gl_eq, gi_al, gr_al, gl_al, nx_si, nx_sr, nx_sl, nx_th, nx_op, nx_al, nx_als, nc_si, nc_sr, nc_sl, nc_th, nc_op, nc_al, ns_si, ns_sr, ns_sl, ns_th, ns_op, ns_al, gi_neI, aR_2, sR_2, aI_3, sI_3, aI_4, sI_4, aI_5, sI_5, aI_6, sI_6, aI_7, sI_7, aI_8, sI_8, aI_9, sI_9, aI_10, sZ_10, aI_11, sI_11, aI_12, sI_12, aI_13, sI_13, aI_14, sC_14, gI_15, gR_15, pI_15, pR_15, pZ_15, ao_15, pC_15, aI_16, sI_16, aI_17, sI_17, aR_18, sR_18, aR_19, sR_19, aR_20, sR_20, gI_21, gR_21, pI_21, pR_21, pZ_21, ao_21, gI_22, gR_22, pI_22, pR_22, pZ_22, ao_22, gI_23, gR_23, pI_23, pR_23, pZ_23, ao_23, gI_24, gR_24, pI_24, pR_24, pZ_24, ao_24, aR_25, sR_25, gI_26, gR_26, pI_26, pR_26, pZ_26, ao_26, gI_27, gR_27, pI_27, pR_27, pZ_27, ao_27, gI_28, gR_28, pI_28, pR_28, pZ_28, ao_28, gI_29, gR_29, pI_29, pR_29, pZ_29, ao_29, gI_30, gR_30, pI_30, pR_30, pZ_30, ao_30, gI_69, gR_69, pI_69, pR_69, pZ_69, ao_69, pc_same H, pc_people H, pc_works H, pc_cols H, pc_tags H, pc_tape H, pc_sieve H, pc_gifts H, pc_coms H, pc_mean H, pc_par H, pc_abv H, pc_chars H, pc_scan H, pc_parts H, pc_items H, pc_nots H, pc_signs H, pc_recv H, pc_ways H, if_true, if_false, c_checkTag H t1 hT ht, n10, h30]
        · rw [show nI 1 = 1 from rfl]
          have e := r_meaning (R2 (vI (m_gi h 11 0 t))).G (R2 (vI (m_gi h 11 0 t))).rTg ht
          simp (decide := true) only [f_X11_ofTag_121, f_X11_ofTag_109, f_X11_ofTag_71, f_X11_ofTag_27, f_X11_ofTag, nz_0, nz_1, rz_bI, rz_0, rz_1, bI_eq0, bI_t, bI_f, bI_ri, bI_ex, bR_ra, bR_ex, bV_rt, bV_ex, bW_rt, bJ_ri, bIx_ri, bIx_ex, bVx_rt, bVx_ex, gi_ne, gi_eq, gi_sr, gi_sl, gi_th, gi_op, gr_si, gr_sl, gr_th, gr_op, gr_ne, gl_si, gl_sr, gl_th, gl_op, gl_eq, gi_al, gr_al, gl_al, nx_si, nx_sr, nx_sl, nx_th, nx_op, nx_al, nx_als, nc_si, nc_sr, nc_sl, nc_th, nc_op, nc_al, ns_si, ns_sr, ns_sl, ns_th, ns_op, ns_al, gi_neI, aI_31, sZ_31, aI_32, sI_32, aI_33, sI_33, aI_34, sI_34, aI_35, sI_35, aI_36, sI_36, aI_37, sI_37, aI_38, sZ_38, aI_39, sI_39, aI_40, sI_40, aI_41, sI_41, aI_42, sZ_42, aI_43, sZ_43, aI_44, sI_44, aI_45, sI_45, aI_46, sI_46, aI_47, sI_47, aI_48, sI_48, aI_49, sI_49, aI_50, sI_50, aI_51, sZ_51, aI_52, sZ_52, aI_53, sZ_53, aI_54, sI_54, aI_55, sI_55, aI_56, sI_56, aI_57, sI_57, aI_58, sZ_58, aI_59, sI_59, aI_60, sI_60, aI_61, sI_61, aI_62, sI_62, aI_63, sZ_63, aI_64, sZ_64, aI_65, sZ_65, aI_66, sI_66, aI_67, sI_67, aI_68, sZ_68, gI_70, gR_70, pI_70, pR_70, pZ_70, ao_70, aL_71, sL_71, pm_2 G, pm_3 G, pm_5 G, pm_6 G, pm_7 G, pm_8 G, pm_9 G, pm_10 G, pm_11 G, pm_12 G, pm_13 G, pm_14 G, pm_15 G, pm_16 G, pm_18 G, pm_19 G, pm_21 G, pm_22 G, pm_23 G, pm_25 G, pm_26 G, pm_27 G, pm_28 G, pm_31 G, pm_32 G, pm_33 G, pm_34 G, pm_35 G, pm_36 G, pm_38 G, pm_39 G, pm_40 G, pm_41 G, pm_42 G, pm_43 G, pm_44 G, pm_45 G, pm_46 G, r_isWork, r_isTag, r_isPerson, r_isFace, r_h0, r_h1, r_h2, r_h3, n10, n20, n30, n00, if_true, if_false, t2, isIx_ok (show Tn < 10000 by omega) ht, r_in, h30, e]
      · refine ok_q R0 (b := m_gi h 13 0 t) (L_ofTag_ret _ _ ?_) ?_
        · rw [show nI 2 = 2 from rfl]
          simp (decide := true) only [f_X10_ofTag, f_X7_aboveOf, nz_0, nz_1, rz_bI, rz_0, rz_1, bI_eq0, bI_t, bI_f, bI_ri, bI_ex, bR_ra, bR_ex, bV_rt, bV_ex, bW_rt, bJ_ri, bIx_ri, bIx_ex, bVx_rt, bVx_ex, gi_ne, gi_eq, gi_sr, gi_sl, gi_th, gi_op, gr_si, gr_sl, gr_th, gr_op, gr_ne, gl_si, gl_sr, gl_th, gl_op, gl_eq, gi_al, gr_al, gl_al, nx_si, nx_sr, nx_sl, nx_th, nx_op, nx_al, nx_als, nc_si, nc_sr, nc_sl, nc_th, nc_op, nc_al, ns_si, ns_sr, ns_sl, ns_th, ns_op, ns_al, gi_neI, aR_2, sR_2, aI_3, sI_3, aI_4, sI_4, aI_5, sI_5, aI_6, sI_6, aI_7, sI_7, aI_8, sI_8, aI_9, sI_9, aI_10, sZ_10, aI_11, sI_11, aI_12, sI_12, aI_13, sI_13, aI_14, sC_14, gI_15, gR_15, pI_15, pR_15, pZ_15, ao_15, pC_15, aI_16, sI_16, aI_17, sI_17, aR_18, sR_18, aR_19, sR_19, aR_20, sR_20, gI_21, gR_21, pI_21, pR_21, pZ_21, ao_21, gI_22, gR_22, pI_22, pR_22, pZ_22, ao_22, gI_23, gR_23, pI_23, pR_23, pZ_23, ao_23, gI_24, gR_24, pI_24, pR_24, pZ_24, ao_24, aR_25, sR_25, gI_26, gR_26, pI_26, pR_26, pZ_26, ao_26, gI_27, gR_27, pI_27, pR_27, pZ_27, ao_27, gI_28, gR_28, pI_28, pR_28, pZ_28, ao_28, gI_29, gR_29, pI_29, pR_29, pZ_29, ao_29, gI_30, gR_30, pI_30, pR_30, pZ_30, ao_30, gI_69, gR_69, pI_69, pR_69, pZ_69, ao_69, pc_same H, pc_people H, pc_works H, pc_cols H, pc_tags H, pc_tape H, pc_sieve H, pc_gifts H, pc_coms H, pc_mean H, pc_par H, pc_abv H, pc_chars H, pc_scan H, pc_parts H, pc_items H, pc_nots H, pc_signs H, pc_recv H, pc_ways H, if_true, if_false, c_checkTag H t1 hT ht, n20, h30]
        · rw [show nI 2 = 2 from rfl]
          have e := r_aboveOf (R2 (vI (m_gi h 13 0 t))).G (R2 (vI (m_gi h 13 0 t))).rTg (R2 (vI (m_gi h 13 0 t))).rPa h30
          simp (decide := true) only [f_X11_ofTag_121, f_X11_ofTag_109, f_X11_ofTag_71, f_X11_ofTag_27, f_X11_ofTag, nz_0, nz_1, rz_bI, rz_0, rz_1, bI_eq0, bI_t, bI_f, bI_ri, bI_ex, bR_ra, bR_ex, bV_rt, bV_ex, bW_rt, bJ_ri, bIx_ri, bIx_ex, bVx_rt, bVx_ex, gi_ne, gi_eq, gi_sr, gi_sl, gi_th, gi_op, gr_si, gr_sl, gr_th, gr_op, gr_ne, gl_si, gl_sr, gl_th, gl_op, gl_eq, gi_al, gr_al, gl_al, nx_si, nx_sr, nx_sl, nx_th, nx_op, nx_al, nx_als, nc_si, nc_sr, nc_sl, nc_th, nc_op, nc_al, ns_si, ns_sr, ns_sl, ns_th, ns_op, ns_al, gi_neI, aI_31, sZ_31, aI_32, sI_32, aI_33, sI_33, aI_34, sI_34, aI_35, sI_35, aI_36, sI_36, aI_37, sI_37, aI_38, sZ_38, aI_39, sI_39, aI_40, sI_40, aI_41, sI_41, aI_42, sZ_42, aI_43, sZ_43, aI_44, sI_44, aI_45, sI_45, aI_46, sI_46, aI_47, sI_47, aI_48, sI_48, aI_49, sI_49, aI_50, sI_50, aI_51, sZ_51, aI_52, sZ_52, aI_53, sZ_53, aI_54, sI_54, aI_55, sI_55, aI_56, sI_56, aI_57, sI_57, aI_58, sZ_58, aI_59, sI_59, aI_60, sI_60, aI_61, sI_61, aI_62, sI_62, aI_63, sZ_63, aI_64, sZ_64, aI_65, sZ_65, aI_66, sI_66, aI_67, sI_67, aI_68, sZ_68, gI_70, gR_70, pI_70, pR_70, pZ_70, ao_70, aL_71, sL_71, pm_2 G, pm_3 G, pm_5 G, pm_6 G, pm_7 G, pm_8 G, pm_9 G, pm_10 G, pm_11 G, pm_12 G, pm_13 G, pm_14 G, pm_15 G, pm_16 G, pm_18 G, pm_19 G, pm_21 G, pm_22 G, pm_23 G, pm_25 G, pm_26 G, pm_27 G, pm_28 G, pm_31 G, pm_32 G, pm_33 G, pm_34 G, pm_35 G, pm_36 G, pm_38 G, pm_39 G, pm_40 G, pm_41 G, pm_42 G, pm_43 G, pm_44 G, pm_45 G, pm_46 G, r_isWork, r_isTag, r_isPerson, r_isFace, r_h0, r_h1, r_h2, r_h3, n10, n20, n30, n00, if_true, if_false, t2, isIx_ok (show Tn < 10000 by omega) ht, r_in, h30, e]
      · refine ok_q R0 (b := nI (cnt (fun j => bt (m_gi h 40 0 j) t) W)) (L_ofTag_ret _ _ ?_) ?_
        · rw [show nI 3 = 3 from rfl]
          have e := c_countWith4 H N rWt.1 (show t < 32 by omega) 5000 0 (by omega) (by omega)
          rw [cnt, nI_0] at e
          simp (decide := true) only [f_X10_ofTag, f_X10_countWith_34, f_X10_countWith, nz_0, nz_1, rz_bI, rz_0, rz_1, bI_eq0, bI_t, bI_f, bI_ri, bI_ex, bR_ra, bR_ex, bV_rt, bV_ex, bW_rt, bJ_ri, bIx_ri, bIx_ex, bVx_rt, bVx_ex, gi_ne, gi_eq, gi_sr, gi_sl, gi_th, gi_op, gr_si, gr_sl, gr_th, gr_op, gr_ne, gl_si, gl_sr, gl_th, gl_op, gl_eq, gi_al, gr_al, gl_al, nx_si, nx_sr, nx_sl, nx_th, nx_op, nx_al, nx_als, nc_si, nc_sr, nc_sl, nc_th, nc_op, nc_al, ns_si, ns_sr, ns_sl, ns_th, ns_op, ns_al, gi_neI, aR_2, sR_2, aI_3, sI_3, aI_4, sI_4, aI_5, sI_5, aI_6, sI_6, aI_7, sI_7, aI_8, sI_8, aI_9, sI_9, aI_10, sZ_10, aI_11, sI_11, aI_12, sI_12, aI_13, sI_13, aI_14, sC_14, gI_15, gR_15, pI_15, pR_15, pZ_15, ao_15, pC_15, aI_16, sI_16, aI_17, sI_17, aR_18, sR_18, aR_19, sR_19, aR_20, sR_20, gI_21, gR_21, pI_21, pR_21, pZ_21, ao_21, gI_22, gR_22, pI_22, pR_22, pZ_22, ao_22, gI_23, gR_23, pI_23, pR_23, pZ_23, ao_23, gI_24, gR_24, pI_24, pR_24, pZ_24, ao_24, aR_25, sR_25, gI_26, gR_26, pI_26, pR_26, pZ_26, ao_26, gI_27, gR_27, pI_27, pR_27, pZ_27, ao_27, gI_28, gR_28, pI_28, pR_28, pZ_28, ao_28, gI_29, gR_29, pI_29, pR_29, pZ_29, ao_29, gI_30, gR_30, pI_30, pR_30, pZ_30, ao_30, gI_69, gR_69, pI_69, pR_69, pZ_69, ao_69, pc_same H, pc_people H, pc_works H, pc_cols H, pc_tags H, pc_tape H, pc_sieve H, pc_gifts H, pc_coms H, pc_mean H, pc_par H, pc_abv H, pc_chars H, pc_scan H, pc_parts H, pc_items H, pc_nots H, pc_signs H, pc_recv H, pc_ways H, if_true, if_false, c_checkTag H t1 hT ht, n30, e]
        · rw [show nI 3 = 3 from rfl]
          have e := r_ofTag3 (h := (m_si (m_sl h 71 0 0 (vI (nI (cnt (fun j => bt (m_gi h 40 0 j) t) W)))) 70 0 0 0)) (R2 _).G (R2 _).N.2.2.1 hW (show t < 32 by omega) 5000 0 (by omega) (by omega)
          rw [cnt, nI_0] at e
          simp (decide := true) only [f_X11_ofTag_121, f_X11_ofTag_109, f_X11_ofTag_71, f_X11_ofTag_27, f_X11_ofTag, nz_0, nz_1, rz_bI, rz_0, rz_1, bI_eq0, bI_t, bI_f, bI_ri, bI_ex, bR_ra, bR_ex, bV_rt, bV_ex, bW_rt, bJ_ri, bIx_ri, bIx_ex, bVx_rt, bVx_ex, gi_ne, gi_eq, gi_sr, gi_sl, gi_th, gi_op, gr_si, gr_sl, gr_th, gr_op, gr_ne, gl_si, gl_sr, gl_th, gl_op, gl_eq, gi_al, gr_al, gl_al, nx_si, nx_sr, nx_sl, nx_th, nx_op, nx_al, nx_als, nc_si, nc_sr, nc_sl, nc_th, nc_op, nc_al, ns_si, ns_sr, ns_sl, ns_th, ns_op, ns_al, gi_neI, aI_31, sZ_31, aI_32, sI_32, aI_33, sI_33, aI_34, sI_34, aI_35, sI_35, aI_36, sI_36, aI_37, sI_37, aI_38, sZ_38, aI_39, sI_39, aI_40, sI_40, aI_41, sI_41, aI_42, sZ_42, aI_43, sZ_43, aI_44, sI_44, aI_45, sI_45, aI_46, sI_46, aI_47, sI_47, aI_48, sI_48, aI_49, sI_49, aI_50, sI_50, aI_51, sZ_51, aI_52, sZ_52, aI_53, sZ_53, aI_54, sI_54, aI_55, sI_55, aI_56, sI_56, aI_57, sI_57, aI_58, sZ_58, aI_59, sI_59, aI_60, sI_60, aI_61, sI_61, aI_62, sI_62, aI_63, sZ_63, aI_64, sZ_64, aI_65, sZ_65, aI_66, sI_66, aI_67, sI_67, aI_68, sZ_68, gI_70, gR_70, pI_70, pR_70, pZ_70, ao_70, aL_71, sL_71, pm_2 G, pm_3 G, pm_5 G, pm_6 G, pm_7 G, pm_8 G, pm_9 G, pm_10 G, pm_11 G, pm_12 G, pm_13 G, pm_14 G, pm_15 G, pm_16 G, pm_18 G, pm_19 G, pm_21 G, pm_22 G, pm_23 G, pm_25 G, pm_26 G, pm_27 G, pm_28 G, pm_31 G, pm_32 G, pm_33 G, pm_34 G, pm_35 G, pm_36 G, pm_38 G, pm_39 G, pm_40 G, pm_41 G, pm_42 G, pm_43 G, pm_44 G, pm_45 G, pm_46 G, r_isWork, r_isTag, r_isPerson, r_isFace, r_h0, r_h1, r_h2, r_h3, n10, n20, n30, n00, if_true, if_false, t2, isIx_ok (show Tn < 10000 by omega) ht, r_in, h30]
          exact e
      · refine ok_q R0 (b := nI (cnt (fun j => bt (m_gi h 41 0 j) t) W)) (L_ofTag_ret _ _ ?_) ?_
        · rw [show nI 4 = 4 from rfl]
          have e := c_countFiled4 H N rWf.1 (show t < 32 by omega) 5000 0 (by omega) (by omega)
          rw [cnt, nI_0] at e
          simp (decide := true) only [f_X10_ofTag, f_X10_countFiledUnder_34, f_X10_countFiledUnder, nz_0, nz_1, rz_bI, rz_0, rz_1, bI_eq0, bI_t, bI_f, bI_ri, bI_ex, bR_ra, bR_ex, bV_rt, bV_ex, bW_rt, bJ_ri, bIx_ri, bIx_ex, bVx_rt, bVx_ex, gi_ne, gi_eq, gi_sr, gi_sl, gi_th, gi_op, gr_si, gr_sl, gr_th, gr_op, gr_ne, gl_si, gl_sr, gl_th, gl_op, gl_eq, gi_al, gr_al, gl_al, nx_si, nx_sr, nx_sl, nx_th, nx_op, nx_al, nx_als, nc_si, nc_sr, nc_sl, nc_th, nc_op, nc_al, ns_si, ns_sr, ns_sl, ns_th, ns_op, ns_al, gi_neI, aR_2, sR_2, aI_3, sI_3, aI_4, sI_4, aI_5, sI_5, aI_6, sI_6, aI_7, sI_7, aI_8, sI_8, aI_9, sI_9, aI_10, sZ_10, aI_11, sI_11, aI_12, sI_12, aI_13, sI_13, aI_14, sC_14, gI_15, gR_15, pI_15, pR_15, pZ_15, ao_15, pC_15, aI_16, sI_16, aI_17, sI_17, aR_18, sR_18, aR_19, sR_19, aR_20, sR_20, gI_21, gR_21, pI_21, pR_21, pZ_21, ao_21, gI_22, gR_22, pI_22, pR_22, pZ_22, ao_22, gI_23, gR_23, pI_23, pR_23, pZ_23, ao_23, gI_24, gR_24, pI_24, pR_24, pZ_24, ao_24, aR_25, sR_25, gI_26, gR_26, pI_26, pR_26, pZ_26, ao_26, gI_27, gR_27, pI_27, pR_27, pZ_27, ao_27, gI_28, gR_28, pI_28, pR_28, pZ_28, ao_28, gI_29, gR_29, pI_29, pR_29, pZ_29, ao_29, gI_30, gR_30, pI_30, pR_30, pZ_30, ao_30, gI_69, gR_69, pI_69, pR_69, pZ_69, ao_69, pc_same H, pc_people H, pc_works H, pc_cols H, pc_tags H, pc_tape H, pc_sieve H, pc_gifts H, pc_coms H, pc_mean H, pc_par H, pc_abv H, pc_chars H, pc_scan H, pc_parts H, pc_items H, pc_nots H, pc_signs H, pc_recv H, pc_ways H, if_true, if_false, c_checkTag H t1 hT ht, e]
        · rw [show nI 4 = 4 from rfl]
          have e := r_ofTag4 (h := (m_si (m_sl h 71 0 0 (vI (nI (cnt (fun j => bt (m_gi h 41 0 j) t) W)))) 70 0 0 0)) (R2 _).G (R2 _).N.2.2.1 hW (show t < 32 by omega) 5000 0 (by omega) (by omega)
          rw [cnt, nI_0] at e
          simp (decide := true) only [f_X11_ofTag_121, f_X11_ofTag_109, f_X11_ofTag_71, f_X11_ofTag_27, f_X11_ofTag, nz_0, nz_1, rz_bI, rz_0, rz_1, bI_eq0, bI_t, bI_f, bI_ri, bI_ex, bR_ra, bR_ex, bV_rt, bV_ex, bW_rt, bJ_ri, bIx_ri, bIx_ex, bVx_rt, bVx_ex, gi_ne, gi_eq, gi_sr, gi_sl, gi_th, gi_op, gr_si, gr_sl, gr_th, gr_op, gr_ne, gl_si, gl_sr, gl_th, gl_op, gl_eq, gi_al, gr_al, gl_al, nx_si, nx_sr, nx_sl, nx_th, nx_op, nx_al, nx_als, nc_si, nc_sr, nc_sl, nc_th, nc_op, nc_al, ns_si, ns_sr, ns_sl, ns_th, ns_op, ns_al, gi_neI, aI_31, sZ_31, aI_32, sI_32, aI_33, sI_33, aI_34, sI_34, aI_35, sI_35, aI_36, sI_36, aI_37, sI_37, aI_38, sZ_38, aI_39, sI_39, aI_40, sI_40, aI_41, sI_41, aI_42, sZ_42, aI_43, sZ_43, aI_44, sI_44, aI_45, sI_45, aI_46, sI_46, aI_47, sI_47, aI_48, sI_48, aI_49, sI_49, aI_50, sI_50, aI_51, sZ_51, aI_52, sZ_52, aI_53, sZ_53, aI_54, sI_54, aI_55, sI_55, aI_56, sI_56, aI_57, sI_57, aI_58, sZ_58, aI_59, sI_59, aI_60, sI_60, aI_61, sI_61, aI_62, sI_62, aI_63, sZ_63, aI_64, sZ_64, aI_65, sZ_65, aI_66, sI_66, aI_67, sI_67, aI_68, sZ_68, gI_70, gR_70, pI_70, pR_70, pZ_70, ao_70, aL_71, sL_71, pm_2 G, pm_3 G, pm_5 G, pm_6 G, pm_7 G, pm_8 G, pm_9 G, pm_10 G, pm_11 G, pm_12 G, pm_13 G, pm_14 G, pm_15 G, pm_16 G, pm_18 G, pm_19 G, pm_21 G, pm_22 G, pm_23 G, pm_25 G, pm_26 G, pm_27 G, pm_28 G, pm_31 G, pm_32 G, pm_33 G, pm_34 G, pm_35 G, pm_36 G, pm_38 G, pm_39 G, pm_40 G, pm_41 G, pm_42 G, pm_43 G, pm_44 G, pm_45 G, pm_46 G, r_isWork, r_isTag, r_isPerson, r_isFace, r_h0, r_h1, r_h2, r_h3, n10, n20, n30, n00, if_true, if_false, t2, isIx_ok (show Tn < 10000 by omega) ht, r_in, h30]
          exact e
    · have d : decide (¬ y < 0 ∧ ¬ 4 < y) = false := isIx_bad (n := 5) (by omega) hy
      have ne : ∀ k, k < 5 → ¬ y = nI k := fun k hk z => by
        subst z
        rcases hy with hy | hy
        · exact nI_pos (by omega) hy
        · exact nI_ge hk (by omega) hy
      have n0 : ¬ y = 0 := ne 0 (by omega)
      have n1 : ¬ y = 1 := ne 1 (by omega)
      have n2 : ¬ y = 2 := ne 2 (by omega)
      have n3 : ¬ y = 3 := ne 3 (by omega)
      have n4 : ¬ y = 4 := ne 4 (by omega)
      refine ok_ex R0 (c := 2) (b := 0) (by decide) (L_ofTag_x1 _ _ ?_) ?_
      · simp (decide := true) only [f_X10_ofTag, nz_0, nz_1, rz_bI, rz_0, rz_1, bI_eq0, bI_t, bI_f, bI_ri, bI_ex, bR_ra, bR_ex, bV_rt, bV_ex, bW_rt, bJ_ri, bIx_ri, bIx_ex, bVx_rt, bVx_ex, gi_ne, gi_eq, gi_sr, gi_sl, gi_th, gi_op, gr_si, gr_sl, gr_th, gr_op, gr_ne, gl_si, gl_sr, gl_th, gl_op, gl_eq, gi_al, gr_al, gl_al, nx_si, nx_sr, nx_sl, nx_th, nx_op, nx_al, nx_als, nc_si, nc_sr, nc_sl, nc_th, nc_op, nc_al, ns_si, ns_sr, ns_sl, ns_th, ns_op, ns_al, gi_neI, aR_2, sR_2, aI_3, sI_3, aI_4, sI_4, aI_5, sI_5, aI_6, sI_6, aI_7, sI_7, aI_8, sI_8, aI_9, sI_9, aI_10, sZ_10, aI_11, sI_11, aI_12, sI_12, aI_13, sI_13, aI_14, sC_14, gI_15, gR_15, pI_15, pR_15, pZ_15, ao_15, pC_15, aI_16, sI_16, aI_17, sI_17, aR_18, sR_18, aR_19, sR_19, aR_20, sR_20, gI_21, gR_21, pI_21, pR_21, pZ_21, ao_21, gI_22, gR_22, pI_22, pR_22, pZ_22, ao_22, gI_23, gR_23, pI_23, pR_23, pZ_23, ao_23, gI_24, gR_24, pI_24, pR_24, pZ_24, ao_24, aR_25, sR_25, gI_26, gR_26, pI_26, pR_26, pZ_26, ao_26, gI_27, gR_27, pI_27, pR_27, pZ_27, ao_27, gI_28, gR_28, pI_28, pR_28, pZ_28, ao_28, gI_29, gR_29, pI_29, pR_29, pZ_29, ao_29, gI_30, gR_30, pI_30, pR_30, pZ_30, ao_30, gI_69, gR_69, pI_69, pR_69, pZ_69, ao_69, pc_same H, pc_people H, pc_works H, pc_cols H, pc_tags H, pc_tape H, pc_sieve H, pc_gifts H, pc_coms H, pc_mean H, pc_par H, pc_abv H, pc_chars H, pc_scan H, pc_parts H, pc_items H, pc_nots H, pc_signs H, pc_recv H, pc_ways H, if_true, if_false, c_checkTag H t1 hT ht, n0, n1, n2, n3, n4]
      · simp (decide := true) only [f_X11_ofTag_121, f_X11_ofTag_109, f_X11_ofTag_71, f_X11_ofTag_27, f_X11_ofTag, nz_0, nz_1, rz_bI, rz_0, rz_1, bI_eq0, bI_t, bI_f, bI_ri, bI_ex, bR_ra, bR_ex, bV_rt, bV_ex, bW_rt, bJ_ri, bIx_ri, bIx_ex, bVx_rt, bVx_ex, gi_ne, gi_eq, gi_sr, gi_sl, gi_th, gi_op, gr_si, gr_sl, gr_th, gr_op, gr_ne, gl_si, gl_sr, gl_th, gl_op, gl_eq, gi_al, gr_al, gl_al, nx_si, nx_sr, nx_sl, nx_th, nx_op, nx_al, nx_als, nc_si, nc_sr, nc_sl, nc_th, nc_op, nc_al, ns_si, ns_sr, ns_sl, ns_th, ns_op, ns_al, gi_neI, aI_31, sZ_31, aI_32, sI_32, aI_33, sI_33, aI_34, sI_34, aI_35, sI_35, aI_36, sI_36, aI_37, sI_37, aI_38, sZ_38, aI_39, sI_39, aI_40, sI_40, aI_41, sI_41, aI_42, sZ_42, aI_43, sZ_43, aI_44, sI_44, aI_45, sI_45, aI_46, sI_46, aI_47, sI_47, aI_48, sI_48, aI_49, sI_49, aI_50, sI_50, aI_51, sZ_51, aI_52, sZ_52, aI_53, sZ_53, aI_54, sI_54, aI_55, sI_55, aI_56, sI_56, aI_57, sI_57, aI_58, sZ_58, aI_59, sI_59, aI_60, sI_60, aI_61, sI_61, aI_62, sI_62, aI_63, sZ_63, aI_64, sZ_64, aI_65, sZ_65, aI_66, sI_66, aI_67, sI_67, aI_68, sZ_68, gI_70, gR_70, pI_70, pR_70, pZ_70, ao_70, aL_71, sL_71, pm_2 G, pm_3 G, pm_5 G, pm_6 G, pm_7 G, pm_8 G, pm_9 G, pm_10 G, pm_11 G, pm_12 G, pm_13 G, pm_14 G, pm_15 G, pm_16 G, pm_18 G, pm_19 G, pm_21 G, pm_22 G, pm_23 G, pm_25 G, pm_26 G, pm_27 G, pm_28 G, pm_31 G, pm_32 G, pm_33 G, pm_34 G, pm_35 G, pm_36 G, pm_38 G, pm_39 G, pm_40 G, pm_41 G, pm_42 G, pm_43 G, pm_44 G, pm_45 G, pm_46 G, r_isWork, r_isTag, r_isPerson, r_isFace, r_h0, r_h1, r_h2, r_h3, n10, n20, n30, n00, if_true, if_false, t2, isIx_ok (show Tn < 10000 by omega) ht, r_in, d]
  · refine ok_ex R0 (c := 1) (b := 0) (by decide) (L_ofTag_x0 _ _ ?_) ?_
    · simp (decide := true) only [f_X10_ofTag, nz_0, nz_1, rz_bI, rz_0, rz_1, bI_eq0, bI_t, bI_f, bI_ri, bI_ex, bR_ra, bR_ex, bV_rt, bV_ex, bW_rt, bJ_ri, bIx_ri, bIx_ex, bVx_rt, bVx_ex, gi_ne, gi_eq, gi_sr, gi_sl, gi_th, gi_op, gr_si, gr_sl, gr_th, gr_op, gr_ne, gl_si, gl_sr, gl_th, gl_op, gl_eq, gi_al, gr_al, gl_al, nx_si, nx_sr, nx_sl, nx_th, nx_op, nx_al, nx_als, nc_si, nc_sr, nc_sl, nc_th, nc_op, nc_al, ns_si, ns_sr, ns_sl, ns_th, ns_op, ns_al, gi_neI, aR_2, sR_2, aI_3, sI_3, aI_4, sI_4, aI_5, sI_5, aI_6, sI_6, aI_7, sI_7, aI_8, sI_8, aI_9, sI_9, aI_10, sZ_10, aI_11, sI_11, aI_12, sI_12, aI_13, sI_13, aI_14, sC_14, gI_15, gR_15, pI_15, pR_15, pZ_15, ao_15, pC_15, aI_16, sI_16, aI_17, sI_17, aR_18, sR_18, aR_19, sR_19, aR_20, sR_20, gI_21, gR_21, pI_21, pR_21, pZ_21, ao_21, gI_22, gR_22, pI_22, pR_22, pZ_22, ao_22, gI_23, gR_23, pI_23, pR_23, pZ_23, ao_23, gI_24, gR_24, pI_24, pR_24, pZ_24, ao_24, aR_25, sR_25, gI_26, gR_26, pI_26, pR_26, pZ_26, ao_26, gI_27, gR_27, pI_27, pR_27, pZ_27, ao_27, gI_28, gR_28, pI_28, pR_28, pZ_28, ao_28, gI_29, gR_29, pI_29, pR_29, pZ_29, ao_29, gI_30, gR_30, pI_30, pR_30, pZ_30, ao_30, gI_69, gR_69, pI_69, pR_69, pZ_69, ao_69, pc_same H, pc_people H, pc_works H, pc_cols H, pc_tags H, pc_tape H, pc_sieve H, pc_gifts H, pc_coms H, pc_mean H, pc_par H, pc_abv H, pc_chars H, pc_scan H, pc_parts H, pc_items H, pc_nots H, pc_signs H, pc_recv H, pc_ways H, if_true, if_false, c_checkTag_bad H t1 hx]
    · simp (decide := true) only [f_X11_ofTag_121, f_X11_ofTag_109, f_X11_ofTag_71, f_X11_ofTag_27, f_X11_ofTag, nz_0, nz_1, rz_bI, rz_0, rz_1, bI_eq0, bI_t, bI_f, bI_ri, bI_ex, bR_ra, bR_ex, bV_rt, bV_ex, bW_rt, bJ_ri, bIx_ri, bIx_ex, bVx_rt, bVx_ex, gi_ne, gi_eq, gi_sr, gi_sl, gi_th, gi_op, gr_si, gr_sl, gr_th, gr_op, gr_ne, gl_si, gl_sr, gl_th, gl_op, gl_eq, gi_al, gr_al, gl_al, nx_si, nx_sr, nx_sl, nx_th, nx_op, nx_al, nx_als, nc_si, nc_sr, nc_sl, nc_th, nc_op, nc_al, ns_si, ns_sr, ns_sl, ns_th, ns_op, ns_al, gi_neI, aI_31, sZ_31, aI_32, sI_32, aI_33, sI_33, aI_34, sI_34, aI_35, sI_35, aI_36, sI_36, aI_37, sI_37, aI_38, sZ_38, aI_39, sI_39, aI_40, sI_40, aI_41, sI_41, aI_42, sZ_42, aI_43, sZ_43, aI_44, sI_44, aI_45, sI_45, aI_46, sI_46, aI_47, sI_47, aI_48, sI_48, aI_49, sI_49, aI_50, sI_50, aI_51, sZ_51, aI_52, sZ_52, aI_53, sZ_53, aI_54, sI_54, aI_55, sI_55, aI_56, sI_56, aI_57, sI_57, aI_58, sZ_58, aI_59, sI_59, aI_60, sI_60, aI_61, sI_61, aI_62, sI_62, aI_63, sZ_63, aI_64, sZ_64, aI_65, sZ_65, aI_66, sI_66, aI_67, sI_67, aI_68, sZ_68, gI_70, gR_70, pI_70, pR_70, pZ_70, ao_70, aL_71, sL_71, pm_2 G, pm_3 G, pm_5 G, pm_6 G, pm_7 G, pm_8 G, pm_9 G, pm_10 G, pm_11 G, pm_12 G, pm_13 G, pm_14 G, pm_15 G, pm_16 G, pm_18 G, pm_19 G, pm_21 G, pm_22 G, pm_23 G, pm_25 G, pm_26 G, pm_27 G, pm_28 G, pm_31 G, pm_32 G, pm_33 G, pm_34 G, pm_35 G, pm_36 G, pm_38 G, pm_39 G, pm_40 G, pm_41 G, pm_42 G, pm_43 G, pm_44 G, pm_45 G, pm_46 G, r_isWork, r_isTag, r_isPerson, r_isFace, r_h0, r_h1, r_h2, r_h3, n10, n20, n30, n00, if_true, if_false, t2, isIx_bad (show Tn < 10000 by omega) hx]
theorem op_put {W Cn Tn Sn Qn : Nat} {h : am_H} (R : RR W Cn Tn Sn Qn h) (x y : Int32) (b : Bool) : OpOK h (f_L_put (some (69, 0)) x y (bI b) (some (71, 0)) h) (f_X11_put (70, 0) x y (bI b)) vB := by
  have R0 := R
  obtain ⟨H, G, rDay, rBlk, rSam, N, rWa, rWc, rWp, rWl, rWo, rWt, rWf, rWw, rWs, rWk, rCo, rTg, rPa, rTp, rSg, rCm, rSb, rDg⟩ := R
  have hW := N.1
  have hT := rTg.1
  have t1 := rTg.2.1
  have t2 := rTg.2.2.1
  rcases ix_cases x (n := W) (by omega) with ⟨k, hk, rfl⟩ | hx
  · have h20 : k < 20 := by omega
    rcases ix_cases y (n := Tn) (by omega) with ⟨t, ht, rfl⟩ | hy
    · have h32 : t < 32 := by omega
      have Fa : Frm (pX [(27, 7)] []) h (m_si h 27 k 7 (wi (m_gi h 40 0 k) t b)) := ((Frm.refl _ h).si rfl)
      have Fb : Frm (pX [(27, 7), (27, 8), (27, 9)] [40]) h (m_si (m_si (m_sl (m_si (m_si (m_si h 27 k 7 (wi (m_gi h 40 0 k) t b)) 27 k 8 (blg h (wi (m_gi h 40 0 k) t b) Tn)) 27 k 9 0) 71 0 0 (vB (bI (bt (m_gi h 40 0 k) t)))) 70 0 0 0) 40 0 k (wi (m_gi h 40 0 k) t b)) := (((((((Frm.refl _ h).si rfl).si rfl).si rfl).sl).si rfl).si rfl)
      have F : Frm (pX [(27, 7), (27, 8), (27, 9)] [40, 41, 42]) h (m_si (m_si (m_si (m_si (m_sl (m_si (m_si (m_si h 27 k 7 (wi (m_gi h 40 0 k) t b)) 27 k 8 (blg h (wi (m_gi h 40 0 k) t b) Tn)) 27 k 9 0) 71 0 0 (vB (bI (bt (m_gi h 40 0 k) t)))) 70 0 0 0) 40 0 k (wi (m_gi h 40 0 k) t b)) 41 0 k (blg h (wi (m_gi h 40 0 k) t b) Tn)) 42 0 k 0) := (((((((((Frm.refl _ h).si rfl).si rfl).si rfl).sl).si rfl).si rfl).si rfl).si rfl)
      have ea : f_X7_belongUnder (21, 0) (wi (m_gi h 40 0 k) t b) (m_si h 27 k 7 (wi (m_gi h 40 0 k) t b)) = m_ri (m_si h 27 k 7 (wi (m_gi h 40 0 k) t b)) (blg h (wi (m_gi h 40 0 k) t b) Tn) := by
        rw [c_belongUnder (H.frm Fa) (rTg.frm Fa), blg_eq (g := (m_si h 27 k 7 (wi (m_gi h 40 0 k) t b))) (h := h) rfl rfl]
      have eb : f_X11_belongs (70, 0) (nI k) (m_si (m_si (m_sl (m_si (m_si (m_si h 27 k 7 (wi (m_gi h 40 0 k) t b)) 27 k 8 (blg h (wi (m_gi h 40 0 k) t b) Tn)) 27 k 9 0) 71 0 0 (vB (bI (bt (m_gi h 40 0 k) t)))) 70 0 0 0) 40 0 k (wi (m_gi h 40 0 k) t b)) = m_ri (m_si (m_si (m_sl (m_si (m_si (m_si h 27 k 7 (wi (m_gi h 40 0 k) t b)) 27 k 8 (blg h (wi (m_gi h 40 0 k) t b) Tn)) 27 k 9 0) 71 0 0 (vB (bI (bt (m_gi h 40 0 k) t)))) 70 0 0 0) 40 0 k (wi (m_gi h 40 0 k) t b)) (blg h (wi (m_gi h 40 0 k) t b) Tn) := by
        rw [r_belongs (G.frm Fb) (rTg.frm Fb) (rPa.frm Fb) h20, gi_eq, blg_eq (g := (m_si (m_si (m_sl (m_si (m_si (m_si h 27 k 7 (wi (m_gi h 40 0 k) t b)) 27 k 8 (blg h (wi (m_gi h 40 0 k) t b) Tn)) 27 k 9 0) 71 0 0 (vB (bI (bt (m_gi h 40 0 k) t)))) 70 0 0 0) 40 0 k (wi (m_gi h 40 0 k) t b))) (h := h) rfl rfl]
      refine ok_u (h1 := (m_si (m_si (m_si h 27 k 7 (wi (m_gi h 40 0 k) t b)) 27 k 8 (blg h (wi (m_gi h 40 0 k) t b) Tn)) 27 k 9 0)) (b := (bI (bt (m_gi h 40 0 k) t))) (h2 := (m_si (m_si (m_si (m_si (m_sl (m_si (m_si (m_si h 27 k 7 (wi (m_gi h 40 0 k) t b)) 27 k 8 (blg h (wi (m_gi h 40 0 k) t b) Tn)) 27 k 9 0) 71 0 0 (vB (bI (bt (m_gi h 40 0 k) t)))) 70 0 0 0) 40 0 k (wi (m_gi h 40 0 k) t b)) 41 0 k (blg h (wi (m_gi h 40 0 k) t b) Tn)) 42 0 k 0)) (L_put_ret _ _ _ ?_) ?_ rfl rfl rfl rfl (Nat.le_add_right _ _) (Nat.le_add_right _ _) ?_
      · simp (decide := true) only [f_X10_put, f_X9_fileUnder, nz_0, nz_1, rz_bI, rz_0, rz_1, bI_eq0, bI_t, bI_f, bI_ri, bI_ex, bR_ra, bR_ex, bV_rt, bV_ex, bW_rt, bJ_ri, bIx_ri, bIx_ex, bVx_rt, bVx_ex, gi_ne, gi_eq, gi_sr, gi_sl, gi_th, gi_op, gr_si, gr_sl, gr_th, gr_op, gr_ne, gl_si, gl_sr, gl_th, gl_op, gl_eq, gi_al, gr_al, gl_al, nx_si, nx_sr, nx_sl, nx_th, nx_op, nx_al, nx_als, nc_si, nc_sr, nc_sl, nc_th, nc_op, nc_al, ns_si, ns_sr, ns_sl, ns_th, ns_op, ns_al, gi_neI, aR_2, sR_2, aI_3, sI_3, aI_4, sI_4, aI_5, sI_5, aI_6, sI_6, aI_7, sI_7, aI_8, sI_8, aI_9, sI_9, aI_10, sZ_10, aI_11, sI_11, aI_12, sI_12, aI_13, sI_13, aI_14, sC_14, gI_15, gR_15, pI_15, pR_15, pZ_15, ao_15, pC_15, aI_16, sI_16, aI_17, sI_17, aR_18, sR_18, aR_19, sR_19, aR_20, sR_20, gI_21, gR_21, pI_21, pR_21, pZ_21, ao_21, gI_22, gR_22, pI_22, pR_22, pZ_22, ao_22, gI_23, gR_23, pI_23, pR_23, pZ_23, ao_23, gI_24, gR_24, pI_24, pR_24, pZ_24, ao_24, aR_25, sR_25, gI_26, gR_26, pI_26, pR_26, pZ_26, ao_26, gI_27, gR_27, pI_27, pR_27, pZ_27, ao_27, gI_28, gR_28, pI_28, pR_28, pZ_28, ao_28, gI_29, gR_29, pI_29, pR_29, pZ_29, ao_29, gI_30, gR_30, pI_30, pR_30, pZ_30, ao_30, gI_69, gR_69, pI_69, pR_69, pZ_69, ao_69, pc_same H, pc_people H, pc_works H, pc_cols H, pc_tags H, pc_tape H, pc_sieve H, pc_gifts H, pc_coms H, pc_mean H, pc_par H, pc_abv H, pc_chars H, pc_scan H, pc_parts H, pc_items H, pc_nots H, pc_signs H, pc_recv H, pc_ways H, if_true, if_false, c_workAt H N hk, c_checkTag H t1 hT ht, rWt.1 k hk, c_has h32, c_with, ea, pZ_27 nz_0]
      · skip
        have fin : ∀ K : Int32, (m_gi h 40 0 k &&& (one t ^^^ (-1))) ||| K = (wi (m_gi h 40 0 k) t b) → f_X11_put_70 (70, 0) (nI k) (bI (bt (m_gi h 40 0 k) t)) K (m_gi h 40 0 k &&& (one t ^^^ (-1))) (nI k) (some (40, 0)) (m_si (m_sl (m_si (m_si (m_si h 27 k 7 (wi (m_gi h 40 0 k) t b)) 27 k 8 (blg h (wi (m_gi h 40 0 k) t b) Tn)) 27 k 9 0) 71 0 0 (vB (bI (bt (m_gi h 40 0 k) t)))) 70 0 0 0) = m_ri (m_si (m_si (m_si (m_si (m_sl (m_si (m_si (m_si h 27 k 7 (wi (m_gi h 40 0 k) t b)) 27 k 8 (blg h (wi (m_gi h 40 0 k) t b) Tn)) 27 k 9 0) 71 0 0 (vB (bI (bt (m_gi h 40 0 k) t)))) 70 0 0 0) 40 0 k (wi (m_gi h 40 0 k) t b)) 41 0 k (blg h (wi (m_gi h 40 0 k) t b) Tn)) 42 0 k 0) (bI (bt (m_gi h 40 0 k) t)) := fun K hK => by
          rw [f_X11_put_70, sI_40 h20, hK]
          simp only [ao_70, f_X11_files, gR_70, gr_si, gr_sl, pm_13 G, pm_14 G, eb, bI_ri, sI_41 h20, sZ_42 nz_0 h20, bV_rt, rz_bI]
        have q := wi_r (m_gi h 40 0 k) h32 b
        have c1 : f_X11_put (70, 0) (nI k) (nI t) (bI b) (m_sl (m_si (m_si (m_si h 27 k 7 (wi (m_gi h 40 0 k) t b)) 27 k 8 (blg h (wi (m_gi h 40 0 k) t b) Tn)) 27 k 9 0) 71 0 0 (vB (bI (bt (m_gi h 40 0 k) t)))) = f_X11_put_70 (70, 0) (nI k) (bI (bt (m_gi h 40 0 k) t)) (if b then one t else 0) (m_gi h 40 0 k &&& (one t ^^^ (-1))) (nI k) (some (40, 0)) (m_si (m_sl (m_si (m_si (m_si h 27 k 7 (wi (m_gi h 40 0 k) t b)) 27 k 8 (blg h (wi (m_gi h 40 0 k) t b) Tn)) 27 k 9 0) 71 0 0 (vB (bI (bt (m_gi h 40 0 k) t)))) 70 0 0 0) := by
          simp (decide := true) only [f_X11_put, f_X11_put_22, f_X11_put_21, nz_0, nz_1, rz_bI, rz_0, rz_1, bI_eq0, bI_t, bI_f, bI_ri, bI_ex, bR_ra, bR_ex, bV_rt, bV_ex, bW_rt, bJ_ri, bIx_ri, bIx_ex, bVx_rt, bVx_ex, gi_ne, gi_eq, gi_sr, gi_sl, gi_th, gi_op, gr_si, gr_sl, gr_th, gr_op, gr_ne, gl_si, gl_sr, gl_th, gl_op, gl_eq, gi_al, gr_al, gl_al, nx_si, nx_sr, nx_sl, nx_th, nx_op, nx_al, nx_als, nc_si, nc_sr, nc_sl, nc_th, nc_op, nc_al, ns_si, ns_sr, ns_sl, ns_th, ns_op, ns_al, aI_31, sZ_31, aI_32, sI_32, aI_33, sI_33, aI_34, sI_34, aI_35, sI_35, aI_36, sI_36, aI_37, sI_37, aI_38, sZ_38, aI_39, sI_39, aI_40, sI_40, aI_41, sI_41, aI_42, sZ_42, aI_43, sZ_43, aI_44, sI_44, aI_45, sI_45, aI_46, sI_46, aI_47, sI_47, aI_48, sI_48, aI_49, sI_49, aI_50, sI_50, aI_51, sZ_51, aI_52, sZ_52, aI_53, sZ_53, aI_54, sI_54, aI_55, sI_55, aI_56, sI_56, aI_57, sI_57, aI_58, sZ_58, aI_59, sI_59, aI_60, sI_60, aI_61, sI_61, aI_62, sI_62, aI_63, sZ_63, aI_64, sZ_64, aI_65, sZ_65, aI_66, sI_66, aI_67, sI_67, aI_68, sZ_68, gI_70, gR_70, pI_70, pR_70, pZ_70, ao_70, aL_71, sL_71, pm_2 G, pm_3 G, pm_5 G, pm_6 G, pm_7 G, pm_8 G, pm_9 G, pm_10 G, pm_11 G, pm_12 G, pm_13 G, pm_14 G, pm_15 G, pm_16 G, pm_18 G, pm_19 G, pm_21 G, pm_22 G, pm_23 G, pm_25 G, pm_26 G, pm_27 G, pm_28 G, pm_31 G, pm_32 G, pm_33 G, pm_34 G, pm_35 G, pm_36 G, pm_38 G, pm_39 G, pm_40 G, pm_41 G, pm_42 G, pm_43 G, pm_44 G, pm_45 G, pm_46 G, r_isWork, r_isTag, r_h0, n10, if_false, N.2.2.1, t2, isIx_ok (show W < 10000 by omega) hk, isIx_ok (show Tn < 10000 by omega) ht, h20, r_has h32, one_eq]
          cases b <;> rfl
        rw [c1]
        exact fin _ q
      · have e7 : ∀ j, m_gi (m_si (m_si (m_si (m_si (m_sl (m_si (m_si (m_si h 27 k 7 (wi (m_gi h 40 0 k) t b)) 27 k 8 (blg h (wi (m_gi h 40 0 k) t b) Tn)) 27 k 9 0) 71 0 0 (vB (bI (bt (m_gi h 40 0 k) t)))) 70 0 0 0) 40 0 k (wi (m_gi h 40 0 k) t b)) 41 0 k (blg h (wi (m_gi h 40 0 k) t b) Tn)) 42 0 k 0) 27 j 7 = if j = k then (wi (m_gi h 40 0 k) t b) else m_gi h 27 j 7 := fun j => by
          simp only [m_gi_si, gi_sl]
          simp
        have e8 : ∀ j, m_gi (m_si (m_si (m_si (m_si (m_sl (m_si (m_si (m_si h 27 k 7 (wi (m_gi h 40 0 k) t b)) 27 k 8 (blg h (wi (m_gi h 40 0 k) t b) Tn)) 27 k 9 0) 71 0 0 (vB (bI (bt (m_gi h 40 0 k) t)))) 70 0 0 0) 40 0 k (wi (m_gi h 40 0 k) t b)) 41 0 k (blg h (wi (m_gi h 40 0 k) t b) Tn)) 42 0 k 0) 27 j 8 = if j = k then (blg h (wi (m_gi h 40 0 k) t b) Tn) else m_gi h 27 j 8 := fun j => by
          simp only [m_gi_si, gi_sl]
          simp
        have e9 : ∀ j, m_gi (m_si (m_si (m_si (m_si (m_sl (m_si (m_si (m_si h 27 k 7 (wi (m_gi h 40 0 k) t b)) 27 k 8 (blg h (wi (m_gi h 40 0 k) t b) Tn)) 27 k 9 0) 71 0 0 (vB (bI (bt (m_gi h 40 0 k) t)))) 70 0 0 0) 40 0 k (wi (m_gi h 40 0 k) t b)) 41 0 k (blg h (wi (m_gi h 40 0 k) t b) Tn)) 42 0 k 0) 27 j 9 = if j = k then 0 else m_gi h 27 j 9 := fun j => by
          simp only [m_gi_si, gi_sl]
          simp
        have e40 : ∀ j, m_gi (m_si (m_si (m_si (m_si (m_sl (m_si (m_si (m_si h 27 k 7 (wi (m_gi h 40 0 k) t b)) 27 k 8 (blg h (wi (m_gi h 40 0 k) t b) Tn)) 27 k 9 0) 71 0 0 (vB (bI (bt (m_gi h 40 0 k) t)))) 70 0 0 0) 40 0 k (wi (m_gi h 40 0 k) t b)) 41 0 k (blg h (wi (m_gi h 40 0 k) t b) Tn)) 42 0 k 0) 40 0 j = if j = k then (wi (m_gi h 40 0 k) t b) else m_gi h 40 0 j := fun j => by
          simp only [m_gi_si, gi_sl]
          simp
        have e41 : ∀ j, m_gi (m_si (m_si (m_si (m_si (m_sl (m_si (m_si (m_si h 27 k 7 (wi (m_gi h 40 0 k) t b)) 27 k 8 (blg h (wi (m_gi h 40 0 k) t b) Tn)) 27 k 9 0) 71 0 0 (vB (bI (bt (m_gi h 40 0 k) t)))) 70 0 0 0) 40 0 k (wi (m_gi h 40 0 k) t b)) 41 0 k (blg h (wi (m_gi h 40 0 k) t b) Tn)) 42 0 k 0) 41 0 j = if j = k then (blg h (wi (m_gi h 40 0 k) t b) Tn) else m_gi h 41 0 j := fun j => by
          simp only [m_gi_si, gi_sl]
          simp
        have e42 : ∀ j, m_gi (m_si (m_si (m_si (m_si (m_sl (m_si (m_si (m_si h 27 k 7 (wi (m_gi h 40 0 k) t b)) 27 k 8 (blg h (wi (m_gi h 40 0 k) t b) Tn)) 27 k 9 0) 71 0 0 (vB (bI (bt (m_gi h 40 0 k) t)))) 70 0 0 0) 40 0 k (wi (m_gi h 40 0 k) t b)) 41 0 k (blg h (wi (m_gi h 40 0 k) t b) Tn)) 42 0 k 0) 42 0 j = if j = k then 0 else m_gi h 42 0 j := fun j => by
          simp only [m_gi_si, gi_sl]
          simp
        refine ⟨W, Cn, Tn, Sn, Qn, ⟨H.frm F, G.frm F, rDay.frm F, rBlk.frm F, rSam.frm F, N.frm F, rWa.frm F, rWc.frm F, rWp.frm F, rWl.frm F, rWo.frm F, ?_, ?_, ?_, rWs.frm F, rWk.frm F, rCo.frm F, rTg.frm F, rPa.frm F, rTp.frm F, rSg.frm F, rCm.frm F, rSb.frm F, rDg.frm F⟩⟩
        · refine ⟨fun j hj => by rw [e7, e40, rWt.1 j hj], fun j i hj hi => ?_, fun j a c => by rw [e40, if_neg (by omega)]; exact rWt.2.2 j a c⟩
          rw [e40]
          split
          · exact bt_wi_hi ht (by omega) b (fun i hi => rWt.2.1 k i h20 hi) i hi
          · exact rWt.2.1 j i hj hi
        · refine ⟨fun j hj => by rw [e8, e41, rWf.1 j hj], fun j i hj hi => ?_, fun j a c => by rw [e41, if_neg (by omega)]; exact rWf.2.2 j a c⟩
          rw [e41]
          split
          · exact blg_hi rTg rPa _ Tn (Nat.le_refl _) i hi
          · exact rWf.2.1 j i hj hi
        · refine ⟨fun j hj => by rw [e9, e42, rWw.1 j hj], fun j hj => ?_, fun j a c => by rw [e42, if_neg (by omega)]; exact rWw.2.2 j a c⟩
          rw [e42]
          split
          · exact nz_0
          · exact rWw.2.1 j hj
    · refine ok_ex R0 (c := 1) (b := 0) (by decide) (L_put_x0 _ _ _ ?_) ?_
      · simp (decide := true) only [f_X10_put, nz_0, nz_1, rz_bI, rz_0, rz_1, bI_eq0, bI_t, bI_f, bI_ri, bI_ex, bR_ra, bR_ex, bV_rt, bV_ex, bW_rt, bJ_ri, bIx_ri, bIx_ex, bVx_rt, bVx_ex, gi_ne, gi_eq, gi_sr, gi_sl, gi_th, gi_op, gr_si, gr_sl, gr_th, gr_op, gr_ne, gl_si, gl_sr, gl_th, gl_op, gl_eq, gi_al, gr_al, gl_al, nx_si, nx_sr, nx_sl, nx_th, nx_op, nx_al, nx_als, nc_si, nc_sr, nc_sl, nc_th, nc_op, nc_al, ns_si, ns_sr, ns_sl, ns_th, ns_op, ns_al, gi_neI, aR_2, sR_2, aI_3, sI_3, aI_4, sI_4, aI_5, sI_5, aI_6, sI_6, aI_7, sI_7, aI_8, sI_8, aI_9, sI_9, aI_10, sZ_10, aI_11, sI_11, aI_12, sI_12, aI_13, sI_13, aI_14, sC_14, gI_15, gR_15, pI_15, pR_15, pZ_15, ao_15, pC_15, aI_16, sI_16, aI_17, sI_17, aR_18, sR_18, aR_19, sR_19, aR_20, sR_20, gI_21, gR_21, pI_21, pR_21, pZ_21, ao_21, gI_22, gR_22, pI_22, pR_22, pZ_22, ao_22, gI_23, gR_23, pI_23, pR_23, pZ_23, ao_23, gI_24, gR_24, pI_24, pR_24, pZ_24, ao_24, aR_25, sR_25, gI_26, gR_26, pI_26, pR_26, pZ_26, ao_26, gI_27, gR_27, pI_27, pR_27, pZ_27, ao_27, gI_28, gR_28, pI_28, pR_28, pZ_28, ao_28, gI_29, gR_29, pI_29, pR_29, pZ_29, ao_29, gI_30, gR_30, pI_30, pR_30, pZ_30, ao_30, gI_69, gR_69, pI_69, pR_69, pZ_69, ao_69, pc_same H, pc_people H, pc_works H, pc_cols H, pc_tags H, pc_tape H, pc_sieve H, pc_gifts H, pc_coms H, pc_mean H, pc_par H, pc_abv H, pc_chars H, pc_scan H, pc_parts H, pc_items H, pc_nots H, pc_signs H, pc_recv H, pc_ways H, if_true, if_false, c_workAt H N hk, c_checkTag_bad H t1 hy]
      · simp (decide := true) only [f_X11_put_70, f_X11_put_22, f_X11_put_21, f_X11_put, nz_0, nz_1, rz_bI, rz_0, rz_1, bI_eq0, bI_t, bI_f, bI_ri, bI_ex, bR_ra, bR_ex, bV_rt, bV_ex, bW_rt, bJ_ri, bIx_ri, bIx_ex, bVx_rt, bVx_ex, gi_ne, gi_eq, gi_sr, gi_sl, gi_th, gi_op, gr_si, gr_sl, gr_th, gr_op, gr_ne, gl_si, gl_sr, gl_th, gl_op, gl_eq, gi_al, gr_al, gl_al, nx_si, nx_sr, nx_sl, nx_th, nx_op, nx_al, nx_als, nc_si, nc_sr, nc_sl, nc_th, nc_op, nc_al, ns_si, ns_sr, ns_sl, ns_th, ns_op, ns_al, gi_neI, aI_31, sZ_31, aI_32, sI_32, aI_33, sI_33, aI_34, sI_34, aI_35, sI_35, aI_36, sI_36, aI_37, sI_37, aI_38, sZ_38, aI_39, sI_39, aI_40, sI_40, aI_41, sI_41, aI_42, sZ_42, aI_43, sZ_43, aI_44, sI_44, aI_45, sI_45, aI_46, sI_46, aI_47, sI_47, aI_48, sI_48, aI_49, sI_49, aI_50, sI_50, aI_51, sZ_51, aI_52, sZ_52, aI_53, sZ_53, aI_54, sI_54, aI_55, sI_55, aI_56, sI_56, aI_57, sI_57, aI_58, sZ_58, aI_59, sI_59, aI_60, sI_60, aI_61, sI_61, aI_62, sI_62, aI_63, sZ_63, aI_64, sZ_64, aI_65, sZ_65, aI_66, sI_66, aI_67, sI_67, aI_68, sZ_68, gI_70, gR_70, pI_70, pR_70, pZ_70, ao_70, aL_71, sL_71, pm_2 G, pm_3 G, pm_5 G, pm_6 G, pm_7 G, pm_8 G, pm_9 G, pm_10 G, pm_11 G, pm_12 G, pm_13 G, pm_14 G, pm_15 G, pm_16 G, pm_18 G, pm_19 G, pm_21 G, pm_22 G, pm_23 G, pm_25 G, pm_26 G, pm_27 G, pm_28 G, pm_31 G, pm_32 G, pm_33 G, pm_34 G, pm_35 G, pm_36 G, pm_38 G, pm_39 G, pm_40 G, pm_41 G, pm_42 G, pm_43 G, pm_44 G, pm_45 G, pm_46 G, r_isWork, r_isTag, r_isPerson, r_isFace, r_h0, r_h1, r_h2, r_h3, n10, n20, n30, n00, if_true, if_false, N.2.2.1, t2, isIx_ok (show W < 10000 by omega) hk, isIx_bad (show Tn < 10000 by omega) hy]
  · refine ok_ex R0 (c := 1) (b := 0) (by decide) (L_put_x0 _ _ _ ?_) ?_
    · simp (decide := true) only [f_X10_put, nz_0, nz_1, rz_bI, rz_0, rz_1, bI_eq0, bI_t, bI_f, bI_ri, bI_ex, bR_ra, bR_ex, bV_rt, bV_ex, bW_rt, bJ_ri, bIx_ri, bIx_ex, bVx_rt, bVx_ex, gi_ne, gi_eq, gi_sr, gi_sl, gi_th, gi_op, gr_si, gr_sl, gr_th, gr_op, gr_ne, gl_si, gl_sr, gl_th, gl_op, gl_eq, gi_al, gr_al, gl_al, nx_si, nx_sr, nx_sl, nx_th, nx_op, nx_al, nx_als, nc_si, nc_sr, nc_sl, nc_th, nc_op, nc_al, ns_si, ns_sr, ns_sl, ns_th, ns_op, ns_al, gi_neI, aR_2, sR_2, aI_3, sI_3, aI_4, sI_4, aI_5, sI_5, aI_6, sI_6, aI_7, sI_7, aI_8, sI_8, aI_9, sI_9, aI_10, sZ_10, aI_11, sI_11, aI_12, sI_12, aI_13, sI_13, aI_14, sC_14, gI_15, gR_15, pI_15, pR_15, pZ_15, ao_15, pC_15, aI_16, sI_16, aI_17, sI_17, aR_18, sR_18, aR_19, sR_19, aR_20, sR_20, gI_21, gR_21, pI_21, pR_21, pZ_21, ao_21, gI_22, gR_22, pI_22, pR_22, pZ_22, ao_22, gI_23, gR_23, pI_23, pR_23, pZ_23, ao_23, gI_24, gR_24, pI_24, pR_24, pZ_24, ao_24, aR_25, sR_25, gI_26, gR_26, pI_26, pR_26, pZ_26, ao_26, gI_27, gR_27, pI_27, pR_27, pZ_27, ao_27, gI_28, gR_28, pI_28, pR_28, pZ_28, ao_28, gI_29, gR_29, pI_29, pR_29, pZ_29, ao_29, gI_30, gR_30, pI_30, pR_30, pZ_30, ao_30, gI_69, gR_69, pI_69, pR_69, pZ_69, ao_69, pc_same H, pc_people H, pc_works H, pc_cols H, pc_tags H, pc_tape H, pc_sieve H, pc_gifts H, pc_coms H, pc_mean H, pc_par H, pc_abv H, pc_chars H, pc_scan H, pc_parts H, pc_items H, pc_nots H, pc_signs H, pc_recv H, pc_ways H, if_true, if_false, c_workAt_bad N hx]
    · simp (decide := true) only [f_X11_put_70, f_X11_put_22, f_X11_put_21, f_X11_put, nz_0, nz_1, rz_bI, rz_0, rz_1, bI_eq0, bI_t, bI_f, bI_ri, bI_ex, bR_ra, bR_ex, bV_rt, bV_ex, bW_rt, bJ_ri, bIx_ri, bIx_ex, bVx_rt, bVx_ex, gi_ne, gi_eq, gi_sr, gi_sl, gi_th, gi_op, gr_si, gr_sl, gr_th, gr_op, gr_ne, gl_si, gl_sr, gl_th, gl_op, gl_eq, gi_al, gr_al, gl_al, nx_si, nx_sr, nx_sl, nx_th, nx_op, nx_al, nx_als, nc_si, nc_sr, nc_sl, nc_th, nc_op, nc_al, ns_si, ns_sr, ns_sl, ns_th, ns_op, ns_al, gi_neI, aI_31, sZ_31, aI_32, sI_32, aI_33, sI_33, aI_34, sI_34, aI_35, sI_35, aI_36, sI_36, aI_37, sI_37, aI_38, sZ_38, aI_39, sI_39, aI_40, sI_40, aI_41, sI_41, aI_42, sZ_42, aI_43, sZ_43, aI_44, sI_44, aI_45, sI_45, aI_46, sI_46, aI_47, sI_47, aI_48, sI_48, aI_49, sI_49, aI_50, sI_50, aI_51, sZ_51, aI_52, sZ_52, aI_53, sZ_53, aI_54, sI_54, aI_55, sI_55, aI_56, sI_56, aI_57, sI_57, aI_58, sZ_58, aI_59, sI_59, aI_60, sI_60, aI_61, sI_61, aI_62, sI_62, aI_63, sZ_63, aI_64, sZ_64, aI_65, sZ_65, aI_66, sI_66, aI_67, sI_67, aI_68, sZ_68, gI_70, gR_70, pI_70, pR_70, pZ_70, ao_70, aL_71, sL_71, pm_2 G, pm_3 G, pm_5 G, pm_6 G, pm_7 G, pm_8 G, pm_9 G, pm_10 G, pm_11 G, pm_12 G, pm_13 G, pm_14 G, pm_15 G, pm_16 G, pm_18 G, pm_19 G, pm_21 G, pm_22 G, pm_23 G, pm_25 G, pm_26 G, pm_27 G, pm_28 G, pm_31 G, pm_32 G, pm_33 G, pm_34 G, pm_35 G, pm_36 G, pm_38 G, pm_39 G, pm_40 G, pm_41 G, pm_42 G, pm_43 G, pm_44 G, pm_45 G, pm_46 G, r_isWork, r_isTag, r_isPerson, r_isFace, r_h0, r_h1, r_h2, r_h3, n10, n20, n30, n00, if_true, if_false, N.2.2.1, isIx_bad (show W < 10000 by omega) hx]
