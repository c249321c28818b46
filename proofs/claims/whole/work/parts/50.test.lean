/-! ## sets and counts, built from 0 up -/
def setOf (P : Nat → Bool) : Nat → Int32
  | 0 => 0
  | n + 1 => wi (setOf P n) n (P n)
def cnt (P : Nat → Bool) : Nat → Nat
  | 0 => 0
  | n + 1 => cnt P n + if P n then 1 else 0
theorem bt_setOf (P : Nat → Bool) : ∀ {n : Nat}, n ≤ 32 → ∀ {i : Nat}, i < 32 → bt (setOf P n) i = (decide (i < n) && P i)
  | 0, _, i, _ => by simp [setOf, b_0]
  | n + 1, hn, i, hi => by
    rw [setOf, bt_wi _ (by omega) _ hi, bt_setOf P (by omega) hi]
    by_cases e : i = n
    · subst e; simp
    · have : (i < n + 1) = (i < n) := propext (by omega)
      simp only [if_neg e, this]
theorem setOf_or (P : Nat → Bool) {n : Nat} (hn : n < 32) : setOf P n ||| (if P n then one n else 0) = setOf P (n + 1) := by
  apply b_ext
  intro i hi
  rw [b_or, bt_setOf P (by omega) hi, bt_setOf P (by omega) hi]
  cases hp : P n
  · by_cases e : i = n
    · subst e; simp [hp, b_0]
    · have : (i < n + 1) = (i < n) := propext (by omega)
      simp [this, b_0]
  · by_cases e : i = n
    · subst e; simp [hp, bt_one hn hn]
    · have : (i < n + 1) = (i < n) := propext (by omega)
      simp [this, bt_one hn hi, e]
theorem setOf_congr {P Q : Nat → Bool} : ∀ {n : Nat}, (∀ i, i < n → P i = Q i) → setOf P n = setOf Q n
  | 0, _ => rfl
  | n + 1, h => by rw [setOf, setOf, setOf_congr (fun i hi => h i (by omega)), h n (by omega)]
theorem cnt_congr {P Q : Nat → Bool} : ∀ {n : Nat}, (∀ i, i < n → P i = Q i) → cnt P n = cnt Q n
  | 0, _ => rfl
  | n + 1, h => by rw [cnt, cnt, cnt_congr (fun i hi => h i (by omega)), h n (by omega)]
theorem cnt_le (P : Nat → Bool) : ∀ n, cnt P n ≤ n
  | 0 => Nat.le_refl _
  | n + 1 => by rw [cnt]; have := cnt_le P n; split <;> omega
theorem pcn_cnt (s : Int32) : ∀ n, pcn s n = cnt (bt s) n
  | 0 => rfl
  | n + 1 => by rw [pcn, cnt, pcn_cnt s n]
theorem pcn_le (s : Int32) (n : Nat) : pcn s n ≤ n := by rw [pcn_cnt]; exact cnt_le _ n
/-- one more, or one the less -/
theorem pcn_add {s : Int32} {c : Nat} (hc : c < 32) : ∀ n, n ≤ 32 → pcn (s ||| one c) n = pcn s n + if decide (c < n) && !bt s c then 1 else 0
  | 0, _ => by simp [pcn]
  | n + 1, hn => by
    rw [pcn, pcn, pcn_add hc n (by omega), b_or, bt_one hc (show n < 32 by omega)]
    by_cases e : n = c
    · subst e
      cases bt s n <;> simp
    · have h1 : (c < n + 1) = (c < n) := propext (by omega)
      have h2 : decide (n = c) = false := decide_eq_false e
      simp only [h1, h2, Bool.or_false]
      omega
theorem pcn_0 : ∀ n, pcn 0 n = 0
  | 0 => rfl
  | n + 1 => by rw [pcn, pcn_0 n, b_0]; rfl
theorem pcn_pos {s : Int32} : ∀ n, n ≤ 32 → (pcn s n = 0 ↔ ∀ i, i < n → bt s i = false)
  | 0, _ => ⟨fun _ i hi => absurd hi (by omega), fun _ => rfl⟩
  | n + 1, hn => by
    rw [pcn]
    have ih := pcn_pos (s := s) n (by omega)
    constructor
    · intro h i hi
      by_cases e : i = n
      · subst e; cases hb : bt s i
        · rfl
        · rw [hb] at h; simp at h
      · exact ih.mp (by omega) i (by omega)
    · intro h
      rw [ih.mpr (fun i hi => h i (by omega)), h n (by omega)]; rfl
theorem pcn_zero {s : Int32} : pcn s 32 = 0 ↔ s = 0 := by
  rw [pcn_pos 32 (by omega)]
  constructor
  · intro h; apply b_ext; intro i hi; rw [h i hi, b_0]
  · intro h i _; rw [h, b_0]
/-- a set without bits below n is one of below 2^n -/
theorem set_ext {s t : Int32} (n : Nat) (hs : ∀ i, n ≤ i → bt s i = false) (ht : ∀ i, n ≤ i → bt t i = false) (h : ∀ i, i < n → bt s i = bt t i) : s = t := by
  apply b_ext
  intro i _
  rcases Nat.lt_or_ge i n with hi | hi
  · exact h i hi
  · rw [hs i hi, ht i hi]
theorem bt_set_hi (P : Nat → Bool) {n : Nat} (hn : n ≤ 32) {i : Nat} (hi : n ≤ i) : bt (setOf P n) i = false := by
  rcases Nat.lt_or_ge i 32 with h | h
  · rw [bt_setOf P hn h, decide_eq_false (by omega)]; rfl
  · exact b_big h
theorem bt_wi_hi {s : Int32} {n k : Nat} (hk : k < n) (hn : n ≤ 32) (b : Bool) (hs : ∀ i, n ≤ i → bt s i = false) : ∀ i, n ≤ i → bt (wi s k b) i = false := fun i hi => by
  rcases Nat.lt_or_ge i 32 with h | h
  · rw [bt_wi _ (by omega) _ h, if_neg (by omega), hs i hi]
  · exact b_big h
theorem wi_ne0 {s : Int32} {i : Nat} (hi : i < 32) : ¬ wi s i true = 0 := fun z => by
  have := congrArg (fun y => bt y i) z
  simp [bt_wi _ hi _ hi, b_0] at this
/-! ## the class's and the reference's small methods -/
theorem i_nlt {x : Int32} {b : Nat} (h : nI b ≤ x) : ¬ x < nI b := Int32.not_lt.mpr h
theorem n10 : ((1 : Int32) = 0) = False := by decide +kernel
theorem n20 : ((2 : Int32) = 0) = False := by decide +kernel
theorem n30 : ((3 : Int32) = 0) = False := by decide +kernel
theorem n00 : ((0 : Int32) = 0) = True := by decide +kernel
theorem i_m1 {n : Nat} (hn : n < 10000) {x : Int32} (hx : nI n ≤ x) : nI n - 1 < x := by
  have h1 := Int32.le_iff_toInt_le.mp hx
  rw [nI_toInt (by omega)] at h1
  apply Int32.lt_iff_toInt_lt.mpr
  have h2 : (nI n - 1).toInt = (n : Int) - 1 := by
    rw [Int32.toInt_sub, nI_toInt (by omega)]
    have : (1 : Int32).toInt = 1 := rfl
    rw [this]
    exact Int.bmod_eq_of_le (by omega) (by omega)
  omega
theorem i_m1n {n k : Nat} (hn : n < 10000) (hk : k < n) : ¬ nI n - 1 < nI k := by
  have h2 : (nI n - 1).toInt = (n : Int) - 1 := by
    rw [Int32.toInt_sub, nI_toInt (by omega)]
    have : (1 : Int32).toInt = 1 := rfl
    rw [this]
    exact Int.bmod_eq_of_le (by omega) (by omega)
  intro h
  have := Int32.lt_iff_toInt_lt.mp h
  rw [nI_toInt (by omega)] at this
  omega
/-- a number is one of as many as c tells, or not -/
def isIx (x c : Int32) : Bool := decide (¬ x < 0 ∧ ¬ c - 1 < x)
theorem isIx_ok {n k : Nat} (hn : n < 10000) (hk : k < n) : isIx (nI k) (nI n) = true := decide_eq_true ⟨nI_pos (by omega), i_m1n hn hk⟩
theorem isIx_bad {n : Nat} (hn : n < 10000) {x : Int32} (hx : x < 0 ∨ nI n ≤ x) : isIx x (nI n) = false := by
  apply decide_eq_false
  rintro ⟨h1, h2⟩
  rcases hx with q | q
  · exact h1 q
  · exact h2 (i_m1 hn q)
theorem ix_cases (x : Int32) {n : Nat} (hn : n < 10000) : (∃ k, k < n ∧ x = nI k) ∨ (x < 0 ∨ nI n ≤ x) := by
  rcases pk_ix x (n := n) (by omega) with q | q | q
  · exact Or.inr (Or.inl q)
  · exact Or.inr (Or.inr q)
  · exact Or.inl q
theorem nI_m1 {k : Nat} (hk : k < 10000) : ¬ nI k = -1 := fun z => by
  have := congrArg (fun y : Int32 => decide (y < 0)) z
  simp only [decide_eq_false (nI_pos (show k < 2 ^ 31 by omega))] at this
  exact absurd this (by decide)
theorem i_lt {a b : Nat} (ha : a < 10000) (hb : b < 10000) : (nI a < nI b) = (a < b) := propext (nI_ltI (by omega) (by omega))
theorem i_le {a b : Nat} (ha : a < 10000) (hb : b < 10000) : (nI a ≤ nI b) = (a ≤ b) := propext (nI_leI (by omega) (by omega))
theorem i_eq {a b : Nat} (ha : a < 10000) (hb : b < 10000) : (nI a = nI b) = (a = b) := propext (nI_eq (by omega) (by omega))
theorem i_neg {a : Nat} (ha : a < 10000) : (nI a < 0) = False := eq_false (nI_pos (by omega))
theorem i_eq0 {a : Nat} (ha : a < 10000) : (nI a = 0) = (a = 0) := i_eq (b := 0) ha (by omega)
theorem c_checkPerson {k : Nat} (hk : k < 12) {h : am_H} : f_X10_checkPerson (nI k) h = m_rt h none := by
  have e : nI k < (12 : Int32) := nI_lt (b := 12) hk (by decide)
  simp only [f_X10_checkPerson_10, f_X10_checkPerson]
  rw [if_neg (nI_pos (by omega)), if_pos e]
theorem c_checkPerson_bad {x : Int32} (hx : x < 0 ∨ nI 12 ≤ x) {h : am_H} : f_X10_checkPerson x h = m_ex h 0 := by
  simp only [f_X10_checkPerson_10, f_X10_checkPerson]
  rcases hx with hx | hx
  · rw [if_pos hx]
  · rw [if_neg (show ¬ x < (12 : Int32) from i_nlt (b := 12) hx), ite_self]
theorem c_checkFace {k : Nat} (hk : k < 32) {h : am_H} : f_X10_checkFace (nI k) h = m_rt h none := by
  have e : nI k < (32 : Int32) := nI_lt (b := 32) hk (by decide)
  simp only [f_X10_checkFace_10, f_X10_checkFace]
  rw [if_neg (nI_pos (by omega)), if_pos e]
theorem c_checkFace_bad {x : Int32} (hx : x < 0 ∨ nI 32 ≤ x) {h : am_H} : f_X10_checkFace x h = m_ex h 0 := by
  simp only [f_X10_checkFace_10, f_X10_checkFace]
  rcases hx with hx | hx
  · rw [if_pos hx]
  · rw [if_neg (show ¬ x < (32 : Int32) from i_nlt (b := 32) hx), ite_self]
theorem c_checkTag {Tn k : Nat} {h : am_H} (H : ShC h) (e : m_gi h 21 0 0 = nI Tn) (hT : Tn ≤ 30) (hk : k < Tn) : f_X10_checkTag (69, 0) (nI k) h = m_rt h none := by
  have e1 : nI k < nI Tn := nI_lt hk (by omega)
  simp only [f_X10_checkTag_15, f_X10_checkTag, gR_69, pc_tags H, gI_21, e]
  rw [if_neg (nI_pos (by omega)), if_pos e1]
theorem c_checkTag_bad {Tn : Nat} {h : am_H} (H : ShC h) (e : m_gi h 21 0 0 = nI Tn) {x : Int32} (hx : x < 0 ∨ nI Tn ≤ x) : f_X10_checkTag (69, 0) x h = m_ex h 0 := by
  simp only [f_X10_checkTag_15, f_X10_checkTag, gR_69, pc_tags H, gI_21, e]
  rcases hx with hx | hx
  · rw [if_pos hx]
  · rw [if_neg (i_nlt hx), ite_self]
theorem c_workAt {W : Nat} {h : am_H} (H : ShC h) (N : RWn W h) {k : Nat} (hk : k < W) : f_X10_workAt (69, 0) (nI k) h = m_ra h (some (27, k)) := by
  have h20 : k < 20 := Nat.lt_of_lt_of_le hk N.1
  have e1 : ¬ nI k < 0 := nI_pos (by omega)
  have e2 : nI k < nI W := nI_lt hk (by have := N.1; omega)
  simp only [f_X10_workAt, f_X10_checkWork_12, f_X10_checkWork, ao_69, gI_69, N.2.1, if_neg e1, if_pos e2, bV_rt, gR_69, pc_works H, aR_19 h20, (N.2.2.2.2.2 k hk).1]
theorem c_checkWork_bad {W : Nat} {h : am_H} (N : RWn W h) {x : Int32} (hx : x < 0 ∨ nI W ≤ x) : f_X10_checkWork (69, 0) x h = m_ex h 0 := by
  simp only [f_X10_checkWork_12, f_X10_checkWork, gI_69, N.2.1]
  rcases hx with hx | hx
  · rw [if_pos hx]
  · rw [if_neg (i_nlt hx), ite_self]
theorem c_checkWork {W : Nat} {h : am_H} (N : RWn W h) {k : Nat} (hk : k < W) : f_X10_checkWork (69, 0) (nI k) h = m_rt h none := by
  have e1 : ¬ nI k < 0 := nI_pos (by have := N.1; omega)
  have e2 : nI k < nI W := nI_lt hk (by have := N.1; omega)
  simp only [f_X10_checkWork_12, f_X10_checkWork, gI_69, N.2.1, if_neg e1, if_pos e2]
theorem c_workAt_bad {W : Nat} {h : am_H} (N : RWn W h) {x : Int32} (hx : x < 0 ∨ nI W ≤ x) : f_X10_workAt (69, 0) x h = m_ex h 0 := by
  simp only [f_X10_workAt, ao_69, c_checkWork_bad N hx, bV_ex]
theorem r_in {x lo hi : Int32} {h : am_H} : f_X11_in x lo hi h = m_ri h (bI (decide (¬ x < lo ∧ ¬ hi < x))) := by
  simp only [f_X11_in_15, f_X11_in_14, f_X11_in]
  by_cases h1 : x < lo
  · simp only [h1, if_true, rz_0, not_true, false_and, decide_false, bI_f]
  · by_cases h2 : hi < x
    · simp only [h1, h2, if_true, if_false, rz_0, not_true, and_false, decide_false, bI_f]
    · simp only [h1, h2, if_false, rz_1, not_false_eq_true, and_self, decide_true, bI_t]
theorem r_isWork {h : am_H} {x : Int32} : f_X11_isWork (70, 0) x h = m_ri h (bI (isIx x (m_gi h 70 0 4))) := by
  simp only [f_X11_isWork, ao_70, gI_70, r_in, bI_ri, rz_bI, isIx]
theorem r_isTag {h : am_H} {x : Int32} : f_X11_isTag (70, 0) x h = m_ri h (bI (isIx x (m_gi h 70 0 20))) := by
  simp only [f_X11_isTag, ao_70, gI_70, r_in, bI_ri, rz_bI, isIx]
theorem r_isPerson {h : am_H} {x : Int32} : f_X11_isPerson x h = m_ri h (bI (isIx x (nI 12))) := by
  simp only [f_X11_isPerson, r_in, bI_ri, rz_bI, isIx]
  rfl
theorem r_isFace {h : am_H} {x : Int32} : f_X11_isFace x h = m_ri h (bI (isIx x (nI 32))) := by
  simp only [f_X11_isFace, r_in, bI_ri, rz_bI, isIx]
  rfl
theorem r_h0 {h : am_H} : f_X11_holds (70, 0) 0 h = m_ri (m_si h 70 0 0 0) 1 := rfl
theorem r_h1 {h : am_H} : f_X11_holds (70, 0) 1 h = m_ri (m_si h 70 0 0 1) 0 := rfl
theorem r_h2 {h : am_H} : f_X11_holds (70, 0) 2 h = m_ri (m_si h 70 0 0 2) 0 := rfl
theorem r_h3 {h : am_H} : f_X11_holds (70, 0) 3 h = m_ri (m_si h 70 0 0 3) 0 := rfl
theorem r_thrown {h : am_H} : f_X11_thrown (70, 0) h = m_ri h (m_gi h 70 0 0) := rfl
theorem nz_cases {x : Int32} (h : m_nz x = true) : x = 0 ∨ x = 1 := by simpa [m_nz] using h
theorem gi_upK {h : am_H} {s k j b : Nat} {v : Int32} : m_gi (m_si h s k j v) s b j = if b = k then v else m_gi h s b j := by
  rw [m_gi_si]; by_cases e : b = k <;> simp [e]
theorem gi_upJ {h : am_H} {s k j c : Nat} {v : Int32} : m_gi (m_si h s k j v) s k c = if c = j then v else m_gi h s k c := by
  rw [m_gi_si]; by_cases e : c = j <;> simp [e]
/-! bits as the reference writes them -/
theorem one_eq (i : Nat) : (1 : Int32) <<< (nI i &&& 31) = one i := rfl
theorem wi_t (s : Int32) (i : Nat) : s ||| one i = wi s i true := rfl
theorem wi_f (s : Int32) (i : Nat) : s &&& (one i ^^^ (-1)) = wi s i false := rfl
theorem wi_r (s : Int32) {i : Nat} (hi : i < 32) (b : Bool) : (s &&& (one i ^^^ (-1))) ||| (if b then one i else 0) = wi s i b := by
  apply b_ext
  intro j hj
  rw [bt_wi _ hi _ hj, b_or, wi_f, bt_wi _ hi _ hj]
  cases b
  · by_cases e : j = i <;> simp [e, b_0]
  · by_cases e : j = i
    · subst e; simp [bt_one hi hi]
    · simp [e, bt_one hi hj]
theorem wi_r1 (s : Int32) {i : Nat} (hi : i < 32) : (s &&& (one i ^^^ (-1))) ||| one i = wi s i true := wi_r s hi true
theorem wi_r0 (s : Int32) {i : Nat} (hi : i < 32) : (s &&& (one i ^^^ (-1))) ||| 0 = wi s i false := wi_r s hi false
def vI (b : Int32) : Int64 := b.toInt64
def vB (b : Int32) : Int64 := if b = 0 then 0 else 1
theorem sL_o {x : Int64} {h : am_H} {K : am_H → am_R} : m_sL (some (71, 0)) 0 x h K = K (m_sl h 71 0 0 x) := rfl
theorem aL_o {h : am_H} {K : Int64 → am_R} : m_aL (some (71, 0)) 0 h K = K (m_gl h 71 0 0) := rfl
/-- a call of both, told: the helper's answer k, the reference's b; the two belong together then, as before -/
def OpOK (h : am_H) (r : am_R) (mf : am_H → am_R) (V : Int32 → Int64) : Prop := ∃ (h1 : am_H) (k : Int32) (h2 : am_H) (b : Int32), r = m_ri h1 k ∧ mf h1 = m_ri h2 b ∧ m_gi h2 70 0 0 = k ∧ (k = 0 → m_gl h2 71 0 0 = V b) ∧ m_gi h1 1 = m_gi h 1 ∧ m_gi h2 1 = m_gi h 1 ∧ m_nc h2 ≤ m_nc h + 2 ∧ m_ns h2 ≤ m_ns h + 20 ∧ ∃ W Cn Tn Sn Qn, RR W Cn Tn Sn Qn h2
/-- the same of one that answers nothing -/
def OpOKv (h : am_H) (r : am_R) (mf : am_H → am_R) : Prop := ∃ (h1 : am_H) (k : Int32) (h2 : am_H), r = m_ri h1 k ∧ mf h1 = m_rt h2 none ∧ m_gi h2 70 0 0 = k ∧ m_gi h1 1 = m_gi h 1 ∧ m_gi h2 1 = m_gi h 1 ∧ m_nc h2 ≤ m_nc h + 2 ∧ m_ns h2 ≤ m_ns h + 20 ∧ ∃ W Cn Tn Sn Qn, RR W Cn Tn Sn Qn h2
/-- a frame of nothing but what was thrown, and what was answered -/
theorem rr_eqv {W Cn Tn Sn Qn : Nat} {h g : am_H} (F : Frm (pX [] []) h g) (R : RR W Cn Tn Sn Qn h) : RR W Cn Tn Sn Qn g := by
  obtain ⟨H, G, rDay, rBlk, rSam, N, rWa, rWc, rWp, rWl, rWo, rWt, rWf, rWw, rWs, rWk, rCo, rTg, rPa, rTp, rSg, rCm, rSb, rDg⟩ := R
  exact ⟨H.frm F, G.frm F, rDay.frm F, rBlk.frm F, rSam.frm F, N.frm F, rWa.frm F, rWc.frm F, rWp.frm F, rWl.frm F, rWo.frm F, rWt.frm F, rWf.frm F, rWw.frm F, rWs.frm F, rWk.frm F, rCo.frm F, rTg.frm F, rPa.frm F, rTp.frm F, rSg.frm F, rCm.frm F, rSb.frm F, rDg.frm F⟩
/-- both refuse: the helper says code, the reference too -/
theorem ok_ex {W Cn Tn Sn Qn : Nat} {h : am_H} (R : RR W Cn Tn Sn Qn h) {r : am_R} {mf : am_H → am_R} {V : Int32 → Int64} {c b : Int32} (hc : c ≠ 0) (eL : r = m_ri (m_op (m_th h)) c) (eM : mf (m_op (m_th h)) = m_ri (m_si (m_op (m_th h)) 70 0 0 c) b) : OpOK h r mf V :=
  ⟨_, c, _, b, eL, eM, gi_eq, fun z => absurd z hc, rfl, rfl, by rw [nc_si]; show m_nc h + 1 ≤ _; omega, by rw [ns_si]; show m_ns h + 6 ≤ _; omega, W, Cn, Tn, Sn, Qn, rr_eqv (((Frm.refl _ h).th.op rfl).si rfl) R⟩
theorem ok_exv {W Cn Tn Sn Qn : Nat} {h : am_H} (R : RR W Cn Tn Sn Qn h) {r : am_R} {mf : am_H → am_R} {c : Int32} (eL : r = m_ri (m_op (m_th h)) c) (eM : mf (m_op (m_th h)) = m_rt (m_si (m_op (m_th h)) 70 0 0 c) none) : OpOKv h r mf :=
  ⟨_, c, _, eL, eM, gi_eq, rfl, rfl, by rw [nc_si]; show m_nc h + 1 ≤ _; omega, by rw [ns_si]; show m_ns h + 6 ≤ _; omega, W, Cn, Tn, Sn, Qn, rr_eqv (((Frm.refl _ h).th.op rfl).si rfl) R⟩
/-- a question: both answer alike, nothing changes -/
theorem ok_q {W Cn Tn Sn Qn : Nat} {h : am_H} (R : RR W Cn Tn Sn Qn h) {r : am_R} {mf : am_H → am_R} {V : Int32 → Int64} {b : Int32} (eL : r = m_ri (m_sl h 71 0 0 (V b)) 0) (eM : mf (m_sl h 71 0 0 (V b)) = m_ri (m_si (m_sl h 71 0 0 (V b)) 70 0 0 0) b) : OpOK h r mf V :=
  ⟨_, 0, _, b, eL, eM, gi_eq, fun _ => gl_eq, rfl, rfl, Nat.le_add_right _ _, Nat.le_add_right _ _, W, Cn, Tn, Sn, Qn, rr_eqv ((Frm.refl _ h).sl.si rfl) R⟩
/-- what changes something: the class's heap h1, the reference's h2 -/
theorem ok_u {h h1 h2 : am_H} {r : am_R} {mf : am_H → am_R} {V : Int32 → Int64} {b : Int32} (eL : r = m_ri (m_sl h1 71 0 0 (V b)) 0) (eM : mf (m_sl h1 71 0 0 (V b)) = m_ri h2 b) (t : m_gi h2 70 0 0 = 0) (o : m_gl h2 71 0 0 = V b) (s1 : m_gi h1 1 = m_gi h 1) (s2 : m_gi h2 1 = m_gi h 1) (c : m_nc h2 ≤ m_nc h + 2) (n : m_ns h2 ≤ m_ns h + 20) (R : ∃ W Cn Tn Sn Qn, RR W Cn Tn Sn Qn h2) : OpOK h r mf V :=
  ⟨_, 0, _, b, eL, eM, t, fun _ => o, s1, s2, c, n, R⟩
/-! ## the helpers of the law -/
theorem L_block_ret (y0 : Int32) (y1 : Int32) (y2 : Int32) {h h1 : am_H} {v : Int32} (e : f_X10_block (69, 0) y0 y1 y2 h = m_ri h1 v) : f_L_block (some (69, 0)) y0 y1 y2 (some (71, 0)) h = m_ri (m_sl h1 71 0 0 (vB v)) 0 := by
  unfold f_L_block f_L_block_18
  rw [ao_69, e, bIx_ri]
  by_cases hv : v = 0
  · rw [if_pos hv, sL_o, vB, if_pos hv]
  · rw [if_neg hv, sL_o, vB, if_neg hv]
theorem L_block_x0 (y0 : Int32) (y1 : Int32) (y2 : Int32) {h h1 : am_H} (e : f_X10_block (69, 0) y0 y1 y2 h = m_ex h1 0) : f_L_block (some (69, 0)) y0 y1 y2 (some (71, 0)) h = m_ri (m_op (m_th h1)) 1 := by
  unfold f_L_block f_L_block_18
  rw [ao_69, e, bIx_ex]
  rfl
theorem L_block_x1 (y0 : Int32) (y1 : Int32) (y2 : Int32) {h h1 : am_H} (e : f_X10_block (69, 0) y0 y1 y2 h = m_ex h1 1) : f_L_block (some (69, 0)) y0 y1 y2 (some (71, 0)) h = m_ri (m_op (m_th h1)) 2 := by
  unfold f_L_block f_L_block_18
  rw [ao_69, e, bIx_ex]
  rfl
theorem L_change_ret (y0 : Int32) (y1 : Int32) {h h1 : am_H} {v : Int32} (e : f_X10_change (69, 0) y0 y1 h = m_ri h1 v) : f_L_change (some (69, 0)) y0 y1 (some (71, 0)) h = m_ri (m_sl h1 71 0 0 (vB v)) 0 := by
  unfold f_L_change f_L_change_16
  rw [ao_69, e, bIx_ri]
  by_cases hv : v = 0
  · rw [if_pos hv, sL_o, vB, if_pos hv]
  · rw [if_neg hv, sL_o, vB, if_neg hv]
theorem L_change_x0 (y0 : Int32) (y1 : Int32) {h h1 : am_H} (e : f_X10_change (69, 0) y0 y1 h = m_ex h1 0) : f_L_change (some (69, 0)) y0 y1 (some (71, 0)) h = m_ri (m_op (m_th h1)) 1 := by
  unfold f_L_change f_L_change_16
  rw [ao_69, e, bIx_ex]
  rfl
theorem L_change_x1 (y0 : Int32) (y1 : Int32) {h h1 : am_H} (e : f_X10_change (69, 0) y0 y1 h = m_ex h1 1) : f_L_change (some (69, 0)) y0 y1 (some (71, 0)) h = m_ri (m_op (m_th h1)) 2 := by
  unfold f_L_change f_L_change_16
  rw [ao_69, e, bIx_ex]
  rfl
theorem L_chapter_ret (y0 : Int32) {h h1 : am_H} {v : Int32} (e : f_X10_chapter (69, 0) y0 h = m_ri h1 v) : f_L_chapter (some (69, 0)) y0 (some (71, 0)) h = m_ri (m_sl h1 71 0 0 (vI v)) 0 := by
  unfold f_L_chapter 
  rw [ao_69, e, bIx_ri, sL_o]; rfl
theorem L_chapter_x0 (y0 : Int32) {h h1 : am_H} (e : f_X10_chapter (69, 0) y0 h = m_ex h1 0) : f_L_chapter (some (69, 0)) y0 (some (71, 0)) h = m_ri (m_op (m_th h1)) 1 := by
  unfold f_L_chapter 
  rw [ao_69, e, bIx_ex]
  rfl
theorem L_chapter_x2 (y0 : Int32) {h h1 : am_H} (e : f_X10_chapter (69, 0) y0 h = m_ex h1 2) : f_L_chapter (some (69, 0)) y0 (some (71, 0)) h = m_ri (m_op (m_th h1)) 2 := by
  unfold f_L_chapter 
  rw [ao_69, e, bIx_ex]
  rfl
theorem L_collect_ret (y0 : Int32) (y1 : Int32) {h h1 : am_H} (e : f_X10_collect (69, 0) y0 y1 h = m_rt h1 none) : f_L_collect (some (69, 0)) y0 y1 h = m_ri h1 0 := by
  unfold f_L_collect 
  rw [ao_69, e, bVx_rt]
theorem L_collect_x0 (y0 : Int32) (y1 : Int32) {h h1 : am_H} (e : f_X10_collect (69, 0) y0 y1 h = m_ex h1 0) : f_L_collect (some (69, 0)) y0 y1 h = m_ri (m_op (m_th h1)) 1 := by
  unfold f_L_collect 
  rw [ao_69, e, bVx_ex]
  rfl
theorem L_collect_x2 (y0 : Int32) (y1 : Int32) {h h1 : am_H} (e : f_X10_collect (69, 0) y0 y1 h = m_ex h1 2) : f_L_collect (some (69, 0)) y0 y1 h = m_ri (m_op (m_th h1)) 2 := by
  unfold f_L_collect 
  rw [ao_69, e, bVx_ex]
  rfl
theorem L_collection_ret (y0 : Int32) (y1 : Int32) {h h1 : am_H} {v : Int32} (e : f_X10_collection (69, 0) y0 y1 h = m_ri h1 v) : f_L_collection (some (69, 0)) y0 y1 (some (71, 0)) h = m_ri (m_sl h1 71 0 0 (vI v)) 0 := by
  unfold f_L_collection 
  rw [ao_69, e, bIx_ri, sL_o]; rfl
theorem L_collection_x1 (y0 : Int32) (y1 : Int32) {h h1 : am_H} (e : f_X10_collection (69, 0) y0 y1 h = m_ex h1 1) : f_L_collection (some (69, 0)) y0 y1 (some (71, 0)) h = m_ri (m_op (m_th h1)) 1 := by
  unfold f_L_collection 
  rw [ao_69, e, bIx_ex]
  rfl
theorem L_collection_x2 (y0 : Int32) (y1 : Int32) {h h1 : am_H} (e : f_X10_collection (69, 0) y0 y1 h = m_ex h1 2) : f_L_collection (some (69, 0)) y0 y1 (some (71, 0)) h = m_ri (m_op (m_th h1)) 2 := by
  unfold f_L_collection 
  rw [ao_69, e, bIx_ex]
  rfl
theorem L_comment_ret (y0 : Int32) (y1 : Int32) (y2 : Int32) {h h1 : am_H} {v : Int32} (e : f_X10_comment (69, 0) y0 y1 y2 h = m_ri h1 v) : f_L_comment (some (69, 0)) y0 y1 y2 (some (71, 0)) h = m_ri (m_sl h1 71 0 0 (vI v)) 0 := by
  unfold f_L_comment 
  rw [ao_69, e, bIx_ri, sL_o]; rfl
theorem L_comment_x0 (y0 : Int32) (y1 : Int32) (y2 : Int32) {h h1 : am_H} (e : f_X10_comment (69, 0) y0 y1 y2 h = m_ex h1 0) : f_L_comment (some (69, 0)) y0 y1 y2 (some (71, 0)) h = m_ri (m_op (m_th h1)) 1 := by
  unfold f_L_comment 
  rw [ao_69, e, bIx_ex]
  rfl
theorem L_comment_x1 (y0 : Int32) (y1 : Int32) (y2 : Int32) {h h1 : am_H} (e : f_X10_comment (69, 0) y0 y1 y2 h = m_ex h1 1) : f_L_comment (some (69, 0)) y0 y1 y2 (some (71, 0)) h = m_ri (m_op (m_th h1)) 2 := by
  unfold f_L_comment 
  rw [ao_69, e, bIx_ex]
  rfl
theorem L_comment_x2 (y0 : Int32) (y1 : Int32) (y2 : Int32) {h h1 : am_H} (e : f_X10_comment (69, 0) y0 y1 y2 h = m_ex h1 2) : f_L_comment (some (69, 0)) y0 y1 y2 (some (71, 0)) h = m_ri (m_op (m_th h1)) 3 := by
  unfold f_L_comment 
  rw [ao_69, e, bIx_ex]
  rfl
theorem L_digest_ret (y0 : Int32) {h h1 : am_H} {v : Int32} (e : f_X10_digest (69, 0) y0 h = m_ri h1 v) : f_L_digest (some (69, 0)) y0 (some (71, 0)) h = m_ri (m_sl h1 71 0 0 (vI v)) 0 := by
  unfold f_L_digest 
  rw [ao_69, e, bIx_ri, sL_o]; rfl
theorem L_digest_x0 (y0 : Int32) {h h1 : am_H} (e : f_X10_digest (69, 0) y0 h = m_ex h1 0) : f_L_digest (some (69, 0)) y0 (some (71, 0)) h = m_ri (m_op (m_th h1)) 1 := by
  unfold f_L_digest 
  rw [ao_69, e, bIx_ex]
  rfl
theorem L_join_ret (y0 : Int32) (y1 : Int32) {h h1 : am_H} {v : Int32} (e : f_X10_join (69, 0) y0 y1 h = m_ri h1 v) : f_L_join (some (69, 0)) y0 y1 (some (71, 0)) h = m_ri (m_sl h1 71 0 0 (vI v)) 0 := by
  unfold f_L_join 
  rw [ao_69, e, bIx_ri, sL_o]; rfl
theorem L_join_x0 (y0 : Int32) (y1 : Int32) {h h1 : am_H} (e : f_X10_join (69, 0) y0 y1 h = m_ex h1 0) : f_L_join (some (69, 0)) y0 y1 (some (71, 0)) h = m_ri (m_op (m_th h1)) 1 := by
  unfold f_L_join 
  rw [ao_69, e, bIx_ex]
  rfl
theorem L_join_x2 (y0 : Int32) (y1 : Int32) {h h1 : am_H} (e : f_X10_join (69, 0) y0 y1 h = m_ex h1 2) : f_L_join (some (69, 0)) y0 y1 (some (71, 0)) h = m_ri (m_op (m_th h1)) 2 := by
  unfold f_L_join 
  rw [ao_69, e, bIx_ex]
  rfl
theorem L_kudos_ret (y0 : Int32) (y1 : Int32) {h h1 : am_H} {v : Int32} (e : f_X10_kudos (69, 0) y0 y1 h = m_ri h1 v) : f_L_kudos (some (69, 0)) y0 y1 (some (71, 0)) h = m_ri (m_sl h1 71 0 0 (vI v)) 0 := by
  unfold f_L_kudos 
  rw [ao_69, e, bIx_ri, sL_o]; rfl
theorem L_kudos_x0 (y0 : Int32) (y1 : Int32) {h h1 : am_H} (e : f_X10_kudos (69, 0) y0 y1 h = m_ex h1 0) : f_L_kudos (some (69, 0)) y0 y1 (some (71, 0)) h = m_ri (m_op (m_th h1)) 1 := by
  unfold f_L_kudos 
  rw [ao_69, e, bIx_ex]
  rfl
theorem L_kudos_x2 (y0 : Int32) (y1 : Int32) {h h1 : am_H} (e : f_X10_kudos (69, 0) y0 y1 h = m_ex h1 2) : f_L_kudos (some (69, 0)) y0 y1 (some (71, 0)) h = m_ri (m_op (m_th h1)) 2 := by
  unfold f_L_kudos 
  rw [ao_69, e, bIx_ex]
  rfl
theorem L_leave_ret (y0 : Int32) (y1 : Int32) {h h1 : am_H} {v : Int32} (e : f_X10_leave (69, 0) y0 y1 h = m_ri h1 v) : f_L_leave (some (69, 0)) y0 y1 (some (71, 0)) h = m_ri (m_sl h1 71 0 0 (vI v)) 0 := by
  unfold f_L_leave 
  rw [ao_69, e, bIx_ri, sL_o]; rfl
theorem L_leave_x0 (y0 : Int32) (y1 : Int32) {h h1 : am_H} (e : f_X10_leave (69, 0) y0 y1 h = m_ex h1 0) : f_L_leave (some (69, 0)) y0 y1 (some (71, 0)) h = m_ri (m_op (m_th h1)) 1 := by
  unfold f_L_leave 
  rw [ao_69, e, bIx_ex]
  rfl
theorem L_leave_x2 (y0 : Int32) (y1 : Int32) {h h1 : am_H} (e : f_X10_leave (69, 0) y0 y1 h = m_ex h1 2) : f_L_leave (some (69, 0)) y0 y1 (some (71, 0)) h = m_ri (m_op (m_th h1)) 2 := by
  unfold f_L_leave 
  rw [ao_69, e, bIx_ex]
  rfl
theorem L_liked_ret (y0 : Int32) {h h1 : am_H} {v : Int32} (e : f_X10_liked (69, 0) y0 h = m_ri h1 v) : f_L_liked (some (69, 0)) y0 (some (71, 0)) h = m_ri (m_sl h1 71 0 0 (vI v)) 0 := by
  unfold f_L_liked 
  rw [ao_69, e, bIx_ri, sL_o]; rfl
theorem L_liked_x0 (y0 : Int32) {h h1 : am_H} (e : f_X10_liked (69, 0) y0 h = m_ex h1 0) : f_L_liked (some (69, 0)) y0 (some (71, 0)) h = m_ri (m_op (m_th h1)) 1 := by
  unfold f_L_liked 
  rw [ao_69, e, bIx_ex]
  rfl
theorem L_lock_ret (y0 : Int32) (y1 : Int32) {h h1 : am_H} {v : Int32} (e : f_X10_lock (69, 0) y0 y1 h = m_ri h1 v) : f_L_lock (some (69, 0)) y0 y1 (some (71, 0)) h = m_ri (m_sl h1 71 0 0 (vB v)) 0 := by
  unfold f_L_lock f_L_lock_16
  rw [ao_69, e, bIx_ri]
  by_cases hv : v = 0
  · rw [if_pos hv, sL_o, vB, if_pos hv]
  · rw [if_neg hv, sL_o, vB, if_neg hv]
theorem L_lock_x0 (y0 : Int32) (y1 : Int32) {h h1 : am_H} (e : f_X10_lock (69, 0) y0 y1 h = m_ex h1 0) : f_L_lock (some (69, 0)) y0 y1 (some (71, 0)) h = m_ri (m_op (m_th h1)) 1 := by
  unfold f_L_lock f_L_lock_16
  rw [ao_69, e, bIx_ex]
  rfl
theorem L_make_ret (y0 : Int32) {h h1 : am_H} {v : Int32} (e : f_X10_make (69, 0) y0 h = m_ri h1 v) : f_L_make (some (69, 0)) y0 (some (71, 0)) h = m_ri (m_sl h1 71 0 0 (vI v)) 0 := by
  unfold f_L_make 
  rw [ao_69, e, bIx_ri, sL_o]; rfl
theorem L_make_x0 (y0 : Int32) {h h1 : am_H} (e : f_X10_make (69, 0) y0 h = m_ex h1 0) : f_L_make (some (69, 0)) y0 (some (71, 0)) h = m_ri (m_op (m_th h1)) 1 := by
  unfold f_L_make 
  rw [ao_69, e, bIx_ex]
  rfl
theorem L_make_x2 (y0 : Int32) {h h1 : am_H} (e : f_X10_make (69, 0) y0 h = m_ex h1 2) : f_L_make (some (69, 0)) y0 (some (71, 0)) h = m_ri (m_op (m_th h1)) 2 := by
  unfold f_L_make 
  rw [ao_69, e, bIx_ex]
  rfl
theorem L_match_ret (y0 : Int32) {h h1 : am_H} {v : Int32} (e : f_X10_match (69, 0) y0 h = m_ri h1 v) : f_L_match (some (69, 0)) y0 (some (71, 0)) h = m_ri (m_sl h1 71 0 0 (vI v)) 0 := by
  unfold f_L_match 
  rw [ao_69, e, bIx_ri, sL_o]; rfl
theorem L_match_x0 (y0 : Int32) {h h1 : am_H} (e : f_X10_match (69, 0) y0 h = m_ex h1 0) : f_L_match (some (69, 0)) y0 (some (71, 0)) h = m_ri (m_op (m_th h1)) 1 := by
  unfold f_L_match 
  rw [ao_69, e, bIx_ex]
  rfl
theorem L_merge_ret (y0 : Int32) (y1 : Int32) {h h1 : am_H} {v : Int32} (e : f_X10_merge (69, 0) y0 y1 h = m_ri h1 v) : f_L_merge (some (69, 0)) y0 y1 (some (71, 0)) h = m_ri (m_sl h1 71 0 0 (vI v)) 0 := by
  unfold f_L_merge 
  rw [ao_69, e, bIx_ri, sL_o]; rfl
theorem L_merge_x0 (y0 : Int32) (y1 : Int32) {h h1 : am_H} (e : f_X10_merge (69, 0) y0 y1 h = m_ex h1 0) : f_L_merge (some (69, 0)) y0 y1 (some (71, 0)) h = m_ri (m_op (m_th h1)) 1 := by
  unfold f_L_merge 
  rw [ao_69, e, bIx_ex]
  rfl
theorem L_merge_x1 (y0 : Int32) (y1 : Int32) {h h1 : am_H} (e : f_X10_merge (69, 0) y0 y1 h = m_ex h1 1) : f_L_merge (some (69, 0)) y0 y1 (some (71, 0)) h = m_ri (m_op (m_th h1)) 2 := by
  unfold f_L_merge 
  rw [ao_69, e, bIx_ex]
  rfl
theorem L_merge_x2 (y0 : Int32) (y1 : Int32) {h h1 : am_H} (e : f_X10_merge (69, 0) y0 y1 h = m_ex h1 2) : f_L_merge (some (69, 0)) y0 y1 (some (71, 0)) h = m_ri (m_op (m_th h1)) 3 := by
  unfold f_L_merge 
  rw [ao_69, e, bIx_ex]
  rfl
theorem L_news_ret (y0 : Int32) {h h1 : am_H} {v : Int32} (e : f_X10_news (69, 0) y0 h = m_ri h1 v) : f_L_news (some (69, 0)) y0 (some (71, 0)) h = m_ri (m_sl h1 71 0 0 (vI v)) 0 := by
  unfold f_L_news 
  rw [ao_69, e, bIx_ri, sL_o]; rfl
theorem L_news_x0 (y0 : Int32) {h h1 : am_H} (e : f_X10_news (69, 0) y0 h = m_ex h1 0) : f_L_news (some (69, 0)) y0 (some (71, 0)) h = m_ri (m_op (m_th h1)) 1 := by
  unfold f_L_news 
  rw [ao_69, e, bIx_ex]
  rfl
theorem L_ofTag_ret (y0 : Int32) (y1 : Int32) {h h1 : am_H} {v : Int32} (e : f_X10_ofTag (69, 0) y0 y1 h = m_ri h1 v) : f_L_ofTag (some (69, 0)) y0 y1 (some (71, 0)) h = m_ri (m_sl h1 71 0 0 (vI v)) 0 := by
  unfold f_L_ofTag 
  rw [ao_69, e, bIx_ri, sL_o]; rfl
theorem L_ofTag_x0 (y0 : Int32) (y1 : Int32) {h h1 : am_H} (e : f_X10_ofTag (69, 0) y0 y1 h = m_ex h1 0) : f_L_ofTag (some (69, 0)) y0 y1 (some (71, 0)) h = m_ri (m_op (m_th h1)) 1 := by
  unfold f_L_ofTag 
  rw [ao_69, e, bIx_ex]
  rfl
theorem L_ofTag_x1 (y0 : Int32) (y1 : Int32) {h h1 : am_H} (e : f_X10_ofTag (69, 0) y0 y1 h = m_ex h1 1) : f_L_ofTag (some (69, 0)) y0 y1 (some (71, 0)) h = m_ri (m_op (m_th h1)) 2 := by
  unfold f_L_ofTag 
  rw [ao_69, e, bIx_ex]
  rfl
theorem L_owners_ret (y0 : Int32) (y1 : Int32) {h h1 : am_H} {v : Int32} (e : f_X10_owners (69, 0) y0 y1 h = m_ri h1 v) : f_L_owners (some (69, 0)) y0 y1 (some (71, 0)) h = m_ri (m_sl h1 71 0 0 (vI v)) 0 := by
  unfold f_L_owners 
  rw [ao_69, e, bIx_ri, sL_o]; rfl
theorem L_owners_x0 (y0 : Int32) (y1 : Int32) {h h1 : am_H} (e : f_X10_owners (69, 0) y0 y1 h = m_ex h1 0) : f_L_owners (some (69, 0)) y0 y1 (some (71, 0)) h = m_ri (m_op (m_th h1)) 1 := by
  unfold f_L_owners 
  rw [ao_69, e, bIx_ex]
  rfl
theorem L_parent_ret (y0 : Int32) (y1 : Int32) (y2 : Int32) {h h1 : am_H} {v : Int32} (e : f_X10_parent (69, 0) y0 y1 y2 h = m_ri h1 v) : f_L_parent (some (69, 0)) y0 y1 y2 (some (71, 0)) h = m_ri (m_sl h1 71 0 0 (vB v)) 0 := by
  unfold f_L_parent f_L_parent_18
  rw [ao_69, e, bIx_ri]
  by_cases hv : v = 0
  · rw [if_pos hv, sL_o, vB, if_pos hv]
  · rw [if_neg hv, sL_o, vB, if_neg hv]
theorem L_parent_x0 (y0 : Int32) (y1 : Int32) (y2 : Int32) {h h1 : am_H} (e : f_X10_parent (69, 0) y0 y1 y2 h = m_ex h1 0) : f_L_parent (some (69, 0)) y0 y1 y2 (some (71, 0)) h = m_ri (m_op (m_th h1)) 1 := by
  unfold f_L_parent f_L_parent_18
  rw [ao_69, e, bIx_ex]
  rfl
theorem L_parent_x1 (y0 : Int32) (y1 : Int32) (y2 : Int32) {h h1 : am_H} (e : f_X10_parent (69, 0) y0 y1 y2 h = m_ex h1 1) : f_L_parent (some (69, 0)) y0 y1 y2 (some (71, 0)) h = m_ri (m_op (m_th h1)) 2 := by
  unfold f_L_parent f_L_parent_18
  rw [ao_69, e, bIx_ex]
  rfl
theorem L_parent_x2 (y0 : Int32) (y1 : Int32) (y2 : Int32) {h h1 : am_H} (e : f_X10_parent (69, 0) y0 y1 y2 h = m_ex h1 2) : f_L_parent (some (69, 0)) y0 y1 y2 (some (71, 0)) h = m_ri (m_op (m_th h1)) 3 := by
  unfold f_L_parent f_L_parent_18
  rw [ao_69, e, bIx_ex]
  rfl
theorem L_pass_ret (y0 : Int32) {h h1 : am_H} {v : Int32} (e : f_X10_pass (69, 0) y0 h = m_ri h1 v) : f_L_pass (some (69, 0)) y0 (some (71, 0)) h = m_ri (m_sl h1 71 0 0 (vI v)) 0 := by
  unfold f_L_pass 
  rw [ao_69, e, bIx_ri, sL_o]; rfl
theorem L_pass_x1 (y0 : Int32) {h h1 : am_H} (e : f_X10_pass (69, 0) y0 h = m_ex h1 1) : f_L_pass (some (69, 0)) y0 (some (71, 0)) h = m_ri (m_op (m_th h1)) 1 := by
  unfold f_L_pass 
  rw [ao_69, e, bIx_ex]
  rfl
theorem L_pass_x2 (y0 : Int32) {h h1 : am_H} (e : f_X10_pass (69, 0) y0 h = m_ex h1 2) : f_L_pass (some (69, 0)) y0 (some (71, 0)) h = m_ri (m_op (m_th h1)) 2 := by
  unfold f_L_pass 
  rw [ao_69, e, bIx_ex]
  rfl
theorem L_post_ret (y0 : Int32) {h h1 : am_H} {v : Int32} (e : f_X10_post (69, 0) y0 h = m_ri h1 v) : f_L_post (some (69, 0)) y0 (some (71, 0)) h = m_ri (m_sl h1 71 0 0 (vI v)) 0 := by
  unfold f_L_post 
  rw [ao_69, e, bIx_ri, sL_o]; rfl
theorem L_post_x0 (y0 : Int32) {h h1 : am_H} (e : f_X10_post (69, 0) y0 h = m_ex h1 0) : f_L_post (some (69, 0)) y0 (some (71, 0)) h = m_ri (m_op (m_th h1)) 1 := by
  unfold f_L_post 
  rw [ao_69, e, bIx_ex]
  rfl
theorem L_post_x2 (y0 : Int32) {h h1 : am_H} (e : f_X10_post (69, 0) y0 h = m_ex h1 2) : f_L_post (some (69, 0)) y0 (some (71, 0)) h = m_ri (m_op (m_th h1)) 2 := by
  unfold f_L_post 
  rw [ao_69, e, bIx_ex]
  rfl
theorem L_put_ret (y0 : Int32) (y1 : Int32) (y2 : Int32) {h h1 : am_H} {v : Int32} (e : f_X10_put (69, 0) y0 y1 y2 h = m_ri h1 v) : f_L_put (some (69, 0)) y0 y1 y2 (some (71, 0)) h = m_ri (m_sl h1 71 0 0 (vB v)) 0 := by
  unfold f_L_put f_L_put_18
  rw [ao_69, e, bIx_ri]
  by_cases hv : v = 0
  · rw [if_pos hv, sL_o, vB, if_pos hv]
  · rw [if_neg hv, sL_o, vB, if_neg hv]
theorem L_put_x0 (y0 : Int32) (y1 : Int32) (y2 : Int32) {h h1 : am_H} (e : f_X10_put (69, 0) y0 y1 y2 h = m_ex h1 0) : f_L_put (some (69, 0)) y0 y1 y2 (some (71, 0)) h = m_ri (m_op (m_th h1)) 1 := by
  unfold f_L_put f_L_put_18
  rw [ao_69, e, bIx_ex]
  rfl
theorem L_reads_ret (y0 : Int32) (y1 : Int32) {h h1 : am_H} {v : Int32} (e : f_X10_reads (69, 0) y0 y1 h = m_ri h1 v) : f_L_reads (some (69, 0)) y0 y1 (some (71, 0)) h = m_ri (m_sl h1 71 0 0 (vI v)) 0 := by
  unfold f_L_reads 
  rw [ao_69, e, bIx_ri, sL_o]; rfl
theorem L_reads_x0 (y0 : Int32) (y1 : Int32) {h h1 : am_H} (e : f_X10_reads (69, 0) y0 y1 h = m_ex h1 0) : f_L_reads (some (69, 0)) y0 y1 (some (71, 0)) h = m_ri (m_op (m_th h1)) 1 := by
  unfold f_L_reads 
  rw [ao_69, e, bIx_ex]
  rfl
theorem L_result_ret (y0 : Int32) (y1 : Int32) {h h1 : am_H} {v : Int32} (e : f_X10_result (69, 0) y0 y1 h = m_ri h1 v) : f_L_result (some (69, 0)) y0 y1 (some (71, 0)) h = m_ri (m_sl h1 71 0 0 (vI v)) 0 := by
  unfold f_L_result 
  rw [ao_69, e, bIx_ri, sL_o]; rfl
theorem L_result_x0 (y0 : Int32) (y1 : Int32) {h h1 : am_H} (e : f_X10_result (69, 0) y0 y1 h = m_ex h1 0) : f_L_result (some (69, 0)) y0 y1 (some (71, 0)) h = m_ri (m_op (m_th h1)) 1 := by
  unfold f_L_result 
  rw [ao_69, e, bIx_ex]
  rfl
theorem L_result_x1 (y0 : Int32) (y1 : Int32) {h h1 : am_H} (e : f_X10_result (69, 0) y0 y1 h = m_ex h1 1) : f_L_result (some (69, 0)) y0 y1 (some (71, 0)) h = m_ri (m_op (m_th h1)) 2 := by
  unfold f_L_result 
  rw [ao_69, e, bIx_ex]
  rfl
theorem L_same_ret (y0 : Int32) (y1 : Int32) {h h1 : am_H} {v : Int32} (e : f_X10_same (69, 0) y0 y1 h = m_ri h1 v) : f_L_same (some (69, 0)) y0 y1 (some (71, 0)) h = m_ri (m_sl h1 71 0 0 (vB v)) 0 := by
  unfold f_L_same f_L_same_16
  rw [ao_69, e, bIx_ri]
  by_cases hv : v = 0
  · rw [if_pos hv, sL_o, vB, if_pos hv]
  · rw [if_neg hv, sL_o, vB, if_neg hv]
theorem L_same_x0 (y0 : Int32) (y1 : Int32) {h h1 : am_H} (e : f_X10_same (69, 0) y0 y1 h = m_ex h1 0) : f_L_same (some (69, 0)) y0 y1 (some (71, 0)) h = m_ri (m_op (m_th h1)) 1 := by
  unfold f_L_same f_L_same_16
  rw [ao_69, e, bIx_ex]
  rfl
theorem L_screen_ret (y0 : Int32) (y1 : Int32) {h h1 : am_H} {v : Int32} (e : f_X10_screen (69, 0) y0 y1 h = m_ri h1 v) : f_L_screen (some (69, 0)) y0 y1 (some (71, 0)) h = m_ri (m_sl h1 71 0 0 (vB v)) 0 := by
  unfold f_L_screen f_L_screen_16
  rw [ao_69, e, bIx_ri]
  by_cases hv : v = 0
  · rw [if_pos hv, sL_o, vB, if_pos hv]
  · rw [if_neg hv, sL_o, vB, if_neg hv]
theorem L_screen_x0 (y0 : Int32) (y1 : Int32) {h h1 : am_H} (e : f_X10_screen (69, 0) y0 y1 h = m_ex h1 0) : f_L_screen (some (69, 0)) y0 y1 (some (71, 0)) h = m_ri (m_op (m_th h1)) 1 := by
  unfold f_L_screen f_L_screen_16
  rw [ao_69, e, bIx_ex]
  rfl
theorem L_search_ret (y0 : Int32) (y1 : Int32) {h h1 : am_H} {v : Int32} (e : f_X10_search (69, 0) y0 y1 h = m_ri h1 v) : f_L_search (some (69, 0)) y0 y1 (some (71, 0)) h = m_ri (m_sl h1 71 0 0 (vI v)) 0 := by
  unfold f_L_search 
  rw [ao_69, e, bIx_ri, sL_o]; rfl
theorem L_search_x0 (y0 : Int32) (y1 : Int32) {h h1 : am_H} (e : f_X10_search (69, 0) y0 y1 h = m_ex h1 0) : f_L_search (some (69, 0)) y0 y1 (some (71, 0)) h = m_ri (m_op (m_th h1)) 1 := by
  unfold f_L_search 
  rw [ao_69, e, bIx_ex]
  rfl
theorem L_search_x1 (y0 : Int32) (y1 : Int32) {h h1 : am_H} (e : f_X10_search (69, 0) y0 y1 h = m_ex h1 1) : f_L_search (some (69, 0)) y0 y1 (some (71, 0)) h = m_ri (m_op (m_th h1)) 2 := by
  unfold f_L_search 
  rw [ao_69, e, bIx_ex]
  rfl
theorem L_sees_ret (y0 : Int32) (y1 : Int32) {h h1 : am_H} {v : Int32} (e : f_X10_sees (69, 0) y0 y1 h = m_ri h1 v) : f_L_sees (some (69, 0)) y0 y1 (some (71, 0)) h = m_ri (m_sl h1 71 0 0 (vB v)) 0 := by
  unfold f_L_sees f_L_sees_16
  rw [ao_69, e, bIx_ri]
  by_cases hv : v = 0
  · rw [if_pos hv, sL_o, vB, if_pos hv]
  · rw [if_neg hv, sL_o, vB, if_neg hv]
theorem L_sees_x0 (y0 : Int32) (y1 : Int32) {h h1 : am_H} (e : f_X10_sees (69, 0) y0 y1 h = m_ex h1 0) : f_L_sees (some (69, 0)) y0 y1 (some (71, 0)) h = m_ri (m_op (m_th h1)) 1 := by
  unfold f_L_sees f_L_sees_16
  rw [ao_69, e, bIx_ex]
  rfl
theorem L_sign_ret (y0 : Int32) (y1 : Int32) (y2 : Int32) (y3 : Int32) {h h1 : am_H} {v : Int32} (e : f_X10_sign (69, 0) y0 y1 y2 y3 h = m_ri h1 v) : f_L_sign (some (69, 0)) y0 y1 y2 y3 (some (71, 0)) h = m_ri (m_sl h1 71 0 0 (vI v)) 0 := by
  unfold f_L_sign 
  rw [ao_69, e, bIx_ri, sL_o]; rfl
theorem L_sign_x0 (y0 : Int32) (y1 : Int32) (y2 : Int32) (y3 : Int32) {h h1 : am_H} (e : f_X10_sign (69, 0) y0 y1 y2 y3 h = m_ex h1 0) : f_L_sign (some (69, 0)) y0 y1 y2 y3 (some (71, 0)) h = m_ri (m_op (m_th h1)) 1 := by
  unfold f_L_sign 
  rw [ao_69, e, bIx_ex]
  rfl
theorem L_sign_x1 (y0 : Int32) (y1 : Int32) (y2 : Int32) (y3 : Int32) {h h1 : am_H} (e : f_X10_sign (69, 0) y0 y1 y2 y3 h = m_ex h1 1) : f_L_sign (some (69, 0)) y0 y1 y2 y3 (some (71, 0)) h = m_ri (m_op (m_th h1)) 2 := by
  unfold f_L_sign 
  rw [ao_69, e, bIx_ex]
  rfl
theorem L_sign_x2 (y0 : Int32) (y1 : Int32) (y2 : Int32) (y3 : Int32) {h h1 : am_H} (e : f_X10_sign (69, 0) y0 y1 y2 y3 h = m_ex h1 2) : f_L_sign (some (69, 0)) y0 y1 y2 y3 (some (71, 0)) h = m_ri (m_op (m_th h1)) 3 := by
  unfold f_L_sign 
  rw [ao_69, e, bIx_ex]
  rfl
theorem L_subscribe_ret (y0 : Int32) (y1 : Int32) (y2 : Int32) {h h1 : am_H} {v : Int32} (e : f_X10_subscribe (69, 0) y0 y1 y2 h = m_ri h1 v) : f_L_subscribe (some (69, 0)) y0 y1 y2 (some (71, 0)) h = m_ri (m_sl h1 71 0 0 (vB v)) 0 := by
  unfold f_L_subscribe f_L_subscribe_18
  rw [ao_69, e, bIx_ri]
  by_cases hv : v = 0
  · rw [if_pos hv, sL_o, vB, if_pos hv]
  · rw [if_neg hv, sL_o, vB, if_neg hv]
theorem L_subscribe_x0 (y0 : Int32) (y1 : Int32) (y2 : Int32) {h h1 : am_H} (e : f_X10_subscribe (69, 0) y0 y1 y2 h = m_ex h1 0) : f_L_subscribe (some (69, 0)) y0 y1 y2 (some (71, 0)) h = m_ri (m_op (m_th h1)) 1 := by
  unfold f_L_subscribe f_L_subscribe_18
  rw [ao_69, e, bIx_ex]
  rfl
theorem L_tag_ret  {h h1 : am_H} {v : Int32} (e : f_X10_tag (69, 0)  h = m_ri h1 v) : f_L_tag (some (69, 0))  (some (71, 0)) h = m_ri (m_sl h1 71 0 0 (vI v)) 0 := by
  unfold f_L_tag 
  rw [ao_69, e, bIx_ri, sL_o]; rfl
theorem L_tag_x2  {h h1 : am_H} (e : f_X10_tag (69, 0)  h = m_ex h1 2) : f_L_tag (some (69, 0))  (some (71, 0)) h = m_ri (m_op (m_th h1)) 1 := by
  unfold f_L_tag 
  rw [ao_69, e, bIx_ex]
  rfl
theorem L_type_ret (y0 : Int64) (y1 : Int32) {h h1 : am_H} {v : Int32} (e : f_X10_type (69, 0) y0 y1 h = m_ri h1 v) : f_L_type (some (69, 0)) y0 y1 (some (71, 0)) h = m_ri (m_sl h1 71 0 0 (vI v)) 0 := by
  unfold f_L_type 
  rw [ao_69, e, bIx_ri, sL_o]; rfl
theorem L_type_x1 (y0 : Int64) (y1 : Int32) {h h1 : am_H} (e : f_X10_type (69, 0) y0 y1 h = m_ex h1 1) : f_L_type (some (69, 0)) y0 y1 (some (71, 0)) h = m_ri (m_op (m_th h1)) 1 := by
  unfold f_L_type 
  rw [ao_69, e, bIx_ex]
  rfl
theorem L_type_x2 (y0 : Int64) (y1 : Int32) {h h1 : am_H} (e : f_X10_type (69, 0) y0 y1 h = m_ex h1 2) : f_L_type (some (69, 0)) y0 y1 (some (71, 0)) h = m_ri (m_op (m_th h1)) 2 := by
  unfold f_L_type 
  rw [ao_69, e, bIx_ex]
  rfl
theorem L_under_ret (y0 : Int32) (y1 : Int32) {h h1 : am_H} {v : Int32} (e : f_X10_under (69, 0) y0 y1 h = m_ri h1 v) : f_L_under (some (69, 0)) y0 y1 (some (71, 0)) h = m_ri (m_sl h1 71 0 0 (vI v)) 0 := by
  unfold f_L_under 
  rw [ao_69, e, bIx_ri, sL_o]; rfl
theorem L_under_x0 (y0 : Int32) (y1 : Int32) {h h1 : am_H} (e : f_X10_under (69, 0) y0 y1 h = m_ex h1 0) : f_L_under (some (69, 0)) y0 y1 (some (71, 0)) h = m_ri (m_op (m_th h1)) 1 := by
  unfold f_L_under 
  rw [ao_69, e, bIx_ex]
  rfl
theorem L_wave_ret (y0 : Int32) {h h1 : am_H} {v : Int32} (e : f_X10_wave (69, 0) y0 h = m_ri h1 v) : f_L_wave (some (69, 0)) y0 (some (71, 0)) h = m_ri (m_sl h1 71 0 0 (vI v)) 0 := by
  unfold f_L_wave 
  rw [ao_69, e, bIx_ri, sL_o]; rfl
theorem L_wave_x1 (y0 : Int32) {h h1 : am_H} (e : f_X10_wave (69, 0) y0 h = m_ex h1 1) : f_L_wave (some (69, 0)) y0 (some (71, 0)) h = m_ri (m_op (m_th h1)) 1 := by
  unfold f_L_wave 
  rw [ao_69, e, bIx_ex]
  rfl
theorem L_work_ret (y0 : Int32) (y1 : Int32) {h h1 : am_H} {v : Int32} (e : f_X10_work (69, 0) y0 y1 h = m_ri h1 v) : f_L_work (some (69, 0)) y0 y1 (some (71, 0)) h = m_ri (m_sl h1 71 0 0 (vI v)) 0 := by
  unfold f_L_work 
  rw [ao_69, e, bIx_ri, sL_o]; rfl
theorem L_work_x0 (y0 : Int32) (y1 : Int32) {h h1 : am_H} (e : f_X10_work (69, 0) y0 y1 h = m_ex h1 0) : f_L_work (some (69, 0)) y0 y1 (some (71, 0)) h = m_ri (m_op (m_th h1)) 1 := by
  unfold f_L_work 
  rw [ao_69, e, bIx_ex]
  rfl
theorem L_work_x1 (y0 : Int32) (y1 : Int32) {h h1 : am_H} (e : f_X10_work (69, 0) y0 y1 h = m_ex h1 1) : f_L_work (some (69, 0)) y0 y1 (some (71, 0)) h = m_ri (m_op (m_th h1)) 2 := by
  unfold f_L_work 
  rw [ao_69, e, bIx_ex]
  rfl
theorem L_work_x2 (y0 : Int32) (y1 : Int32) {h h1 : am_H} (e : f_X10_work (69, 0) y0 y1 h = m_ex h1 2) : f_L_work (some (69, 0)) y0 y1 (some (71, 0)) h = m_ri (m_op (m_th h1)) 3 := by
  unfold f_L_work 
  rw [ao_69, e, bIx_ex]
  rfl
/-! ## who sees what -/
def ownP (h : am_H) (f k : Nat) : Bool := bt (m_gi h 34 0 k) f
def opP (h : am_H) (k s : Nat) : Bool := decide (m_gi h 39 0 k = -1) || !decide (m_gi h 70 0 1 < m_gi h s 0 (m_gi h 39 0 k).toNatClampNeg)
def seenP (h : am_H) (f k : Nat) : Bool := ownP h f k || (!decide (m_gi h 37 0 k = -1) && opP h k 45 && (decide (m_gi h 38 0 k = 0) || !decide (12 ≤ f)))
def toldP (h : am_H) (f k : Nat) : Bool := seenP h f k && (ownP h f k || opP h k 46)
theorem i12_le {f : Nat} (hf : f < 10000) : ((12 : Int32) ≤ nI f) = (12 ≤ f) := i_le (a := 12) (by omega) hf
section Seen
variable {W Cn : Nat} {h : am_H} {k f : Nat}
theorem c_isOwnedBy (a : RWa W h) (hk : k < W) (hf : f < 32) : f_X9_isOwnedBy (27, k) (nI f) h = m_ri h (bI (ownP h f k)) := by
  simp only [f_X9_isOwnedBy, gI_27, c_has hf, bJ_ri, rz_bI, (a k hk).2.1, ownP]
theorem r_isOwner (G : ShM h) (a : RWa W h) (hk : k < W) (h20 : k < 20) (hf : f < 32) : f_X11_isOwner (70, 0) (nI f) (nI k) h = m_ri h (bI (ownP h f k)) := by
  simp only [f_X11_isOwner_24, f_X11_isOwner_23, f_X11_isOwner, gR_70, pm_6 G, aI_34 h20, r_has hf, bI_ri, i12_le (show f < 10000 by omega), rz_0, rz_1, bI_eq0, ownP]
  by_cases h1 : 12 ≤ f
  · rw [if_pos h1, (a k hk).2.2.2 f h1]; rfl
  · rw [if_neg h1]; cases bt (m_gi h 34 0 k) f <;> rfl
theorem c_isPosted (p : RWp W h) (hk : k < W) : f_X9_isPosted (27, k) h = m_ri h (bI (!decide (m_gi h 37 0 k = -1))) := by
  simp only [f_X9_isPosted_13, f_X9_isPosted, gI_27, (p k hk).1, rz_0, rz_1]
  by_cases e : m_gi h 37 0 k = -1
  · rw [if_pos e, decide_eq_true e]; rfl
  · rw [if_neg e, decide_eq_false e]; rfl
theorem c_isSeenBy (a : RWa W h) (p : RWp W h) (l : RWl W h) (o : RWo W Cn h) (C : RCo Cn h) (hk : k < W) (hf : f < 32) : f_X9_isSeenBy (27, k) (nI f) (m_gi h 70 0 1) h = m_ri h (bI (seenP h f k)) := by
  simp only [f_X9_isSeenBy_63, f_X9_isSeenBy_62, f_X9_isSeenBy_58, f_X9_isSeenBy_33, f_X9_isSeenBy_28, f_X9_isSeenBy, ao_27, gI_27, gR_27, c_isOwnedBy a hk hf, c_isPosted p hk, bI_ri, rz_0, rz_1, bI_eq0, l.1 k hk, i12_le (show f < 10000 by omega), seenP]
  cases ownP h f k
  · rcases o k hk with ⟨o1, o2⟩ | ⟨c, hc, o1, o2⟩
    · simp only [o1, opP, o2]
      by_cases e1 : m_gi h 37 0 k = -1 <;> by_cases e2 : m_gi h 38 0 k = 0 <;> by_cases e3 : 12 ≤ f <;> simp [e1, e2, e3] <;> rfl
    · have hc6 : c < 6 := Nat.lt_of_lt_of_le hc C.1
      simp only [o1, opP, o2, gI_28, (C.2.2.2.2 c hc).2.1, eq_false (nI_m1 (show c < 10000 by omega)), nI_clamp (show c < 2 ^ 31 by omega)]
      by_cases e4 : m_gi h 70 0 1 < m_gi h 45 0 c <;> by_cases e1 : m_gi h 37 0 k = -1 <;> by_cases e2 : m_gi h 38 0 k = 0 <;> by_cases e3 : 12 ≤ f <;> simp [e1, e2, e3, e4] <;> rfl
  · simp
    rfl
theorem r_isSeen (G : ShM h) (a : RWa W h) (o : RWo W Cn h) (C : RCo Cn h) (hk : k < W) (h20 : k < 20) (hf : f < 32) : f_X11_isSeen (70, 0) (nI f) (nI k) h = m_ri h (bI (seenP h f k)) := by
  simp only [f_X11_isSeen_77, f_X11_isSeen_76, f_X11_isSeen_72, f_X11_isSeen_33, f_X11_isSeen_28, f_X11_isSeen, ao_70, gI_70, gR_70, pm_11 G, aI_39 h20, r_isOwner G a hk h20 hf, bI_ri, rz_0, rz_1, bI_eq0, pm_9 G, aI_37 h20, pm_10 G, aI_38 h20, i12_le (show f < 10000 by omega), seenP]
  rcases o k hk with ⟨o1, o2⟩ | ⟨c, hc, o1, o2⟩
  · simp only [opP, o2, if_true]
    cases ownP h f k <;> by_cases e1 : m_gi h 37 0 k = -1 <;> by_cases e2 : m_gi h 38 0 k = 0 <;> by_cases e3 : 12 ≤ f <;> simp [e1, e2, e3] <;> rfl
  · have hc6 : c < 6 := Nat.lt_of_lt_of_le hc C.1
    simp only [opP, o2, eq_false (nI_m1 (show c < 10000 by omega)), if_false, pm_18 G, aI_45 hc6, nI_clamp (show c < 2 ^ 31 by omega)]
    cases ownP h f k <;> by_cases e4 : m_gi h 70 0 1 < m_gi h 45 0 c <;> by_cases e1 : m_gi h 37 0 k = -1 <;> by_cases e2 : m_gi h 38 0 k = 0 <;> by_cases e3 : 12 ≤ f <;> simp [e1, e2, e3, e4] <;> rfl
theorem c_ownersToldTo (a : RWa W h) (p : RWp W h) (l : RWl W h) (o : RWo W Cn h) (C : RCo Cn h) (hk : k < W) (hf : f < 32) : f_X9_ownersToldTo (27, k) (nI f) (m_gi h 70 0 1) h = m_ri h (if toldP h f k then m_gi h 34 0 k else 0) := by
  simp only [f_X9_ownersToldTo_53, f_X9_ownersToldTo_52, f_X9_ownersToldTo_45, f_X9_ownersToldTo_23, f_X9_ownersToldTo_18, f_X9_ownersToldTo, ao_27, gI_27, gR_27, c_isOwnedBy a hk hf, c_isSeenBy a p l o C hk hf, bI_ri, bI_eq0, (a k hk).2.1, toldP]
  rcases o k hk with ⟨o1, o2⟩ | ⟨c, hc, o1, o2⟩
  · simp only [o1, opP, o2]
    cases seenP h f k <;> cases ownP h f k <;> simp
  · have hc6 : c < 6 := Nat.lt_of_lt_of_le hc C.1
    simp only [o1, opP, o2, gI_28, (C.2.2.2.2 c hc).2.2, eq_false (nI_m1 (show c < 10000 by omega)), nI_clamp (show c < 2 ^ 31 by omega)]
    cases seenP h f k <;> cases ownP h f k <;> by_cases e4 : m_gi h 70 0 1 < m_gi h 46 0 c <;> simp [e4]
theorem r_areTold (G : ShM h) (a : RWa W h) (o : RWo W Cn h) (C : RCo Cn h) (hk : k < W) (h20 : k < 20) (hf : f < 32) : f_X11_areTold (70, 0) (nI f) (nI k) h = m_ri h (bI (toldP h f k)) := by
  simp only [f_X11_areTold_61, f_X11_areTold_60, f_X11_areTold_56, f_X11_areTold_33, f_X11_areTold_28, f_X11_areTold, ao_70, gI_70, gR_70, pm_11 G, aI_39 h20, r_isOwner G a hk h20 hf, r_isSeen G a o C hk h20 hf, bI_ri, rz_0, rz_1, bI_eq0, toldP]
  rcases o k hk with ⟨o1, o2⟩ | ⟨c, hc, o1, o2⟩
  · simp only [opP, o2, if_true]
    cases seenP h f k <;> cases ownP h f k <;> simp <;> rfl
  · have hc6 : c < 6 := Nat.lt_of_lt_of_le hc C.1
    simp only [opP, o2, eq_false (nI_m1 (show c < 10000 by omega)), if_false, pm_19 G, aI_46 hc6, nI_clamp (show c < 2 ^ 31 by omega)]
    cases seenP h f k <;> cases ownP h f k <;> by_cases e4 : m_gi h 70 0 1 < m_gi h 46 0 c <;> simp [e4] <;> rfl
end Seen
theorem op_lock {W Cn Tn Sn Qn : Nat} {h : am_H} (R : RR W Cn Tn Sn Qn h) (x : Int32) (b : Bool) : OpOK h (f_L_lock (some (69, 0)) x (bI b) (some (71, 0)) h) (f_X11_lock (70, 0) x (bI b)) vB := by
  have R0 := R
  obtain ⟨H, G, rDay, rBlk, rSam, N, rWa, rWc, rWp, rWl, rWo, rWt, rWf, rWw, rWs, rWk, rCo, rTg, rPa, rTp, rSg, rCm, rSb, rDg⟩ := R
  have hW := N.1
  rcases ix_cases x (n := W) (by omega) with ⟨k, hk, rfl⟩ | hx
  · have h20 : k < 20 := by omega
    have hz := rWl.2.1 k h20
    have e0 := rWl.1 k hk
    refine ok_u (h1 := (m_si h 27 k 5 (bI b))) (b := m_gi h 38 0 k) (h2 := (m_si (m_si (m_sl (m_si h 27 k 5 (bI b)) 71 0 0 (vB (m_gi h 38 0 k))) 70 0 0 0) 38 0 k (bI b))) (L_lock_ret _ _ ?_) ?_ rfl rfl rfl rfl (Nat.le_add_right _ _) (Nat.le_add_right _ _) ?_
    · rw [← e0] at hz ⊢
      simp only [f_X10_lock, ao_69, c_workAt H N hk, bR_ra, gI_27, pZ_27 (nz_bI b), rz_of hz]
    · simp (decide := true) only [f_X11_lock_14, f_X11_lock, nz_0, nz_1, rz_bI, rz_0, rz_1, bI_eq0, bI_t, bI_f, bI_ri, bI_ex, bR_ra, bR_ex, bV_rt, bV_ex, bW_rt, bJ_ri, bIx_ri, bIx_ex, bVx_rt, bVx_ex, gi_ne, gi_eq, gi_sr, gi_sl, gi_th, gi_op, gr_si, gr_sl, gr_th, gr_op, gr_ne, gl_si, gl_sr, gl_th, gl_op, gl_eq, gi_al, gr_al, gl_al, nx_si, nx_sr, nx_sl, nx_th, nx_op, nx_al, nx_als, nc_si, nc_sr, nc_sl, nc_th, nc_op, nc_al, ns_si, ns_sr, ns_sl, ns_th, ns_op, ns_al, aI_31, sZ_31, aI_32, sI_32, aI_33, sI_33, aI_34, sI_34, aI_35, sI_35, aI_36, sI_36, aI_37, sI_37, aI_38, sZ_38, aI_39, sI_39, aI_40, sI_40, aI_41, sI_41, aI_42, sZ_42, aI_43, sZ_43, aI_44, sI_44, aI_45, sI_45, aI_46, sI_46, aI_47, sI_47, aI_48, sI_48, aI_49, sI_49, aI_50, sI_50, aI_51, sZ_51, aI_52, sZ_52, aI_53, sZ_53, aI_54, sI_54, aI_55, sI_55, aI_56, sI_56, aI_57, sI_57, aI_58, sZ_58, aI_59, sI_59, aI_60, sI_60, aI_61, sI_61, aI_62, sI_62, aI_63, sZ_63, aI_64, sZ_64, aI_65, sZ_65, aI_66, sI_66, aI_67, sI_67, aI_68, sZ_68, gI_70, gR_70, pI_70, pR_70, pZ_70, ao_70, aL_71, sL_71, pm_2 G, pm_3 G, pm_5 G, pm_6 G, pm_7 G, pm_8 G, pm_9 G, pm_10 G, pm_11 G, pm_12 G, pm_13 G, pm_14 G, pm_15 G, pm_16 G, pm_18 G, pm_19 G, pm_21 G, pm_22 G, pm_23 G, pm_25 G, pm_26 G, pm_27 G, pm_28 G, pm_31 G, pm_32 G, pm_33 G, pm_34 G, pm_35 G, pm_36 G, pm_38 G, pm_39 G, pm_40 G, pm_41 G, pm_42 G, pm_43 G, pm_44 G, pm_45 G, pm_46 G, r_isWork, N.2.2.1, isIx_ok (show W < 10000 by omega) hk, r_h0, n10, if_false, h20, nz_bI, rz_of hz]
    · have F : Frm (pX [(27, 5)] [38]) h (m_si (m_si (m_sl (m_si h 27 k 5 (bI b)) 71 0 0 (vB (m_gi h 38 0 k))) 70 0 0 0) 38 0 k (bI b)) := (((Frm.refl _ h).si rfl).sl.si rfl).si rfl
      refine ⟨W, Cn, Tn, Sn, Qn, ⟨H.frm F, G.frm F, rDay.frm F, rBlk.frm F, rSam.frm F, N.frm F, rWa.frm F, rWc.frm F, rWp.frm F, ?_, rWo.frm F, rWt.frm F, rWf.frm F, rWw.frm F, rWs.frm F, rWk.frm F, rCo.frm F, rTg.frm F, rPa.frm F, rTp.frm F, rSg.frm F, rCm.frm F, rSb.frm F, rDg.frm F⟩⟩
      have e1 : ∀ j, m_gi (m_si (m_si (m_sl (m_si h 27 k 5 (bI b)) 71 0 0 (vB (m_gi h 38 0 k))) 70 0 0 0) 38 0 k (bI b)) 27 j 5 = if j = k then bI b else m_gi h 27 j 5 := fun j => show m_gi (m_si h 27 k 5 (bI b)) 27 j 5 = _ from gi_upK
      have e2 : ∀ j, m_gi (m_si (m_si (m_sl (m_si h 27 k 5 (bI b)) 71 0 0 (vB (m_gi h 38 0 k))) 70 0 0 0) 38 0 k (bI b)) 38 0 j = if j = k then bI b else m_gi h 38 0 j := fun j => gi_upJ
      obtain ⟨a1, a2, a3⟩ := rWl
      refine ⟨fun j hj => ?_, fun j hj => ?_, fun j h1 h2 => ?_⟩
      · rw [e1, e2, a1 j hj]
      · rw [e2]; split
        · exact nz_bI b
        · exact a2 j hj
      · rw [e2, if_neg (by omega)]; exact a3 j h1 h2
  · refine ok_ex R0 (c := 1) (b := 0) (by decide) (L_lock_x0 _ _ ?_) ?_
    · simp only [f_X10_lock, ao_69, c_workAt_bad N hx, bR_ex]
    · simp (decide := true) only [f_X11_lock_14, f_X11_lock, nz_0, nz_1, rz_bI, rz_0, rz_1, bI_eq0, bI_t, bI_f, bI_ri, bI_ex, bR_ra, bR_ex, bV_rt, bV_ex, bW_rt, bJ_ri, bIx_ri, bIx_ex, bVx_rt, bVx_ex, gi_ne, gi_eq, gi_sr, gi_sl, gi_th, gi_op, gr_si, gr_sl, gr_th, gr_op, gr_ne, gl_si, gl_sr, gl_th, gl_op, gl_eq, gi_al, gr_al, gl_al, nx_si, nx_sr, nx_sl, nx_th, nx_op, nx_al, nx_als, nc_si, nc_sr, nc_sl, nc_th, nc_op, nc_al, ns_si, ns_sr, ns_sl, ns_th, ns_op, ns_al, aI_31, sZ_31, aI_32, sI_32, aI_33, sI_33, aI_34, sI_34, aI_35, sI_35, aI_36, sI_36, aI_37, sI_37, aI_38, sZ_38, aI_39, sI_39, aI_40, sI_40, aI_41, sI_41, aI_42, sZ_42, aI_43, sZ_43, aI_44, sI_44, aI_45, sI_45, aI_46, sI_46, aI_47, sI_47, aI_48, sI_48, aI_49, sI_49, aI_50, sI_50, aI_51, sZ_51, aI_52, sZ_52, aI_53, sZ_53, aI_54, sI_54, aI_55, sI_55, aI_56, sI_56, aI_57, sI_57, aI_58, sZ_58, aI_59, sI_59, aI_60, sI_60, aI_61, sI_61, aI_62, sI_62, aI_63, sZ_63, aI_64, sZ_64, aI_65, sZ_65, aI_66, sI_66, aI_67, sI_67, aI_68, sZ_68, gI_70, gR_70, pI_70, pR_70, pZ_70, ao_70, aL_71, sL_71, pm_2 G, pm_3 G, pm_5 G, pm_6 G, pm_7 G, pm_8 G, pm_9 G, pm_10 G, pm_11 G, pm_12 G, pm_13 G, pm_14 G, pm_15 G, pm_16 G, pm_18 G, pm_19 G, pm_21 G, pm_22 G, pm_23 G, pm_25 G, pm_26 G, pm_27 G, pm_28 G, pm_31 G, pm_32 G, pm_33 G, pm_34 G, pm_35 G, pm_36 G, pm_38 G, pm_39 G, pm_40 G, pm_41 G, pm_42 G, pm_43 G, pm_44 G, pm_45 G, pm_46 G, r_isWork, N.2.2.1, isIx_bad (show W < 10000 by omega) hx, r_h1, n00, if_true]
theorem op_screen {W Cn Tn Sn Qn : Nat} {h : am_H} (R : RR W Cn Tn Sn Qn h) (x : Int32) (b : Bool) : OpOK h (f_L_screen (some (69, 0)) x (bI b) (some (71, 0)) h) (f_X11_screen (70, 0) x (bI b)) vB := by
  have R0 := R
  obtain ⟨H, G, rDay, rBlk, rSam, N, rWa, rWc, rWp, rWl, rWo, rWt, rWf, rWw, rWs, rWk, rCo, rTg, rPa, rTp, rSg, rCm, rSb, rDg⟩ := R
  have hW := N.1
  rcases ix_cases x (n := W) (by omega) with ⟨k, hk, rfl⟩ | hx
  · have h20 : k < 20 := by omega
    have hz := rWs.2.1 k h20
    have e0 := rWs.1 k hk
    refine ok_u (h1 := (m_si h 27 k 10 (bI b))) (b := m_gi h 43 0 k) (h2 := (m_si (m_si (m_sl (m_si h 27 k 10 (bI b)) 71 0 0 (vB (m_gi h 43 0 k))) 70 0 0 0) 43 0 k (bI b))) (L_screen_ret _ _ ?_) ?_ rfl rfl rfl rfl (Nat.le_add_right _ _) (Nat.le_add_right _ _) ?_
    · rw [← e0] at hz ⊢
      simp only [f_X10_screen, ao_69, c_workAt H N hk, bR_ra, gI_27, pZ_27 (nz_bI b), rz_of hz]
    · simp (decide := true) only [f_X11_screen_14, f_X11_screen, nz_0, nz_1, rz_bI, rz_0, rz_1, bI_eq0, bI_t, bI_f, bI_ri, bI_ex, bR_ra, bR_ex, bV_rt, bV_ex, bW_rt, bJ_ri, bIx_ri, bIx_ex, bVx_rt, bVx_ex, gi_ne, gi_eq, gi_sr, gi_sl, gi_th, gi_op, gr_si, gr_sl, gr_th, gr_op, gr_ne, gl_si, gl_sr, gl_th, gl_op, gl_eq, gi_al, gr_al, gl_al, nx_si, nx_sr, nx_sl, nx_th, nx_op, nx_al, nx_als, nc_si, nc_sr, nc_sl, nc_th, nc_op, nc_al, ns_si, ns_sr, ns_sl, ns_th, ns_op, ns_al, aI_31, sZ_31, aI_32, sI_32, aI_33, sI_33, aI_34, sI_34, aI_35, sI_35, aI_36, sI_36, aI_37, sI_37, aI_38, sZ_38, aI_39, sI_39, aI_40, sI_40, aI_41, sI_41, aI_42, sZ_42, aI_43, sZ_43, aI_44, sI_44, aI_45, sI_45, aI_46, sI_46, aI_47, sI_47, aI_48, sI_48, aI_49, sI_49, aI_50, sI_50, aI_51, sZ_51, aI_52, sZ_52, aI_53, sZ_53, aI_54, sI_54, aI_55, sI_55, aI_56, sI_56, aI_57, sI_57, aI_58, sZ_58, aI_59, sI_59, aI_60, sI_60, aI_61, sI_61, aI_62, sI_62, aI_63, sZ_63, aI_64, sZ_64, aI_65, sZ_65, aI_66, sI_66, aI_67, sI_67, aI_68, sZ_68, gI_70, gR_70, pI_70, pR_70, pZ_70, ao_70, aL_71, sL_71, pm_2 G, pm_3 G, pm_5 G, pm_6 G, pm_7 G, pm_8 G, pm_9 G, pm_10 G, pm_11 G, pm_12 G, pm_13 G, pm_14 G, pm_15 G, pm_16 G, pm_18 G, pm_19 G, pm_21 G, pm_22 G, pm_23 G, pm_25 G, pm_26 G, pm_27 G, pm_28 G, pm_31 G, pm_32 G, pm_33 G, pm_34 G, pm_35 G, pm_36 G, pm_38 G, pm_39 G, pm_40 G, pm_41 G, pm_42 G, pm_43 G, pm_44 G, pm_45 G, pm_46 G, r_isWork, N.2.2.1, isIx_ok (show W < 10000 by omega) hk, r_h0, n10, if_false, h20, nz_bI, rz_of hz]
    · have F : Frm (pX [(27, 10)] [43]) h (m_si (m_si (m_sl (m_si h 27 k 10 (bI b)) 71 0 0 (vB (m_gi h 43 0 k))) 70 0 0 0) 43 0 k (bI b)) := (((Frm.refl _ h).si rfl).sl.si rfl).si rfl
      refine ⟨W, Cn, Tn, Sn, Qn, ⟨H.frm F, G.frm F, rDay.frm F, rBlk.frm F, rSam.frm F, N.frm F, rWa.frm F, rWc.frm F, rWp.frm F, rWl.frm F, rWo.frm F, rWt.frm F, rWf.frm F, rWw.frm F, ?_, rWk.frm F, rCo.frm F, rTg.frm F, rPa.frm F, rTp.frm F, rSg.frm F, rCm.frm F, rSb.frm F, rDg.frm F⟩⟩
      have e1 : ∀ j, m_gi (m_si (m_si (m_sl (m_si h 27 k 10 (bI b)) 71 0 0 (vB (m_gi h 43 0 k))) 70 0 0 0) 43 0 k (bI b)) 27 j 10 = if j = k then bI b else m_gi h 27 j 10 := fun j => show m_gi (m_si h 27 k 10 (bI b)) 27 j 10 = _ from gi_upK
      have e2 : ∀ j, m_gi (m_si (m_si (m_sl (m_si h 27 k 10 (bI b)) 71 0 0 (vB (m_gi h 43 0 k))) 70 0 0 0) 43 0 k (bI b)) 43 0 j = if j = k then bI b else m_gi h 43 0 j := fun j => gi_upJ
      obtain ⟨a1, a2, a3⟩ := rWs
      refine ⟨fun j hj => ?_, fun j hj => ?_, fun j h1 h2 => ?_⟩
      · rw [e1, e2, a1 j hj]
      · rw [e2]; split
        · exact nz_bI b
        · exact a2 j hj
      · rw [e2, if_neg (by omega)]; exact a3 j h1 h2
  · refine ok_ex R0 (c := 1) (b := 0) (by decide) (L_screen_x0 _ _ ?_) ?_
    · simp only [f_X10_screen, ao_69, c_workAt_bad N hx, bR_ex]
    · simp (decide := true) only [f_X11_screen_14, f_X11_screen, nz_0, nz_1, rz_bI, rz_0, rz_1, bI_eq0, bI_t, bI_f, bI_ri, bI_ex, bR_ra, bR_ex, bV_rt, bV_ex, bW_rt, bJ_ri, bIx_ri, bIx_ex, bVx_rt, bVx_ex, gi_ne, gi_eq, gi_sr, gi_sl, gi_th, gi_op, gr_si, gr_sl, gr_th, gr_op, gr_ne, gl_si, gl_sr, gl_th, gl_op, gl_eq, gi_al, gr_al, gl_al, nx_si, nx_sr, nx_sl, nx_th, nx_op, nx_al, nx_als, nc_si, nc_sr, nc_sl, nc_th, nc_op, nc_al, ns_si, ns_sr, ns_sl, ns_th, ns_op, ns_al, aI_31, sZ_31, aI_32, sI_32, aI_33, sI_33, aI_34, sI_34, aI_35, sI_35, aI_36, sI_36, aI_37, sI_37, aI_38, sZ_38, aI_39, sI_39, aI_40, sI_40, aI_41, sI_41, aI_42, sZ_42, aI_43, sZ_43, aI_44, sI_44, aI_45, sI_45, aI_46, sI_46, aI_47, sI_47, aI_48, sI_48, aI_49, sI_49, aI_50, sI_50, aI_51, sZ_51, aI_52, sZ_52, aI_53, sZ_53, aI_54, sI_54, aI_55, sI_55, aI_56, sI_56, aI_57, sI_57, aI_58, sZ_58, aI_59, sI_59, aI_60, sI_60, aI_61, sI_61, aI_62, sI_62, aI_63, sZ_63, aI_64, sZ_64, aI_65, sZ_65, aI_66, sI_66, aI_67, sI_67, aI_68, sZ_68, gI_70, gR_70, pI_70, pR_70, pZ_70, ao_70, aL_71, sL_71, pm_2 G, pm_3 G, pm_5 G, pm_6 G, pm_7 G, pm_8 G, pm_9 G, pm_10 G, pm_11 G, pm_12 G, pm_13 G, pm_14 G, pm_15 G, pm_16 G, pm_18 G, pm_19 G, pm_21 G, pm_22 G, pm_23 G, pm_25 G, pm_26 G, pm_27 G, pm_28 G, pm_31 G, pm_32 G, pm_33 G, pm_34 G, pm_35 G, pm_36 G, pm_38 G, pm_39 G, pm_40 G, pm_41 G, pm_42 G, pm_43 G, pm_44 G, pm_45 G, pm_46 G, r_isWork, N.2.2.1, isIx_bad (show W < 10000 by omega) hx, r_h1, n00, if_true]
theorem op_sees {W Cn Tn Sn Qn : Nat} {h : am_H} (R : RR W Cn Tn Sn Qn h) (x y : Int32) : OpOK h (f_L_sees (some (69, 0)) x y (some (71, 0)) h) (f_X11_sees (70, 0) x y) vB := by
  have R0 := R
  obtain ⟨H, G, rDay, rBlk, rSam, N, rWa, rWc, rWp, rWl, rWo, rWt, rWf, rWw, rWs, rWk, rCo, rTg, rPa, rTp, rSg, rCm, rSb, rDg⟩ := R
  have hW := N.1
  obtain ⟨D, hD, d1, d2⟩ := rDay
  rcases ix_cases x (n := 32) (by omega) with ⟨f, hf, rfl⟩ | hx
  · rcases ix_cases y (n := W) (by omega) with ⟨k, hk, rfl⟩ | hy
    · have h20 : k < 20 := by omega
      refine ok_q R0 (b := bI (seenP h f k)) (L_sees_ret _ _ ?_) ?_
      · simp only [f_X10_sees, c_checkFace hf, bV_rt, ao_69, c_workAt H N hk, bR_ra, gI_69, ao_27, d1, ← d2, c_isSeenBy rWa rWp rWl rWo rCo hk hf, bI_ri, rz_bI]
      · skip
        have R2 : RR W Cn Tn Sn Qn (m_si (m_sl h 71 0 0 (vB (bI (seenP h f k)))) 70 0 0 0) := rr_eqv ((Frm.refl _ h).sl.si rfl) R0
        have e := r_isSeen R2.G R2.rWa R2.rWo R2.rCo hk h20 hf
        have es : seenP (m_si (m_sl h 71 0 0 (vB (bI (seenP h f k)))) 70 0 0 0) f k = seenP h f k := rfl
        simp (decide := true) only [f_X11_sees_41, f_X11_sees_40, f_X11_sees_21, f_X11_sees_20, f_X11_sees, ao_70, bI_ri, r_isFace, r_isWork, gi_sl, N.2.2.1, isIx_ok (show 32 < 10000 by omega) hf, isIx_ok (show W < 10000 by omega) hk, bI_t, r_h0, n10, if_false, e, es, bI_eq0, rz_0, rz_1]
        cases seenP h f k <;> rfl
    · refine ok_ex R0 (c := 1) (b := 0) (by decide) (L_sees_x0 _ _ ?_) ?_
      · simp only [f_X10_sees, c_checkFace hf, bV_rt, ao_69, c_workAt_bad N hy, bR_ex]
      · simp (decide := true) only [f_X11_sees_41, f_X11_sees_40, f_X11_sees_21, f_X11_sees_20, f_X11_sees, ao_70, bI_ri, r_isFace, r_isWork, gi_th, gi_op, N.2.2.1, isIx_ok (show 32 < 10000 by omega) hf, isIx_bad (show W < 10000 by omega) hy, bI_t, bI_f, r_h1, n10, n00, if_false, if_true, rz_0]
  · refine ok_ex R0 (c := 1) (b := 0) (by decide) (L_sees_x0 _ _ ?_) ?_
    · simp only [f_X10_sees, c_checkFace_bad hx, bV_ex]
    · simp (decide := true) only [f_X11_sees_41, f_X11_sees_40, f_X11_sees_21, f_X11_sees_20, f_X11_sees, ao_70, bI_ri, r_isFace, isIx_bad (show 32 < 10000 by omega) hx, bI_f, r_h1, n00, if_true, rz_0]
/-! ## a loop's frame -/
def Lp (P : Nat → Nat → Bool) (h g : am_H) : Prop := Frm P h g ∧ m_gl g = m_gl h ∧ m_nc g = m_nc h ∧ m_ns g = m_ns h
theorem Lp.refl (P : Nat → Nat → Bool) (h : am_H) : Lp P h h := ⟨Frm.refl P h, rfl, rfl, rfl⟩
theorem Lp.si {P : Nat → Nat → Bool} {h g : am_H} (F : Lp P h g) {s k j : Nat} {v : Int32} (p : P s j = false) : Lp P h (m_si g s k j v) := ⟨F.1.si p, F.2⟩
theorem Lp.cp {P : Nat → Nat → Bool} {h g : am_H} (F : Lp P h g) {s k sp t w dp n : Nat} (p : ∀ j, P t j = false) : Lp P h (m_cp g s k sp t w dp n) := ⟨F.1.cp p, F.2⟩
theorem Lp.trans {P : Nat → Nat → Bool} {a b c : am_H} (h1 : Lp P a b) (h2 : Lp P b c) : Lp P a c := ⟨h1.1.trans h2.1, h2.2.1.trans h1.2.1, h2.2.2.1.trans h1.2.2.1, h2.2.2.2.trans h1.2.2.2⟩
/-! ## ways up -/
def Pth (R : Nat → Nat → Prop) : Nat → Nat → Nat → Prop
  | 0, t, u => R t u
  | n + 1, t, u => Pth R n t u ∨ (Pth R n t n ∧ Pth R n n u)
theorem Pth.tg {R : Nat → Nat → Prop} : ∀ {n t u : Nat}, Pth R n t u → Relation.TransGen R t u
  | 0, _, _, h => Relation.TransGen.single h
  | _ + 1, _, _, h => by
    rcases h with h | ⟨h1, h2⟩
    · exact Pth.tg h
    · exact Relation.TransGen.trans (Pth.tg h1) (Pth.tg h2)
theorem Pth.tr {R : Nat → Nat → Prop} : ∀ {n m t u : Nat}, m < n → Pth R n t m → Pth R n m u → Pth R n t u
  | 0, m, _, _, hm, _, _ => absurd hm (Nat.not_lt_zero _)
  | n + 1, m, t, u, hm, h1, h2 => by
    rcases Nat.lt_or_ge m n with hn | hn
    · rcases h1 with h1 | ⟨a1, a2⟩ <;> rcases h2 with h2 | ⟨b1, b2⟩
      · exact Or.inl (Pth.tr hn h1 h2)
      · exact Or.inr ⟨Pth.tr hn h1 b1, b2⟩
      · exact Or.inr ⟨a1, Pth.tr hn a2 h2⟩
      · exact Or.inr ⟨a1, b2⟩
    · have e : m = n := by omega
      subst e
      have k1 : Pth R m t m := by rcases h1 with h1 | h1
                                  · exact h1
                                  · exact h1.1
      have k2 : Pth R m m u := by rcases h2 with h2 | h2
                                  · exact h2
                                  · exact h2.2
      exact Or.inr ⟨k1, k2⟩
theorem Pth.le {R : Nat → Nat → Prop} {t u : Nat} : ∀ {n : Nat}, R t u → Pth R n t u
  | 0, h => h
  | _ + 1, h => Or.inl (Pth.le h)
theorem Pth.of_tg {R : Nat → Nat → Prop} {N : Nat} (hR : ∀ a b, R a b → a < N) {t u : Nat} (h : Relation.TransGen R t u) : Pth R N t u := by
  induction h with
  | single h => exact Pth.le h
  | tail _ h2 ih => exact Pth.tr (hR _ _ h2) ih (Pth.le h2)
theorem Pth.self {R : Nat → Nat → Prop} {n u : Nat} : Pth R (n + 1) n u ↔ Pth R n n u := by
  constructor
  · rintro (h | h)
    · exact h
    · exact h.2
  · exact Or.inl
theorem m_gi_cp {h : am_H} {s k sp t w dp n a b c : Nat} : m_gi (m_cp h s k sp t w dp n) a b c = if a = t ∧ b = w then (if dp ≤ c ∧ c < dp + n then m_gi h s k (sp + (c - dp)) else m_gi h t w c) else m_gi h a b c := rfl
theorem cpy_12 {h : am_H} {K : am_H → am_R} : m_cpy (some (12, 0)) 0 (some (13, 0)) 0 30 h K = K (m_cp h 12 0 0 13 0 0 30) := rfl
section Above
variable {Tn : Nat} {h : am_H}
theorem c_fa27 (hT : Tn ≤ 30) {R : Nat → Nat → Prop} {b : Nat} (hb : b < Tn) (rc : Nat × Nat → Int32 → am_H → am_R) (H : ShC h) (e0 : m_gi h 21 0 0 = nI Tn) : ∀ (n k : Nat) (g : am_H), k ≤ Tn → Tn < k + n → Lp (pX [] [13]) h g →
    (∀ t u, t < k → u < 32 → (bt (m_gi g 13 0 t) u = true ↔ Pth R (b + 1) t u)) → (∀ t u, k ≤ t → t < 30 → u < 32 → (bt (m_gi g 13 0 t) u = true ↔ Pth R b t u)) →
    (∀ t u, Tn ≤ t → t < 30 → u < 32 → ¬ Pth R (b + 1) t u) →
    ∃ g', f_X7_findAbove_27 rc n (21, 0) (nI b) (nI k) g = rc (21, 0) (nI (b + 1)) g' ∧ Lp (pX [] [13]) h g' ∧ ∀ t u, t < 30 → u < 32 → (bt (m_gi g' 13 0 t) u = true ↔ Pth R (b + 1) t u)
  | 0, k, g, h1, h2, _, _, _, _ => by omega
  | n + 1, k, g, h1, h2, F, i1, i2, i3 => by
    have e1 : m_gi g 21 0 0 = nI Tn := by rw [F.1.1 21 0 0 rfl, e0]
    have p3 : m_gr g 21 0 3 = some (13, 0) := by rw [F.1.2.1 21 0 3 rfl, pc_abv H]
    rw [f_X7_findAbove_27]
    simp only [gI_21, e1, gR_21, p3, i_le (show Tn < 10000 by omega) (show k < 10000 by omega), nI_1]
    by_cases hk : Tn ≤ k
    · have : k = Tn := by omega
      subst this
      rw [if_pos (Nat.le_refl _)]
      refine ⟨g, rfl, F, fun t u ht hu => ?_⟩
      rcases Nat.lt_or_ge t k with q | q
      · exact i1 t u q hu
      · rw [i2 t u q ht hu]
        exact ⟨fun z => Or.inl z, fun z => absurd z (i3 t u q ht hu)⟩
    · rw [if_neg hk]
      have hk2 : k < Tn := by omega
      have hb32 : b < 32 := by omega
      simp only [aI_13 (show k < 30 by omega), aI_13 (show b < 30 by omega), sI_13 (show k < 30 by omega), c_has hb32, bJ_ri, bI_eq0, f_X7_findAbove_63, nI_1]
      have rowb : ∀ u, u < 32 → (bt (m_gi g 13 0 b) u = true ↔ Pth R b b u) := fun u hu => by
        rcases Nat.lt_or_ge b k with q | q
        · rw [i1 b u q hu, Pth.self]
        · exact i2 b u q (by omega) hu
      by_cases hkb : bt (m_gi g 13 0 k) b = true
      · rw [if_neg (by rw [hkb]; simp)]
        refine c_fa27 hT hb rc H e0 n (k + 1) _ hk2 (by omega) (F.si (s := 13) (k := 0) (j := k) rfl) (fun t u ht hu => ?_) (fun t u ht ht2 hu => ?_) i3
        · rw [gi_upJ]
          by_cases e : t = k
          · subst e
            rw [if_pos rfl, b_or, Bool.or_eq_true, i2 t u (Nat.le_refl _) (by omega) hu, rowb u hu]
            exact ⟨fun z => z.elim Or.inl (fun z => Or.inr ⟨(i2 t b (Nat.le_refl _) (by omega) hb32).mp hkb, z⟩), fun z => z.elim Or.inl (fun z => Or.inr z.2)⟩
          · rw [if_neg e]; exact i1 t u (by omega) hu
        · rw [gi_upJ, if_neg (by omega)]; exact i2 t u (by omega) ht2 hu
      · rw [if_pos (by simpa using hkb)]
        refine c_fa27 hT hb rc H e0 n (k + 1) g hk2 (by omega) F (fun t u ht hu => ?_) (fun t u ht ht2 hu => i2 t u (by omega) ht2 hu) i3
        by_cases e : t = k
        · subst e
          rw [i2 t u (Nat.le_refl _) (by omega) hu]
          exact ⟨fun z => Or.inl z, fun z => z.elim id (fun z => absurd ((i2 t b (Nat.le_refl _) (by omega) hb32).mpr z.1) hkb)⟩
        · exact i1 t u (by omega) hu
theorem c_fa17 (hT : Tn ≤ 30) {R : Nat → Nat → Prop} (H : ShC h) (e0 : m_gi h 21 0 0 = nI Tn) (hR : ∀ a b, R a b → a < Tn) : ∀ (n b : Nat) (g : am_H), b ≤ Tn → Tn < b + n → Lp (pX [] [13]) h g →
    (∀ t u, t < 30 → u < 32 → (bt (m_gi g 13 0 t) u = true ↔ Pth R b t u)) →
    ∃ g', f_X7_findAbove_17 n (21, 0) (nI b) g = m_rt g' none ∧ Lp (pX [] [13]) h g' ∧ ∀ t u, t < 30 → u < 32 → (bt (m_gi g' 13 0 t) u = true ↔ Pth R Tn t u)
  | 0, b, g, h1, h2, _, _ => by omega
  | n + 1, b, g, h1, h2, F, i1 => by
    have e1 : m_gi g 21 0 0 = nI Tn := by rw [F.1.1 21 0 0 rfl, e0]
    rw [f_X7_findAbove_17]
    simp only [gI_21, e1, i_le (show Tn < 10000 by omega) (show b < 10000 by omega)]
    by_cases hk : Tn ≤ b
    · have : b = Tn := by omega
      subst this
      rw [if_pos (Nat.le_refl _)]
      exact ⟨g, rfl, F, i1⟩
    · rw [if_neg hk]
      have np : ∀ m t u, Tn ≤ t → ¬ Pth R m t u := fun m t u ht z => by
        have q : ∀ {a c : Nat}, Relation.TransGen R a c → a < Tn := fun {a c} w => by
          induction w with
          | single h => exact hR _ _ h
          | tail _ _ ih => exact ih
        have := q (Pth.tg z)
        omega
      obtain ⟨g1, r1, F1, j1⟩ := c_fa27 (h := h) hT (R := R) (b := b) (by omega) (f_X7_findAbove_17 n) H e0 5000 0 g (by omega) (by omega) F (fun t u ht => absurd ht (by omega)) (fun t u _ ht hu => i1 t u ht hu) (fun t u ht _ _ => np _ t u ht)
      obtain ⟨g2, r2, F2, j2⟩ := c_fa17 hT H e0 hR n (b + 1) g1 (by omega) (by omega) F1 j1
      exact ⟨g2, by rw [show (0 : Int32) = nI 0 from nI_0.symm, r1, r2], F2, j2⟩
theorem c_findAbove (hT : Tn ≤ 30) (H : ShC h) (e0 : m_gi h 21 0 0 = nI Tn) (hR : ∀ a b, a < 30 → bt (m_gi h 12 0 a) b = true → a < Tn) :
    ∃ g, f_X7_findAbove (21, 0) h = m_rt g none ∧ Lp (pX [] [13]) h g ∧ ∀ t u, t < 30 → u < 32 → (bt (m_gi g 13 0 t) u = true ↔ Relation.TransGen (fun a b => a < 30 ∧ bt (m_gi h 12 0 a) b = true) t u) := by
  have F0 : Lp (pX [] [13]) h (m_cp h 12 0 0 13 0 0 30) := (Lp.refl _ h).cp (fun _ => rfl)
  have i0 : ∀ t u, t < 30 → u < 32 → (bt (m_gi (m_cp h 12 0 0 13 0 0 30) 13 0 t) u = true ↔ Pth (fun a b => a < 30 ∧ bt (m_gi h 12 0 a) b = true) 0 t u) := fun t u ht hu => by
    rw [m_gi_cp, if_pos ⟨rfl, rfl⟩, if_pos (by omega)]
    have e : 0 + (t - 0) = t := by omega
    rw [e]
    exact ⟨fun z => ⟨ht, z⟩, fun z => z.2⟩
  obtain ⟨g, r, F, j⟩ := c_fa17 (h := h) hT (R := fun a b => a < 30 ∧ bt (m_gi h 12 0 a) b = true) H e0 (fun a b z => hR a b z.1 z.2) 5000 0 _ (by omega) (by omega) F0 i0
  refine ⟨g, ?_, F, fun t u ht hu => (j t u ht hu).trans ⟨Pth.tg, fun z => Pth.of_tg (fun a b q => hR a b q.1 q.2) z⟩⟩
  rw [f_X7_findAbove]
  simp only [gR_21, pc_par H, pc_abv H, cpy_12]
  rw [← nI_0]
  exact r
end Above
/-! ## tags: kinds, meanings, what is above -/
theorem cnt_mono {P Q : Nat → Bool} : ∀ {n : Nat}, (∀ i, i < n → P i = true → Q i = true) → cnt P n ≤ cnt Q n
  | 0, _ => Nat.le_refl _
  | n + 1, h => by
    have ih := cnt_mono (P := P) (Q := Q) (n := n) (fun i hi => h i (by omega))
    rw [cnt, cnt]
    have := h n (by omega)
    cases hp : P n
    · simp; omega
    · rw [this hp]; simp; exact ih
theorem cnt_lt {P Q : Nat → Bool} : ∀ {n i : Nat}, i < n → (∀ i, i < n → P i = true → Q i = true) → P i = false → Q i = true → cnt P n < cnt Q n
  | 0, _, hi, _, _, _ => absurd hi (by omega)
  | n + 1, i, hi, h, hp, hq => by
    rw [cnt, cnt]
    by_cases e : i = n
    · subst e
      have := cnt_mono (P := P) (Q := Q) (n := i) (fun j hj => h j (by omega))
      rw [hp, hq]; simp; omega
    · have ih := cnt_lt (P := P) (Q := Q) (n := n) (i := i) (by omega) (fun j hj => h j (by omega)) hp hq
      have := h n (by omega)
      cases hpn : P n
      · simp; omega
      · rw [this hpn]; simp; omega
theorem pcn_lt {s t : Int32} (hst : ∀ i, i < 32 → bt s i = true → bt t i = true) (hne : s ≠ t) : pcn s 32 < pcn t 32 := by
  rw [pcn_cnt, pcn_cnt]
  have : ∃ i, i < 32 ∧ bt s i = false ∧ bt t i = true := by
    apply Classical.byContradiction
    intro hn
    apply hne
    apply b_ext
    intro i hi
    cases hs : bt s i
    · cases ht : bt t i
      · rfl
      · exact absurd ⟨i, hi, hs, ht⟩ hn
    · rw [hst i hi hs]
  obtain ⟨i, hi, h1, h2⟩ := this
  exact cnt_lt hi hst h1 h2
/-- x with the f k of all k below n that c holds of -/
def orS (f : Nat → Int32) (c : Nat → Bool) (x : Int32) : Nat → Int32
  | 0 => x
  | n + 1 => orS f c x n ||| (if c n then f n else 0)
theorem bt_orS {f : Nat → Int32} {c : Nat → Bool} {x : Int32} {i : Nat} : ∀ {n : Nat}, bt (orS f c x n) i = true ↔ bt x i = true ∨ ∃ k, k < n ∧ c k = true ∧ bt (f k) i = true
  | 0 => ⟨Or.inl, fun h => h.elim id (fun ⟨k, hk, _⟩ => absurd hk (by omega))⟩
  | n + 1 => by
    rw [orS, b_or, Bool.or_eq_true, bt_orS (n := n)]
    constructor
    · rintro ((h | ⟨k, hk, h1, h2⟩) | h)
      · exact Or.inl h
      · exact Or.inr ⟨k, by omega, h1, h2⟩
      · cases hc : c n
        · rw [hc] at h; simp [b_0] at h
        · rw [hc] at h; exact Or.inr ⟨n, by omega, hc, by simpa using h⟩
    · rintro (h | ⟨k, hk, h1, h2⟩)
      · exact Or.inl (Or.inl h)
      · by_cases e : k = n
        · subst e; right; rw [h1]; simpa using h2
        · exact Or.inl (Or.inr ⟨k, by omega, h1, h2⟩)
section Tags
variable {W Tn : Nat} {h : am_H} {t : Nat}
theorem c_kindOf (H : ShC h) (T : RTg Tn h) (ht : t < Tn) : f_X7_kindOf (21, 0) (nI t) h = m_ri h (m_gi h 47 0 t) := by
  have hT := T.1
  simp only [f_X7_kindOf_27, f_X7_kindOf, gR_21, pc_mean H, aI_11 (show t < 30 by omega)]
  rcases T.2.2.2.1 t ht with ⟨a, b⟩ | ⟨a, b⟩ | ⟨a, m, hm, hne, b, _, _⟩
  · rw [b, if_pos rfl, a]
  · rw [b, if_neg (nI_m1 (by omega)), if_pos rfl, a]
  · rw [b, if_neg (nI_m1 (by omega)), if_neg (by rw [i_eq (by omega) (by omega)]; exact hne), a]
theorem r_meaning (G : ShM h) (T : RTg Tn h) (ht : t < Tn) : f_X11_meaning (70, 0) (nI t) h = m_ri h (m_gi h 11 0 t) := by
  have hT := T.1
  simp only [f_X11_meaning_34, f_X11_meaning, gR_70, pm_21 G, aI_47 (show t < 30 by omega), pm_22 G, aI_48 (show t < 30 by omega)]
  rcases T.2.2.2.1 t ht with ⟨a, b⟩ | ⟨a, b⟩ | ⟨a, m, hm, hne, b, b2, _⟩
  · rw [a, b]; rfl
  · rw [a, b]; rfl
  · rw [a, b, b2]; rfl
theorem c_isAbove (H : ShC h) (ht : t < 30) {u : Nat} (hu : u < 32) : f_X7_isAbove (21, 0) (nI u) (nI t) h = m_ri h (bI (bt (m_gi h 13 0 t) u)) := by
  simp only [f_X7_isAbove, gR_21, pc_abv H, aI_13 ht, c_has hu, bJ_ri, rz_bI]
theorem c_isParent (H : ShC h) (ht : t < 30) {u : Nat} (hu : u < 32) : f_X7_isParent (21, 0) (nI u) (nI t) h = m_ri h (bI (bt (m_gi h 12 0 t) u)) := by
  simp only [f_X7_isParent, gR_21, pc_par H, aI_12 ht, c_has hu, bJ_ri, rz_bI]
theorem or_0 (x : Int32) : x ||| 0 = x := by
  apply b_ext; intro i _; rw [b_or, b_0, Bool.or_false]
theorem r_abv19 (G : ShM h) (e : m_gi h 70 0 20 = nI Tn) (hT : Tn ≤ 30) (rc : Nat × Nat → Int32 → Int32 → am_H → am_R) (s : Int32) : ∀ (n k : Nat), k ≤ Tn → Tn < k + n →
    f_X11_aboveOf_19 rc n (70, 0) (orS (fun j => m_gi h 49 0 j) (bt s) s k) s (nI k) h = rc (70, 0) (orS (fun j => m_gi h 49 0 j) (bt s) s Tn) s h
  | 0, k, h1, h2 => by omega
  | n + 1, k, h1, h2 => by
    rw [f_X11_aboveOf_19]
    simp only [gI_70, e, i_le (show Tn < 10000 by omega) (show k < 10000 by omega)]
    by_cases hk : Tn ≤ k
    · rw [if_pos hk, show k = Tn by omega]
    · rw [if_neg hk]
      have ih := r_abv19 G e hT rc s n (k + 1) (by omega) (by omega)
      rw [orS] at ih
      simp only [r_has (show k < 32 by omega), bI_ri, gR_70, pm_23 G, aI_49 (show k < 30 by omega), f_X11_aboveOf_49, nI_1, bI_eq0]
      cases hb : bt s k
      · rw [hb] at ih
        simpa using ih
      · rw [hb] at ih
        simpa using ih
theorem r_abv9 (G : ShM h) (T : RTg Tn h) (A : RPa Tn h) (ht : t < 30) : ∀ (n : Nat) (s b : Int32), (∀ u, u < 32 → bt s u = true → bt (m_gi h 13 0 t) u = true) → (∀ u, bt (m_gi h 49 0 t) u = true → bt s u = true) →
    (b = -1 ∨ s = orS (fun j => m_gi h 49 0 j) (bt b) b Tn) → (34 ≤ n + pcn s 32 ∨ (s = b ∧ 1 ≤ n)) → f_X11_aboveOf_9 n (70, 0) s b h = m_ri h (m_gi h 13 0 t)
  | 0, s, b, _, _, _, h4 => by
    have := pcn_le s 32
    omega
  | n + 1, s, b, h1, h2, h3, h4 => by
    have hT := T.1
    obtain ⟨A1, A2, A3⟩ := A
    have hi : ∀ {u v : Nat}, v < 32 → Relation.TransGen (fun a b => a < 30 ∧ bt (m_gi h 49 0 a) b = true) u v → v < Tn := fun {u v} _ w => by
      cases w with
      | single q => exact (A2 _ _ q.1 q.2).2.1
      | tail _ q => exact (A2 _ _ q.1 q.2).2.1
    rw [f_X11_aboveOf_9]
    by_cases e : s = b
    · rw [if_pos e]
      rcases h3 with h3 | h3
      · exfalso
        have q := h1 31 (by omega) (by rw [e, h3]; exact b_m1 31 (by omega))
        have := hi (by omega) ((A3 t 31 ht (by omega)).mp q)
        omega
      · rw [← e] at h3
        have hc : ∀ k, k < Tn → bt s k = true → ∀ u, bt (m_gi h 49 0 k) u = true → bt s u = true := fun k hk hb u hu => by
          rw [h3]; exact bt_orS.mpr (Or.inr ⟨k, hk, hb, hu⟩)
        congr 1
        apply b_ext
        intro u hu
        cases hs : bt s u
        · cases ha : bt (m_gi h 13 0 t) u
          · rfl
          · exfalso
            have w := (A3 t u ht hu).mp ha
            have : bt s u = true := by
              clear hs ha hu
              induction w with
              | single q => exact h2 _ q.2
              | tail w q ih => exact hc _ (A2 _ _ q.1 q.2).1 ih _ q.2
            rw [this] at hs; cases hs
        · exact (h1 u hu hs).symm
    · rw [if_neg e]
      have e0 : orS (fun j => m_gi h 49 0 j) (bt s) s 0 = s := rfl
      have key := r_abv19 G T.2.2.1 hT (f_X11_aboveOf_9 n) s 5000 0 (by omega) (by omega)
      rw [e0, nI_0] at key
      rw [key]
      apply r_abv9 G T ⟨A1, A2, A3⟩ ht n
      · intro u hu hb
        rcases bt_orS.mp hb with q | ⟨k, hk, q1, q2⟩
        · exact h1 u hu q
        · exact (A3 t u ht hu).mpr (Relation.TransGen.tail ((A3 t k ht (by omega)).mp (h1 k (by omega) q1)) ⟨by omega, q2⟩)
      · intro u hu
        exact bt_orS.mpr (Or.inl (h2 u hu))
      · exact Or.inr rfl
      · by_cases e2 : s = orS (fun j => m_gi h 49 0 j) (bt s) s Tn
        · have := pcn_le s 32
          exact Or.inr ⟨e2.symm, by omega⟩
        · have := pcn_lt (fun u _ hu => bt_orS.mpr (Or.inl hu)) e2
          left
          omega
theorem r_aboveOf (G : ShM h) (T : RTg Tn h) (A : RPa Tn h) (ht : t < 30) : f_X11_aboveOf (70, 0) (nI t) h = m_ri h (m_gi h 13 0 t) := by
  simp only [f_X11_aboveOf, gR_70, pm_23 G, aI_49 ht]
  exact r_abv9 G T A ht 5000 _ _ (fun u hu hb => (A.2.2 t u ht hu).mpr (Relation.TransGen.single ⟨ht, hb⟩)) (fun u hu => hu) (Or.inl rfl) (Or.inl (by omega))
/-- where a set of tags belongs -/
def blg (h : am_H) (s : Int32) : Nat → Int32
  | 0 => 0
  | n + 1 => blg h s n ||| (if bt s n && !decide (m_gi h 11 0 n = -1) then one (m_gi h 11 0 n).toNatClampNeg ||| m_gi h 13 0 (m_gi h 11 0 n).toNatClampNeg else 0)
def mns (h : am_H) (s : Int32) : Nat → Int32
  | 0 => 0
  | n + 1 => mns h s n ||| (if bt s n && !decide (m_gi h 11 0 n = -1) then one (m_gi h 11 0 n).toNatClampNeg else 0)
theorem t_mean (T : RTg Tn h) (ht : t < Tn) : m_gi h 11 0 t = -1 ∨ ∃ m, m < Tn ∧ m_gi h 11 0 t = nI m := by
  rcases T.2.2.2.1 t ht with ⟨_, b⟩ | ⟨_, b⟩ | ⟨_, m, hm, _, b, _⟩
  · exact Or.inl b
  · exact Or.inr ⟨t, ht, b⟩
  · exact Or.inr ⟨m, hm, b⟩
theorem c_belongUnder4 (H : ShC h) (T : RTg Tn h) (s : Int32) : ∀ (n k : Nat), k ≤ Tn → Tn < k + n → f_X7_belongUnder_4 n (21, 0) s (blg h s k) (nI k) h = m_ri h (blg h s Tn)
  | 0, k, h1, h2 => by omega
  | n + 1, k, h1, h2 => by
    have hT := T.1
    rw [f_X7_belongUnder_4]
    simp only [gI_21, T.2.1, i_le (show Tn < 10000 by omega) (show k < 10000 by omega)]
    by_cases hk : Tn ≤ k
    · rw [if_pos hk, show k = Tn by omega]
    · rw [if_neg hk]
      have ih := c_belongUnder4 H T s n (k + 1) (by omega) (by omega)
      rw [blg] at ih
      simp only [c_has (show k < 32 by omega), bJ_ri, gR_21, pc_mean H, pc_abv H, aI_11 (show k < 30 by omega), f_X7_belongUnder_53, nI_1, bI_eq0]
      cases hb : bt s k
      · rw [hb] at ih; simpa [or_0] using ih
      · rw [hb] at ih
        rcases t_mean T (show k < Tn by omega) with q | ⟨m, hm, q⟩
        · rw [q] at ih ⊢; simpa [or_0] using ih
        · rw [q, nI_clamp (show m < 2 ^ 31 by omega)] at ih
          rw [q]
          simp only [aI_13 (show m < 30 by omega), eq_false (nI_m1 (show m < 10000 by omega)), if_false, one_eq] at ih ⊢
          simpa using ih
theorem c_belongUnder (H : ShC h) (T : RTg Tn h) (s : Int32) : f_X7_belongUnder (21, 0) s h = m_ri h (blg h s Tn) := by
  rw [f_X7_belongUnder]
  have := c_belongUnder4 H T s 5000 0 (by omega) (by have := T.1; omega)
  rw [nI_0] at this
  exact this
theorem c_meaningsOf4 (H : ShC h) (T : RTg Tn h) (s : Int32) : ∀ (n k : Nat), k ≤ Tn → Tn < k + n → f_X7_meaningsOf_4 n (21, 0) s (mns h s k) (nI k) h = m_ri h (mns h s Tn)
  | 0, k, h1, h2 => by omega
  | n + 1, k, h1, h2 => by
    have hT := T.1
    rw [f_X7_meaningsOf_4]
    simp only [gI_21, T.2.1, i_le (show Tn < 10000 by omega) (show k < 10000 by omega)]
    by_cases hk : Tn ≤ k
    · rw [if_pos hk, show k = Tn by omega]
    · rw [if_neg hk]
      have ih := c_meaningsOf4 H T s n (k + 1) (by omega) (by omega)
      rw [mns] at ih
      simp only [c_has (show k < 32 by omega), bJ_ri, gR_21, pc_mean H, aI_11 (show k < 30 by omega), f_X7_meaningsOf_41, nI_1, bI_eq0]
      cases hb : bt s k
      · rw [hb] at ih; simpa [or_0] using ih
      · rw [hb] at ih
        rcases t_mean T (show k < Tn by omega) with q | ⟨m, hm, q⟩
        · rw [q] at ih ⊢; simpa [or_0] using ih
        · rw [q, nI_clamp (show m < 2 ^ 31 by omega)] at ih
          rw [q]
          simp only [eq_false (nI_m1 (show m < 10000 by omega)), if_false, one_eq] at ih ⊢
          simpa using ih
theorem c_meaningsOf (H : ShC h) (T : RTg Tn h) (s : Int32) : f_X7_meaningsOf (21, 0) s h = m_ri h (mns h s Tn) := by
  rw [f_X7_meaningsOf]
  have := c_meaningsOf4 H T s 5000 0 (by omega) (by have := T.1; omega)
  rw [nI_0] at this
  exact this
theorem r_belongs4 (G : ShM h) (T : RTg Tn h) (A : RPa Tn h) {w : Nat} (hw : w < 20) : ∀ (n k : Nat), k ≤ Tn → Tn < k + n → f_X11_belongs_4 n (70, 0) (nI w) (blg h (m_gi h 40 0 w) k) (nI k) h = m_ri h (blg h (m_gi h 40 0 w) Tn)
  | 0, k, h1, h2 => by omega
  | n + 1, k, h1, h2 => by
    have hT := T.1
    rw [f_X11_belongs_4]
    simp only [gI_70, T.2.2.1, i_le (show Tn < 10000 by omega) (show k < 10000 by omega)]
    by_cases hk : Tn ≤ k
    · rw [if_pos hk, show k = Tn by omega]
    · rw [if_neg hk]
      have ih := r_belongs4 G T A hw n (k + 1) (by omega) (by omega)
      rw [blg] at ih
      simp only [gR_70, pm_12 G, aI_40 hw, r_has (show k < 32 by omega), bI_ri, ao_70, r_meaning G T (show k < Tn by omega), f_X11_belongs_34, f_X11_belongs_58, nI_1, bI_eq0]
      cases hb : bt (m_gi h 40 0 w) k
      · rw [hb] at ih; simpa [or_0] using ih
      · rw [hb] at ih
        rcases t_mean T (show k < Tn by omega) with q | ⟨m, hm, q⟩
        · rw [q] at ih ⊢; simpa [or_0] using ih
        · rw [q, nI_clamp (show m < 2 ^ 31 by omega)] at ih
          rw [q]
          simp only [r_aboveOf G T A (show m < 30 by omega), bI_ri, eq_false (nI_m1 (show m < 10000 by omega)), if_false, one_eq] at ih ⊢
          simpa using ih
theorem r_belongs (G : ShM h) (T : RTg Tn h) (A : RPa Tn h) {w : Nat} (hw : w < 20) : f_X11_belongs (70, 0) (nI w) h = m_ri h (blg h (m_gi h 40 0 w) Tn) := by
  rw [f_X11_belongs]
  have := r_belongs4 G T A hw 5000 0 (by omega) (by have := T.1; omega)
  rw [nI_0] at this
  exact this
theorem blg_hi (T : RTg Tn h) (A : RPa Tn h) (s : Int32) : ∀ n, n ≤ Tn → ∀ i, Tn ≤ i → bt (blg h s n) i = false
  | 0, _, i, _ => b_0 i
  | n + 1, hn, i, hi => by
    have hT := T.1
    rw [blg, b_or, blg_hi T A s n (by omega) i hi, Bool.false_or]
    split
    · rename_i hc
      rcases t_mean T (show n < Tn by omega) with q | ⟨m, hm, q⟩
      · rw [q] at hc; simp at hc
      · rw [q, nI_clamp (show m < 2 ^ 31 by omega)]
        rcases Nat.lt_or_ge i 32 with h32 | h32
        · rw [b_or, bt_one (by omega) h32, decide_eq_false (by omega), Bool.false_or]
          cases ha : bt (m_gi h 13 0 m) i
          · rfl
          · exfalso
            have w := (A.2.2 m i (by omega) h32).mp ha
            have : i < Tn := by
              cases w with
              | single q => exact (A.2.1 _ _ q.1 q.2).2.1
              | tail _ q => exact (A.2.1 _ _ q.1 q.2).2.1
            omega
        · exact b_big h32
    · exact b_0 i
end Tags
