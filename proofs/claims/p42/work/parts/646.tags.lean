/-! ## questions to one object, whose ghost stays as it is -/
theorem qry {b : Bool} {g h : am_H} (O : Ob b g h) {rc r : am_R} {v : Int32} (hc : eqQ Sc (rhoS b) g h rc r) (e : rc = m_ri g v) : ∃ h', r = m_ri h' v ∧ PostC b g h g h' 0 := by
  rcases hc with ⟨z, -⟩ | ⟨hs, hb, o, o', d1, d2, d3, d4⟩
  · rw [e] at z; cases z
  · rw [e] at d1; cases d1
    rcases o' with (_ | y | y | y) | y <;> first | exact d4.elim | skip
    cases d4
    obtain ⟨f1, f2, f3, f4, c, n, f5, f6, f7, f8⟩ := d3
    have c0 : c = 0 := by omega
    have n0 : n = 0 := by omega
    exact ⟨hb, d2, ⟨f1, O.2⟩, fun k j q => f3 k j q, fun s hs => by rw [(f4 s).2], ⟨by omega, by omega⟩⟩
theorem qrx {b : Bool} {g h : am_H} (O : Ob b g h) {rc r : am_R} {k : Nat} (hc : eqQ Sc (rhoS b) g h rc r) (e : rc = m_ex g k) : ∃ h', r = some (h', .inr k) ∧ PostC b g h g (m_op h') 1 := by
  rcases hc with ⟨z, -⟩ | ⟨hs, hb, o, o', d1, d2, d3, d4⟩
  · rw [e] at z; cases z
  · rw [e] at d1; cases d1
    rcases o' with (_ | y | y | y) | y <;> first | exact d4.elim | skip
    cases d4
    obtain ⟨f1, f2, f3, f4, c, n, f5, f6, f7, f8⟩ := d3
    have c0 : c = 1 := by
      have : m_nc (m_th g) = m_nc g + 1 := rfl
      omega
    have n0 : n = 6 := by
      have : m_ns (m_th g) = m_ns g + 6 := rfl
      omega
    refine ⟨hb, d2, ⟨⟨fun a j s => f1.1 a j s, fun a j s => f1.2 a j s⟩, O.2⟩, fun k j q => f3 k j q, fun s hs => ?_, ⟨?_, ?_⟩⟩
    · rw [nx_op (nx_list hs).1, (f4 s).2]
    · show m_nc hb ≤ _; omega
    · show m_ns hb ≤ _; omega
/-- the law goes on with one object, and comes to true -/
def TgR (b : Bool) (g : am_H) (N : Nat) (h : am_H) (r : am_R) : Prop := ∃ h', r = m_ri h' 1 ∧ PostC b g h g h' N
theorem TgR.le {b : Bool} {g h : am_H} {N M : Nat} {r : am_R} (A : TgR b g N h r) (hm : N ≤ M) : TgR b g M h r := by
  obtain ⟨h', a1, a2⟩ := A
  exact ⟨h', a1, a2.le hm⟩
theorem TgR.step {b : Bool} {g h h1 : am_H} {N c : Nat} {r : am_R} (P : PostC b g h g h1 c) (A : TgR b g N h1 r) : TgR b g (c + N) h r := by
  obtain ⟨h', a1, a2⟩ := A
  exact ⟨h', a1, P.trans a2⟩
theorem tg_bI {b : Bool} {g h : am_H} (O : Ob b g h) {rc r : am_R} {v : Int32} {K : am_H → Int32 → am_R} {N : Nat} (hc : eqQ Sc (rhoS b) g h rc r) (e : rc = m_ri g v) (k : ∀ h', Ob b g h' → TgR b g N h' (K h' v)) : TgR b g N h (m_bI r K) := by
  obtain ⟨h', e1, P⟩ := qry O hc e
  rw [e1, bI_ri]
  exact (TgR.step P (k h' P.1)).le (by omega)
theorem tg_does {b : Bool} {g h : am_H} (O : Ob b g h) {rc r rd : am_R} {val : Int32 → Int32} {v : Int32} {K : am_H → Int32 → am_R} {N : Nat} (hc : eqQ Sc (rhoS b) g h rc r) (e : rc = m_ri g v) (D : Dz rd r val) (k : ∀ h', Ob b g h' → TgR b g N h' (K h' (val v))) : TgR b g N h (m_bI rd K) := by
  obtain ⟨h', e1, P⟩ := qry O hc e
  rw [D.1 _ _ e1, bI_ri]
  exact (TgR.step P (k h' P.1)).le (by omega)
theorem tg_doesx {b : Bool} {g h : am_H} (O : Ob b g h) {rc r rd : am_R} {val : Int32 → Int32} {x : Nat} {K : am_H → Int32 → am_R} {N : Nat} (hx : x < 3) (hc : eqQ Sc (rhoS b) g h rc r) (e : rc = m_ex g x) (D : Dz rd r val) (k : ∀ h', Ob b g h' → TgR b g N h' (K h' (-2100000000))) : TgR b g (N + 1) h (m_bI rd K) := by
  obtain ⟨h', e1, P⟩ := qrx O hc e
  rw [D.2 _ _ e1 hx, bI_ri]
  exact (TgR.step P (k _ P.1)).le (by omega)
/-! ## tags have one meaning; what does not wait is filed as it belongs -/
section TAGS
variable {W Cn Tn Sn Qn : Nat} {g : am_H}
theorem vt_0 (R : RR W Cn Tn Sn Qn g) {t : Nat} (ht : t < Tn) : f_X10_ofTag (69, 0) (nI t) 0 g = m_ri g (m_gi g 47 0 t) := by
  rw [f_X10_ofTag, ao_69, c_checkTag R.H R.rTg.2.1 R.rTg.1 ht, bV_rt, if_pos rfl, gR_69, pc_tags R.H, ao_21, c_kindOf R.H R.rTg ht, bI_ri]
theorem vt_1 (R : RR W Cn Tn Sn Qn g) {t : Nat} (ht : t < Tn) : f_X10_ofTag (69, 0) (nI t) 1 g = m_ri g (m_gi g 11 0 t) := by
  rw [f_X10_ofTag, ao_69, c_checkTag R.H R.rTg.2.1 R.rTg.1 ht, bV_rt, if_neg (by decide), if_pos rfl, gR_69, pc_tags R.H, ao_21, f_X7_meaningOf, gR_21, pc_mean R.H, aI_11 (by have := R.rTg.1; omega), bI_ri]
theorem vt_2 (R : RR W Cn Tn Sn Qn g) {t : Nat} (ht : t < Tn) : f_X10_ofTag (69, 0) (nI t) 2 g = m_ri g (m_gi g 13 0 t) := by
  rw [f_X10_ofTag, ao_69, c_checkTag R.H R.rTg.2.1 R.rTg.1 ht, bV_rt, if_neg (by decide), if_neg (by decide), if_pos rfl, gR_69, pc_tags R.H, ao_21, f_X7_aboveOf, gR_21, pc_abv R.H, aI_13 (by have := R.rTg.1; omega), bI_ri]
theorem vt_x (R : RR W Cn Tn Sn Qn g) {t : Nat} (ht : Tn ≤ t) (h9 : t < 10000) (w : Int32) : f_X10_ofTag (69, 0) (nI t) w g = m_ex g 0 := by
  rw [f_X10_ofTag, ao_69, c_checkTag_bad R.H R.rTg.2.1 (Or.inr ((nI_leI (by have := R.rTg.1; omega) (by omega)).mpr ht)), bV_ex]
theorem vu (R : RR W Cn Tn Sn Qn g) {k : Nat} (hk : k < W) (b : Bool) : f_X10_under (69, 0) (nI k) (bI b) g = m_ri g (if b = true then blg g (m_gi g 40 0 k) Tn else m_gi g 41 0 k) := by
  simp only [f_X10_under, f_X10_placesOf_22, f_X10_placesOf, ao_69, c_workAt R.H R.N hk, bR_ra, gI_27, R.rWf.1 k hk, R.rWt.1 k hk, gR_69, pc_tags R.H, ao_21, c_belongUnder R.H R.rTg, bI_ri, bI_eq0]
  cases b <;> rfl
theorem vu_x (R : RR W Cn Tn Sn Qn g) {k : Nat} (hk : W ≤ k) (h9 : k < 10000) (y : Int32) : f_X10_under (69, 0) (nI k) y g = m_ex g 0 := by
  rw [f_X10_under, ao_69, c_workAt_bad R.N (Or.inr ((nI_leI (by have := R.N.1; omega) (by omega)).mpr hk)), bR_ex]
theorem sh0 {s : Int32} {i : Nat} (hi : i < 32) : ((s >>> (nI i &&& 31)) &&& (1 : Int32) = 0) ↔ bt s i = false := by
  have e := and1_0 (s >>> (nI i &&& 31))
  rw [bt_sshr s hi] at e
  exact e
theorem sh1 {s : Int32} {i : Nat} (hi : i < 32) : ((s >>> (nI i &&& 31)) &&& (1 : Int32) = 1) ↔ bt s i = true := by
  have e := and1_1 (s >>> (nI i &&& 31))
  rw [bt_sshr s hi] at e
  exact e
theorem tg_first {R : Nat → Nat → Prop} {a b : Nat} (h : Relation.TransGen R a b) : ∃ c, R a c := by
  induction h with
  | single s => exact ⟨_, s⟩
  | tail _ _ ih => exact ih
theorem tg_last {R : Nat → Nat → Prop} {a b : Nat} (h : Relation.TransGen R a b) : ∃ c, R c b := by
  cases h with
  | single s => exact ⟨_, s⟩
  | tail _ s => exact ⟨_, s⟩
/-- what is above: MAIN tags alone, of MAIN tags alone, with what is above them -/
theorem abv_main (R : RR W Cn Tn Sn Qn g) {t u : Nat} (ht : t < 30) (hu : u < 32) (hb : bt (m_gi g 13 0 t) u = true) : m_gi g 47 0 t = 1 ∧ m_gi g 47 0 u = 1 ∧ u < Tn := by
  have h := (R.rPa.2.2 t u ht hu).mp hb
  obtain ⟨c, c1, c2⟩ := tg_first h
  obtain ⟨e, e1, e2⟩ := tg_last h
  exact ⟨(R.rPa.2.1 t c c1 c2).2.2.1, (R.rPa.2.1 e u e1 e2).2.2.2, (R.rPa.2.1 e u e1 e2).2.1⟩
theorem abv_none (R : RR W Cn Tn Sn Qn g) {t : Nat} (ht : t < 30) (hk : m_gi g 47 0 t ≠ 1) : m_gi g 13 0 t = 0 := by
  apply b_ext
  intro i hi
  rw [b_0]
  cases hb : bt (m_gi g 13 0 t) i
  · rfl
  · exact absurd (abv_main R ht hi hb).1 hk
theorem abv_in (R : RR W Cn Tn Sn Qn g) {t u : Nat} (ht : t < 30) (hu : u < 30) (hb : bt (m_gi g 13 0 t) u = true) : m_gi g 13 0 u &&& (m_gi g 13 0 t ^^^ (-1)) = 0 := by
  apply b_ext
  intro i hi
  rw [b_0, b_and, bt_not _ hi]
  cases hc : bt (m_gi g 13 0 u) i
  · rfl
  · have h1 := (R.rPa.2.2 t u ht (by omega)).mp hb
    have h2 := (R.rPa.2.2 u i hu hi).mp hc
    rw [(R.rPa.2.2 t i ht hi).mpr (Relation.TransGen.trans h1 h2)]; rfl
theorem set_nn (P : Int32) (hP : ∀ i, 30 ≤ i → bt P i = false) : ¬ P < 0 := by
  have : P.toBitVec.msb = false := by
    rw [BitVec.msb_eq_getLsbD_last]; exact hP 31 (by omega)
  rw [Int32.lt_iff_toInt_lt, ← Int32.toInt_toBitVec, BitVec.toInt_eq_msb_cond, this, show (0 : Int32).toInt = 0 from rfl]
  simp
end TAGS
section TAGL
variable {W Cn Tn Sn Qn : Nat} {b : Bool} {g : am_H}
theorem ofT {h : am_H} (O : Ob b g h) (x w : Int32) : eqQ Sc (rhoS b) g h (f_X10_ofTag (69, 0) x w g) (f_X10_ofTag (rhoS b (69, 0)) x w h) := e_X10_ofTag (rhoS_ok b) O.1 (69, 0) rfl x w
theorem undQ {h : am_H} (O : Ob b g h) (x w : Int32) : eqQ Sc (rhoS b) g h (f_X10_under (69, 0) x w g) (f_X10_under (rhoS b (69, 0)) x w h) := e_X10_under (rhoS_ok b) O.1 (69, 0) rfl x w
theorem tg_151 (R : RR W Cn Tn Sn Qn g) {rc : Option (Nat × Nat) → Int32 → Int32 → Int32 → am_H → am_R} {k N : Nat} (hk : k < Tn) (hrc : ∀ h, Ob b g h → TgR b g N h (rc (some (rhoS b (69, 0))) 1 (nI Tn) (nI k + 1) h)) : ∀ (m n j : Nat), j + m = Tn → m < n → ∀ {h : am_H}, Ob b g h → TgR b g N h (f_L_areTags_151 rc n (some (rhoS b (69, 0))) 1 (nI Tn) (nI k) (m_gi g 13 0 k) (nI j) h)
  | _, 0, j, _, hn, _, _ => by omega
  | 0, n + 1, j, hj, hn, h, O => by
    have hT := R.rTg.1
    rw [f_L_areTags_151, if_pos ((nI_leI (by omega) (by omega)).mpr (by omega))]
    exact hrc h O
  | m + 1, n + 1, j, hj, hn, h, O => by
    have hT := R.rTg.1
    have go : ∀ h, Ob b g h → TgR b g N h (f_L_areTags_197 rc (f_L_areTags_151 rc n) (some (rhoS b (69, 0))) (nI Tn) (nI k) (m_gi g 13 0 k) (nI j) h) := fun h O => by
      show TgR b g N h (f_L_areTags_151 rc n (some (rhoS b (69, 0))) 1 (nI Tn) (nI k) (m_gi g 13 0 k) (nI j + 1) h)
      rw [nI_1]
      exact tg_151 R hk hrc m n (j + 1) (by omega) (by omega) O
    rw [f_L_areTags_151, if_neg (fun z => by have := (nI_leI (by omega) (by omega)).mp z; omega), if_neg (by decide)]
    by_cases hb : bt (m_gi g 13 0 k) j = true
    · rw [if_neg (fun z => by rw [(sh0 (by omega)).mp z] at hb; cases hb), ao_a (isO_rhoS b)]
      refine tg_bI O (ofT O _ _) (vt_0 R (by omega)) (fun h O => ?_)
      rw [if_pos (abv_main R (by omega) (by omega) hb).2.1, ao_a (isO_rhoS b)]
      refine tg_bI O (ofT O _ _) (vt_2 R (by omega)) (fun h O => ?_)
      rw [if_pos (abv_in R (by omega) (by omega) hb)]
      exact go h O
    · rw [if_pos ((sh0 (by omega)).mpr (by simpa using hb))]
      exact go h O
theorem tg_223 (R : RR W Cn Tn Sn Qn g) : ∀ (m n k : Nat), k + m = W → m < n → ∀ {h : am_H}, Ob b g h → TgR b g 1 h (f_L_areTags_223 n (some (rhoS b (69, 0))) 1 (setOf (fun j => !decide (m_gi g 42 0 j = 0)) W) (nI k) h)
  | _, 0, j, _, hn, _, _ => by omega
  | 0, n + 1, k, hk, hn, h, O => by
    have hW := R.N.1
    rw [f_L_areTags_223]
    refine tg_doesx (N := 0) O (by decide) (undQ O _ _) (vu_x R (by omega) (by omega) (bI (decide ((0 : Int32) = 1)))) (dz_20 (isO_rhoS b) (nI k) 0 0 0 h) (fun h O => ?_)
    rw [if_pos (by decide)]
    exact ⟨h, rfl, PostC.refl O⟩
  | m + 1, n + 1, k, hk, hn, h, O => by
    have hW := R.N.1
    rw [f_L_areTags_223]
    have e0 := vu R (show k < W by omega) (decide ((0 : Int32) = 1))
    refine tg_does O (undQ O _ _) e0 (dz_20 (isO_rhoS b) (nI k) 0 0 0 h) (fun h O => ?_)
    rw [if_neg (show ¬ id (if decide ((0 : Int32) = 1) = true then blg g (m_gi g 40 0 k) Tn else m_gi g 41 0 k) < 0 from by
      show ¬ m_gi g 41 0 k < 0
      exact set_nn _ (fun i hi => R.rWf.2.1 k i (by omega) (by have := R.rTg.1; omega))), if_neg (by decide)]
    have go : ∀ h, Ob b g h → TgR b g 1 h (f_L_areTags_268 (f_L_areTags_223 n) (some (rhoS b (69, 0))) (setOf (fun j => !decide (m_gi g 42 0 j = 0)) W) (nI k) h) := fun h O => by
      show TgR b g 1 h (f_L_areTags_223 n (some (rhoS b (69, 0))) 1 (setOf (fun j => !decide (m_gi g 42 0 j = 0)) W) (nI k + 1) h)
      rw [nI_1]
      exact tg_223 R m n (k + 1) (by omega) (by omega) O
    by_cases hb : m_gi g 42 0 k = 0
    · have h1 : bt (setOf (fun j => !decide (m_gi g 42 0 j = 0)) W) k = false := by
        rw [bt_setOf _ (by omega) (by omega)]; simp [hb]
      rw [if_neg (fun z => by rw [(sh1 (by omega)).mp z] at h1; cases h1), ao_a (isO_rhoS b)]
      refine tg_bI O (undQ O _ _) (vu R (show k < W by omega) false) (fun h O => ?_)
      rw [ao_a (isO_rhoS b)]
      refine tg_bI O (undQ O _ _) (vu R (show k < W by omega) true) (fun h O => ?_)
      rw [if_pos (show (if false = true then blg g (m_gi g 40 0 k) Tn else m_gi g 41 0 k) = (if true = true then blg g (m_gi g 40 0 k) Tn else m_gi g 41 0 k) from R.rIv.2 k (by omega) hb)]
      exact go h O
    · have h1 : bt (setOf (fun j => !decide (m_gi g 42 0 j = 0)) W) k = true := by
        rw [bt_setOf _ (by omega) (by omega)]; simp [hb]; omega
      rw [if_pos ((sh1 (by omega)).mpr h1)]
      exact go h O
theorem tg_25 (R : RR W Cn Tn Sn Qn g) : ∀ (m n k : Nat), k + m = Tn → m < n → ∀ {h : am_H}, Ob b g h → TgR b g 1 h (f_L_areTags_25 n (some (rhoS b (69, 0))) 1 (nI Tn) (nI k) h)
  | _, 0, j, _, hn, _, _ => by omega
  | 0, n + 1, k, hk, hn, h, O => by
    have hT := R.rTg.1
    rw [f_L_areTags_25, if_pos ((nI_leI (by omega) (by omega)).mpr (by omega)), f_L_areTags_215, ao_a (isO_rhoS b)]
    refine tg_bI O (e_X10_waiting (rhoS_ok b) O.1 (69, 0) rfl) (c_waiting R.H R.N R.rWw) (fun h O => ?_)
    exact tg_223 R W 5000 0 (by omega) (by have := R.N.1; omega) O
  | m + 1, n + 1, k, hk, hn, h, O => by
    have hT := R.rTg.1
    have hkT : k < Tn := by omega
    have go : ∀ h, Ob b g h → TgR b g 1 h (f_L_areTags_142 (f_L_areTags_25 n) (some (rhoS b (69, 0))) (nI Tn) (nI k) (m_gi g 13 0 k) h) := fun h O => by
      show TgR b g 1 h (f_L_areTags_151 (f_L_areTags_25 n) 5000 (some (rhoS b (69, 0))) 1 (nI Tn) (nI k) (m_gi g 13 0 k) (nI 0) h)
      refine tg_151 R hkT (fun h O => ?_) Tn 5000 0 (by omega) (by omega) O
      rw [nI_1]
      exact tg_25 R m n (k + 1) (by omega) (by omega) O
    have g122 : ∀ h, Ob b g h → TgR b g 1 h (f_L_areTags_122 (f_L_areTags_25 n) (some (rhoS b (69, 0))) (nI Tn) (nI k) (m_gi g 47 0 k) (m_gi g 13 0 k) h) := fun h O => by
      rw [f_L_areTags_122, if_pos ((sh0 (by omega)).mpr (R.rIv.1 k (by omega)))]
      by_cases q : m_gi g 47 0 k = 1
      · rw [if_pos q]; exact go h O
      · rw [if_neg q, if_pos (abv_none R (by omega) q)]; exact go h O
    rw [f_L_areTags_25, if_neg (fun z => by have := (nI_leI (by omega) (by omega)).mp z; omega), if_neg (by decide), ao_a (isO_rhoS b)]
    refine tg_bI O (ofT O _ _) (vt_1 R hkT) (fun h O => ?_)
    rw [ao_a (isO_rhoS b)]
    refine tg_bI O (ofT O _ _) (vt_0 R hkT) (fun h O => ?_)
    rw [ao_a (isO_rhoS b)]
    refine tg_bI O (ofT O _ _) (vt_2 R hkT) (fun h O => ?_)
    rcases R.rTg.2.2.2.1 k hkT with ⟨q1, q2⟩ | ⟨q1, q2⟩ | ⟨q1, m0, q2, q3, q4, q5, q6⟩
    · have g122 := g122 h O
      rw [q1] at g122 ⊢
      rw [q2]
      rw [if_pos rfl, f_L_areTags_68, if_neg (by decide), f_L_areTags_78, if_pos rfl, if_neg (by decide), f_L_areTags_92, if_neg (fun z => nI_m1 (show k < 10000 by omega) z.symm), f_L_areTags_103, if_pos rfl, if_pos (by decide)]
      exact g122
    · have g122' := g122
      rw [q1] at g122' ⊢
      rw [q2]
      rw [if_neg (by decide), f_L_areTags_68, if_pos (nI_pos' (by omega)), f_L_areTags_78, if_pos rfl, if_pos rfl, f_L_areTags_92, if_pos rfl, f_L_areTags_103, if_pos rfl, if_neg (nI_pos (by omega)), ao_a (isO_rhoS b)]
      refine tg_bI O (ofT O _ _) (vt_0 R hkT) (fun h O => ?_)
      rw [if_pos q1]
      exact g122' h O
    · have g122' := g122
      rw [q1] at g122' ⊢
      rw [q4]
      rw [if_neg (by decide), f_L_areTags_68, if_pos (nI_pos' (by omega)), f_L_areTags_78, if_pos rfl, if_neg (by decide), f_L_areTags_92, if_neg (fun z => q3 ((nI_eq (by omega) (by omega)).mp z)), f_L_areTags_103, if_pos rfl, if_neg (nI_pos (by omega)), ao_a (isO_rhoS b)]
      refine tg_bI O (ofT O _ _) (vt_0 R q2) (fun h O => ?_)
      rw [if_pos q6]
      exact g122' h O
theorem tg_4 (R : RR W Cn Tn Sn Qn g) : ∀ (m n k : Nat), k + m = Tn → m < n → ∀ {h : am_H}, Ob b g h → TgR b g 2 h (f_L_areTags_4 n (some (rhoS b (69, 0))) 1 (nI k) h)
  | _, 0, j, _, hn, _, _ => by omega
  | 0, n + 1, k, hk, hn, h, O => by
    have hT := R.rTg.1
    rw [f_L_areTags_4]
    refine tg_doesx (N := 1) O (by decide) (ofT O _ _) (vt_x R (by omega) (by omega) 0) (dz_17 (isO_rhoS b) (nI k) 0 0 0 h) (fun h O => ?_)
    rw [if_pos (by decide), show k = Tn by omega]
    exact tg_25 R Tn 5000 0 (by omega) (by omega) O
  | m + 1, n + 1, k, hk, hn, h, O => by
    have hT := R.rTg.1
    rw [f_L_areTags_4]
    refine tg_does O (ofT O _ _) (vt_0 R (show k < Tn by omega)) (dz_17 (isO_rhoS b) (nI k) 0 0 0 h) (fun h O => ?_)
    rw [if_neg (show ¬ id (m_gi g 47 0 k) < 0 from by
      rcases R.rTg.2.2.2.1 k (by omega) with q | q | q <;> (show ¬ m_gi g 47 0 k < 0; rw [q.1]; decide))]
    rw [nI_1]
    exact tg_4 R m n (k + 1) (by omega) (by omega) O
theorem areTags_ok {h : am_H} (O : Ob b g h) : TgR b g 2 h (f_L_areTags (some (rhoS b (69, 0))) h) := by
  obtain ⟨W, Cn, Tn, Sn, Qn, R⟩ := id O.2.2.2
  rw [f_L_areTags]
  exact tg_4 R Tn 5000 0 (by omega) (by have := R.rTg.1; omega) O
end TAGL
