theorem nwsP_cong {g h : am_H} {p w c : Nat} (e : ∀ a, a = 34 ∨ a = 36 ∨ a = 37 ∨ a = 38 ∨ a = 39 ∨ a = 45 ∨ a = 46 ∨ a = 66 ∨ a = 67 → m_gi g a = m_gi h a) (e68 : m_gi g 68 0 (8 * (20 * p + w) + c) = m_gi h 68 0 (8 * (20 * p + w) + c)) (e70 : m_gi g 70 0 1 = m_gi h 70 0 1) : nwsP g p w c = nwsP h p w c := by
  have e34 := e 34 (by simp)
  have e36 := e 36 (by simp)
  have e37 := e 37 (by simp)
  have e38 := e 38 (by simp)
  have e39 := e 39 (by simp)
  have e45 := e 45 (by simp)
  have e46 := e 46 (by simp)
  have e66 := e 66 (by simp)
  have e67 := e 67 (by simp)
  have s : seenP g p w = seenP h p w := by simp only [seenP, ownP, opP, e34, e37, e38, e39, e45, e70]
  have t : toldP g p w = toldP h p w := by simp only [toldP, s, ownP, opP, e34, e39, e46, e70]
  have o : outD g w c = outD h w c := by simp only [outD, e36, e37]
  have r : ∀ x n, nwR g p w x n = nwR h p w x n := fun x n => by
    induction n with
    | zero => rw [nwR, nwR, e66]
    | succ n ih => rw [nwR, nwR, ih, e34, t, e67]
  unfold nwsP
  rw [e37, s, o, r, e68, ownP, ownP, e34]
def anyP (P : Nat → Bool) : Nat → Bool
  | 0 => false
  | n + 1 => anyP P n || P n
theorem anyP_0 {P : Nat → Bool} : ∀ {n : Nat}, n ≤ 32 → ((setOf P n = 0) ↔ anyP P n = false)
  | 0, _ => by simp [setOf, anyP]
  | n + 1, hn => by
    have ih := anyP_0 (P := P) (n := n) (by omega)
    rw [anyP, Bool.or_eq_false_iff, ← ih]
    constructor
    · intro z
      have b : ∀ i, i < n + 1 → P i = false := fun i hi => by
        have := congrArg (fun y => bt y i) z
        simp only [bt_setOf P (show n + 1 ≤ 32 by omega) (show i < 32 by omega), b_0, decide_eq_true hi, Bool.true_and] at this
        exact this
      refine ⟨?_, b n (by omega)⟩
      apply b_ext
      intro i hi
      rw [bt_setOf P (by omega) hi, b_0]
      by_cases q : i < n
      · rw [b i (by omega), Bool.and_false]
      · rw [decide_eq_false q]; rfl
    · rintro ⟨z, q⟩
      apply b_ext
      intro i hi
      rw [bt_setOf P (by omega) hi, b_0]
      by_cases e : i = n
      · rw [e, q, Bool.and_false]
      · by_cases e2 : i < n
        · have := congrArg (fun y => bt y i) z
          simp only [bt_setOf P (show n ≤ 32 by omega) hi, b_0, decide_eq_true e2, Bool.true_and] at this
          rw [this, Bool.and_false]
        · rw [decide_eq_false (by omega)]; rfl
theorem pcn_setOf {P : Nat → Bool} : ∀ {n : Nat}, n ≤ 32 → pcn (setOf P n) 32 = cnt P n
  | 0, _ => by rw [setOf, pcn_0, cnt]
  | n + 1, hn => by
    have ih := pcn_setOf (P := P) (n := n) (by omega)
    have b : bt (setOf P n) n = false := by
      rw [bt_setOf P (by omega) (by omega), decide_eq_false (by omega)]; rfl
    rw [setOf, cnt]
    cases hp : P n
    · have e := wi_same (s := setOf P n) (i := n) (by omega)
      rw [b] at e
      rw [e, ih]; simp
    · rw [pcn_wi_t (by omega) b, ih]; simp
def Cw (h : am_H) (w : Nat) : Nat := (m_gi h 35 0 w).toNatClampNeg
def anyW (h : am_H) (p w : Nat) : Bool := anyP (nwsP h p w) (Cw h w)
def sumD (h : am_H) (p : Nat) : Nat → Nat
  | 0 => 0
  | n + 1 => sumD h p n + cnt (nwsP h p n) (Cw h n)
section NewsLoops
variable {W Cn : Nat} {h : am_H}
theorem Cw_of (c : RWc W h) {w : Nat} (hw : w < W) : Cw h w ≤ 8 ∧ m_gi h 35 0 w = nI (Cw h w) := by
  obtain ⟨n, a1, a2, a3, a4⟩ := c.1 w hw
  unfold Cw
  rw [a3, nI_clamp (by omega)]
  exact ⟨a1, rfl⟩
theorem c_news8 (H : ShC h) (N : RWn W h) (e69 : m_gi h 69 0 0 = m_gi h 70 0 1) (a : RWa W h) (pp : RWp W h) (l : RWl W h) (o : RWo W Cn h) (C : RCo Cn h) (c : RWc W h) (b : RSb h) (D : RDg h) {p : Nat} (hp : p < 12) : ∀ (n k : Nat), k ≤ W → W < k + n →
    f_X10_news_8 n (69, 0) (nI p) (setOf (anyW h p) k) (nI k) h = m_ri h (setOf (anyW h p) W)
  | 0, k, h1, h2 => by omega
  | n + 1, k, h1, h2 => by
    have hW := N.1
    rw [f_X10_news_8]
    simp only [gI_69, N.2.1, i_le (show W < 10000 by omega) (show k < 10000 by omega)]
    by_cases hk : W ≤ k
    · rw [if_pos hk, show k = W by omega]
    · rw [if_neg hk]
      have hkW : k < W := by omega
      obtain ⟨c1, c2⟩ := Cw_of c hkW
      have ih := c_news8 H N e69 a pp l o C c b D hp n (k + 1) (by omega) (by omega)
      rw [setOf] at ih
      have w0 : ∀ {x : Int32} {i : Nat} {g2 : am_H}, f_X10_with x (nI i) 0 g2 = m_ri g2 (wi x i false) := c_with (b := false)
      have w1 : ∀ {x : Int32} {i : Nat} {g2 : am_H}, f_X10_with x (nI i) 1 g2 = m_ri g2 (wi x i true) := c_with (b := true)
      simp only [ao_69, c_newChapters H N e69 a pp l o C c b hp hkW c2 c1 (fun j hj => D p k j hp (by omega) hj), bI_ri, f_X10_news_32, w0, w1, nI_1]
      have q := anyP_0 (P := nwsP h p k) (n := Cw h k) (by omega)
      cases hb : anyW h p k
      · rw [if_pos (q.mpr hb)]; rw [hb] at ih; exact ih
      · rw [if_neg (fun z => by have := q.mp z; unfold anyW at hb; rw [hb] at this; cases this)]; rw [hb] at ih; exact ih
theorem c_news5 (H : ShC h) (N : RWn W h) (e69 : m_gi h 69 0 0 = m_gi h 70 0 1) (a : RWa W h) (pp : RWp W h) (l : RWl W h) (o : RWo W Cn h) (C : RCo Cn h) (c : RWc W h) (b : RSb h) (D : RDg h) {p : Nat} (hp : p < 12) : f_X10_news (69, 0) (nI p) h = m_ri h (setOf (anyW h p) W) := by
  have := c_news8 H N e69 a pp l o C c b D hp 5000 0 (by omega) (by have := N.1; omega)
  rw [setOf, nI_0] at this
  rw [f_X10_news, c_checkPerson hp, bV_rt]
  exact this
theorem r_news38 (G : ShM h) (a : RWa W h) (o : RWo W Cn h) (C : RCo Cn h) {p k n : Nat} (hp : p < 12) (hk : k < W) (h20 : k < 20) (hn : m_gi h 35 0 k = nI n) (hn8 : n ≤ 8) (rc : Nat × Nat → Int32 → Int32 → Int32 → Int32 → am_H → am_R) (x : Int32) : ∀ (m j : Nat), j ≤ n → n < j + m →
    f_X11_news_38 rc m (70, 0) (nI p) (x ||| (if anyP (nwsP h p k) j then one k else 0)) 1 (nI k) (nI j) h = rc (70, 0) (nI p) (x ||| (if anyP (nwsP h p k) n then one k else 0)) 1 (nI (k + 1)) h
  | 0, j, h1, h2 => by omega
  | m + 1, j, h1, h2 => by
    rw [f_X11_news_38]
    simp only [gR_70, pm_7 G, aI_35 h20, hn, i_le (show n < 10000 by omega) (show j < 10000 by omega), nI_1]
    by_cases hj : n ≤ j
    · rw [if_pos hj, show j = n by omega]
    · rw [if_neg hj]
      have ih := r_news38 G a o C hp hk h20 hn hn8 rc x m (j + 1) (by omega) (by omega)
      rw [anyP] at ih
      simp only [ao_70, r_isNews G a o C hp hk h20 (show j < 8 by omega), bI_ri, bI_eq0, f_X11_news_71, nI_1, one_eq]
      have key : ∀ b1 b2 : Bool, (x ||| (if b1 = true then one k else 0)) ||| (if b2 = true then one k else 0) = x ||| (if (b1 || b2) = true then one k else 0) := fun b1 b2 => by
        apply b_ext; intro i _
        cases b1 <;> cases b2 <;> simp [b_or, b_0]
      cases hb : nwsP h p k j
      · have q := key (anyP (nwsP h p k) j) false
        simp only [Bool.false_eq_true, if_false] at q
        rw [hb] at ih; rw [if_pos rfl, q]; exact ih
      · have q := key (anyP (nwsP h p k) j) true
        simp only [if_true] at q
        rw [hb] at ih; rw [if_neg (by decide), q]; exact ih
theorem r_news22 (G : ShM h) (e4 : m_gi h 70 0 4 = nI W) (hW : W ≤ 20) (a : RWa W h) (o : RWo W Cn h) (C : RCo Cn h) (c : RWc W h) {p : Nat} (hp : p < 12) (fu : Nat) (hfu : 100 ≤ fu) : ∀ (n k : Nat), k ≤ W → W < k + n →
    (∀ m, f_X11_news_38 (f_X11_news_22 m) 5000 = f_X11_news_38 (f_X11_news_22 m) fu) →
    f_X11_news_22 n (70, 0) (nI p) (setOf (anyW h p) k) 1 (nI k) h = m_ri h (setOf (anyW h p) W)
  | 0, k, h1, h2, _ => by omega
  | n + 1, k, h1, h2, hf => by
    rw [f_X11_news_22, hf]
    simp only [gI_70, e4, i_le (show W < 10000 by omega) (show k < 10000 by omega), f_X11_news_85]
    by_cases hk : W ≤ k
    · rw [if_pos hk, show k = W by omega]
    · rw [if_neg hk, if_neg (by decide)]
      have hkW : k < W := by omega
      obtain ⟨c1, c2⟩ := Cw_of c hkW
      have ih := r_news22 G e4 hW a o C c hp fu hfu n (k + 1) (by omega) (by omega) hf
      rw [← setOf_or _ (by omega)] at ih
      have q := r_news38 G a o C hp hkW (by omega) c2 c1 (f_X11_news_22 n) (setOf (anyW h p) k) fu 0 (by omega) (by omega)
      rw [anyP, if_neg (by decide), or_0, nI_0] at q
      rw [q]
      exact ih
theorem r_news5 (G : ShM h) (e4 : m_gi h 70 0 4 = nI W) (hW : W ≤ 20) (a : RWa W h) (o : RWo W Cn h) (C : RCo Cn h) (c : RWc W h) {p : Nat} (hp : p < 12) : f_X11_news_22 5000 (70, 0) (nI p) 0 1 0 h = m_ri h (setOf (anyW h p) W) := by
  have := r_news22 G e4 hW a o C c hp 5000 (by omega) 5000 0 (by omega) (by omega) (fun _ => rfl)
  rw [setOf, nI_0] at this
  exact this
theorem r_news0 {x y : Int32} : ∀ n, f_X11_news_22 (n + 1) (70, 0) x y 0 0 h = m_ri h y := fun n => by
  rw [f_X11_news_22]
  simp only [gI_70, f_X11_news_85, if_true, ite_self]
theorem r_news0' {x y : Int32} : f_X11_news_22 5000 (70, 0) x y 0 0 h = m_ri h y := r_news0 4999
theorem r_newsOk (G : ShM h) {p : Nat} (hp : p < 12) {v : Int32} (r : f_X11_news_22 5000 (70, 0) (nI p) 0 1 0 (m_si h 70 0 0 0) = m_ri (m_si h 70 0 0 0) v) : f_X11_news (70, 0) (nI p) h = m_ri (m_si h 70 0 0 0) v := by
  rw [f_X11_news, r_isPerson, isIx_ok (show 12 < 10000 by omega) hp, bI_ri, bI_t, if_neg (by decide), f_X11_news_15, ao_70, r_h0, bI_ri]
  exact r
theorem r_newsBad {x : Int32} (hx : x < 0 ∨ nI 12 ≤ x) : f_X11_news (70, 0) x h = m_ri (m_si h 70 0 0 1) 0 := by
  rw [f_X11_news, r_isPerson, isIx_bad (show 12 < 10000 by omega) hx, bI_ri, bI_f, if_pos rfl, f_X11_news_15, ao_70, r_h1, bI_ri, r_news0']
end NewsLoops
theorem op_news {W Cn Tn Sn Qn : Nat} {h : am_H} (R : RR W Cn Tn Sn Qn h) (x : Int32) : OpOK h (f_G_news (some (69, 0)) x (some (71, 0)) h) (f_X11_news (70, 0) x) vI := by
  have R0 := R
  obtain ⟨H, G, rDay, rBlk, rSam, N, rWa, rWc, rWp, rWl, rWo, rWt, rWf, rWw, rWs, rWk, rCo, rTg, rPa, rTp, rSg, rCm, rSb, rDg, rIv⟩ := R
  obtain ⟨D, hD, d1, d2⟩ := id rDay
  rcases ix_cases x (n := 12) (by omega) with ⟨p, hp, rfl⟩ | hx
  · skip
    have R2 : RR W Cn Tn Sn Qn (m_si (m_sl h 71 0 0 (vI (setOf (anyW h p) W))) 70 0 0 0) := rr_eqv ((Frm.refl _ h).sl.si rfl) R0
    have r := r_news5 R2.G R2.N.2.2.1 N.1 R2.rWa R2.rWo R2.rCo R2.rWc hp
    have es : setOf (anyW (m_si (m_sl h 71 0 0 (vI (setOf (anyW h p) W))) 70 0 0 0) p) W = (setOf (anyW h p) W) := setOf_congr (fun i _ => by
      show anyP (nwsP (m_si (m_sl h 71 0 0 (vI (setOf (anyW h p) W))) 70 0 0 0) p i) (Cw (m_si (m_sl h 71 0 0 (vI (setOf (anyW h p) W))) 70 0 0 0) i) = anyP (nwsP h p i) (Cw h i)
      rw [show Cw (m_si (m_sl h 71 0 0 (vI (setOf (anyW h p) W))) 70 0 0 0) i = Cw h i from rfl, show nwsP (m_si (m_sl h 71 0 0 (vI (setOf (anyW h p) W))) 70 0 0 0) p i = nwsP h p i from funext (fun c => nwsP_cong (fun a ha => gi_ne (by omega)) rfl rfl)])
    rw [es] at r
    have Gs : ShM (m_sl h 71 0 0 (vI (setOf (anyW h p) W))) := G.frm ((Frm.refl (pX [] []) h).sl)
    exact ok_q R0 (b := (setOf (anyW h p) W)) (L_news_ret _ (c_news5 H N (d1.trans d2.symm) rWa rWp rWl rWo rCo rWc rSb rDg hp)) (r_newsOk Gs hp r)
  · exact ok_ex R0 (c := 1) (b := 0) (by decide) (L_news_x0 _ (by rw [f_X10_news, c_checkPerson_bad hx, bV_ex])) (r_newsBad hx)
