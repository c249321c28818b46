/-! ## SIGNS -/
def wth (s : Int32) (n : Nat) : Bool := decide (m_ushr s (nI n) = 0)
theorem ush_0 {s : Int32} {n : Nat} (hn : n < 32) : m_ushr s (nI n) = 0 ↔ ∀ i, n ≤ i → bt s i = false := by
  constructor
  · intro h i hi
    have := congrArg (fun z => bt z (i - n)) h
    have e : bt (m_ushr s (nI n)) (i - n) = bt s (n + (i - n)) := b_ushr n hn s (i - n)
    simp only [e, b_0] at this
    rw [show n + (i - n) = i by omega] at this
    exact this
  · intro h
    apply b_ext
    intro i hi
    have e : bt (m_ushr s (nI n)) i = bt s (n + i) := b_ushr n hn s i
    rw [e, b_0]
    exact h _ (by omega)
theorem ssh_0 {s : Int32} {n : Nat} (hn : n < 32) : s >>> (nI n &&& 31) = 0 ↔ ∀ i, n ≤ i → bt s i = false := by
  constructor
  · intro h i hi
    by_cases h32 : i < 32
    · have := congrArg (fun z => bt z (i - n)) h
      simp only [b_sshr n hn s (show i - n < 32 by omega), b_0] at this
      rw [if_pos (by omega), show n + (i - n) = i by omega] at this
      exact this
    · exact b_big (by omega)
  · intro h
    apply b_ext
    intro i hi
    rw [b_sshr n hn s hi, b_0]
    split
    · exact h _ (by omega)
    · exact h 31 (by omega)
theorem ssh_w {s : Int32} {n : Nat} (hn : n < 32) : (s >>> (nI n &&& 31) = 0) ↔ wth s n = true := by
  unfold wth
  rw [decide_eq_true_eq, ssh_0 hn, ush_0 hn]
theorem wth_hi {s : Int32} {n : Nat} (hn : n < 32) (h : wth s n = true) : ∀ i, n ≤ i → bt s i = false := (ush_0 hn).mp (of_decide_eq_true h)
theorem c_isWithin {s : Int32} {n : Nat} {h : am_H} : f_X10_isWithin s (nI n) h = m_ri h (bI (wth s n)) := by
  rw [f_X10_isWithin]
  unfold wth
  by_cases e : m_ushr s (nI n) = 0
  · rw [if_pos e, decide_eq_true e, f_X10_isWithin_11, rz_1, bI_t]
  · rw [if_neg e, decide_eq_false e, f_X10_isWithin_11, rz_0, bI_f]
theorem anyP_yes {P : Nat → Bool} : ∀ {n k : Nat}, k < n → P k = true → anyP P n = true
  | 0, k, h, _ => by omega
  | n + 1, k, h, e => by
    rw [anyP]
    by_cases ek : k = n
    · rw [← ek, e, Bool.or_true]
    · rw [anyP_yes (show k < n by omega) e, Bool.true_or]
section Sign
variable {Sn Tn : Nat} {h : am_H}
theorem c_hso2 (H : ShC h) (s : RSg Sn Tn h) (x : Int32) : ∀ (n k : Nat), k ≤ Sn → Sn < k + n → anyP (fun j => decide (m_gi h 54 0 j = x)) k = false →
    f_X2_hasSignOf_2 n (24, 0) x (nI k) h = m_ri h (bI (anyP (fun j => decide (m_gi h 54 0 j = x)) Sn))
  | 0, k, h1, h2, _ => by omega
  | n + 1, k, h1, h2, h3 => by
    have hS := s.1
    have ik : (nI Sn ≤ nI k) = (Sn ≤ k) := i_le (by omega) (by omega)
    rw [f_X2_hasSignOf_2, gI_24, s.2.1]
    by_cases hk : Sn ≤ k
    · rw [if_pos (show nI Sn ≤ nI k by rw [ik]; exact hk), rz_0, show Sn = k by omega, h3, bI_f]
    · have hkS : k < Sn := by omega
      obtain ⟨s1, s2, _⟩ := s.2.2.2.2 k hkS
      rw [if_neg (show ¬ nI Sn ≤ nI k by rw [ik]; exact hk), gR_24, pc_signs H, aR_2 (show k < 8 by omega), s1, gI_29, s2]
      by_cases e : m_gi h 54 0 k = x
      · rw [if_pos e, rz_1, anyP_yes (P := fun j => decide (m_gi h 54 0 j = x)) hkS (decide_eq_true e), bI_t]
      · rw [if_neg e, nI_1]
        exact c_hso2 H s x n (k + 1) (by omega) (by omega) (by rw [anyP, h3, decide_eq_false e]; rfl)
theorem c_hso (H : ShC h) (s : RSg Sn Tn h) (x : Int32) : f_X2_hasSignOf (24, 0) x h = m_ri h (bI (anyP (fun j => decide (m_gi h 54 0 j = x)) Sn)) := by
  have := c_hso2 H s x 5000 0 (by omega) (by have := s.1; omega) rfl
  rw [nI_0] at this
  rw [f_X2_hasSignOf]
  exact this
theorem r_sg45 (G : ShM h) (e30 : m_gi h 70 0 30 = nI Sn) (hS : Sn ≤ 8) (x1 x2 x3 x4 x5 x6 : Int32) : ∀ (n k : Nat), k ≤ Sn → Sn < k + n →
    f_X11_sign_45 n (70, 0) x1 x2 x3 x4 x5 x6 (bI (anyP (fun j => decide (m_gi h 54 0 j = x1)) k)) (nI k) h =
    (if x5 = 0 then f_X11_sign_121 (70, 0) x1 x2 x3 x4 1 (some (70, 0)) h else if x6 = 0 then f_X11_sign_121 (70, 0) x1 x2 x3 x4 2 (some (70, 0)) h else if anyP (fun j => decide (m_gi h 54 0 j = x1)) Sn = false then (if Sn = 8 then f_X11_sign_116 (70, 0) x1 x2 x3 x4 (some (70, 0)) h else f_X11_sign_121 (70, 0) x1 x2 x3 x4 0 (some (70, 0)) h) else f_X11_sign_116 (70, 0) x1 x2 x3 x4 (some (70, 0)) h)
  | 0, k, h1, h2 => by omega
  | n + 1, k, h1, h2 => by
    have ik : (nI Sn ≤ nI k) = (Sn ≤ k) := i_le (by omega) (by omega)
    have i8 : (nI Sn = (8 : Int32)) = (Sn = 8) := i_eq (b := 8) (by omega) (by omega)
    rw [f_X11_sign_45, gI_70, e30]
    by_cases hk : Sn ≤ k
    · rw [if_pos (show nI Sn ≤ nI k by rw [ik]; exact hk), gI_70, e30, show k = Sn by omega]
      simp only [bI_eq0, i8]
    · have hkS : k < Sn := by omega
      rw [if_neg (show ¬ nI Sn ≤ nI k by rw [ik]; exact hk)]
      have ih := r_sg45 G e30 hS x1 x2 x3 x4 x5 x6 n (k + 1) (by omega) (by omega)
      rw [anyP] at ih
      cases hb : anyP (fun j => decide (m_gi h 54 0 j = x1)) k
      · rw [hb, Bool.false_or] at ih
        rw [bI_f, if_pos rfl, gR_70, pm_31 G, aI_54 (show k < 8 by omega)]
        by_cases e : m_gi h 54 0 k = x1
        · rw [decide_eq_true e, bI_t] at ih
          rw [if_pos e, f_X11_sign_70, f_X11_sign_75, nI_1]
          exact ih
        · rw [decide_eq_false e, bI_f] at ih
          rw [if_neg e, f_X11_sign_75, nI_1]
          exact ih
      · rw [hb, Bool.true_or, bI_t] at ih
        rw [bI_t, if_neg (by decide), f_X11_sign_70, f_X11_sign_75, nI_1]
        exact ih
theorem r_sg5 (G : ShM h) (e30 : m_gi h 70 0 30 = nI Sn) (hS : Sn ≤ 8) (x1 x2 x3 x4 x5 x6 : Int32) : f_X11_sign_45 5000 (70, 0) x1 x2 x3 x4 x5 x6 0 0 h =
    (if x5 = 0 then f_X11_sign_121 (70, 0) x1 x2 x3 x4 1 (some (70, 0)) h else if x6 = 0 then f_X11_sign_121 (70, 0) x1 x2 x3 x4 2 (some (70, 0)) h else if anyP (fun j => decide (m_gi h 54 0 j = x1)) Sn = false then (if Sn = 8 then f_X11_sign_116 (70, 0) x1 x2 x3 x4 (some (70, 0)) h else f_X11_sign_121 (70, 0) x1 x2 x3 x4 0 (some (70, 0)) h) else f_X11_sign_116 (70, 0) x1 x2 x3 x4 (some (70, 0)) h) := by
  have := r_sg45 G e30 hS x1 x2 x3 x4 x5 x6 5000 0 (by omega) (by omega)
  rw [anyP, bI_f, nI_0] at this
  exact this
theorem r_sgA {x1 x2 x3 x4 : Int32} : f_X11_sign_121 (70, 0) x1 x2 x3 x4 1 (some (70, 0)) h = m_ri (m_si h 70 0 0 1) 0 := by
  rw [f_X11_sign_121, ao_70, r_h1, bI_ri, if_pos rfl]
theorem r_sgB {x1 x2 x3 x4 : Int32} : f_X11_sign_121 (70, 0) x1 x2 x3 x4 2 (some (70, 0)) h = m_ri (m_si h 70 0 0 2) 0 := by
  rw [f_X11_sign_121, ao_70, r_h2, bI_ri, if_pos rfl]
theorem r_sgC {x1 x2 x3 x4 : Int32} : f_X11_sign_116 (70, 0) x1 x2 x3 x4 (some (70, 0)) h = m_ri (m_si h 70 0 0 3) 0 := by
  rw [f_X11_sign_116, f_X11_sign_121, ao_70, r_h3, bI_ri, if_pos rfl]
theorem r_sg0 (G : ShM h) (e30 : m_gi h 70 0 30 = nI Sn) (hS : Sn < 8) {x1 x2 x3 x4 : Int32} : f_X11_sign_121 (70, 0) x1 x2 x3 x4 0 (some (70, 0)) h =
    m_ri (m_si (m_si (m_si (m_si (m_si (m_si h 70 0 0 0) 54 0 Sn x1) 55 0 Sn x2) 56 0 Sn x3) 57 0 Sn x4) 70 0 30 (nI (Sn + 1))) (nI Sn) := by
  have d0 : m_gi (m_si h 70 0 0 0) 70 0 30 = nI Sn := by rw [gi_neI (by decide)]; exact e30
  have d1 : m_gi (m_si (m_si h 70 0 0 0) 54 0 Sn x1) 70 0 30 = nI Sn := by rw [gi_ne (by decide)]; exact d0
  have d2 : m_gi (m_si (m_si (m_si h 70 0 0 0) 54 0 Sn x1) 55 0 Sn x2) 70 0 30 = nI Sn := by rw [gi_ne (by decide)]; exact d1
  have d3 : m_gi (m_si (m_si (m_si (m_si h 70 0 0 0) 54 0 Sn x1) 55 0 Sn x2) 56 0 Sn x3) 70 0 30 = nI Sn := by rw [gi_ne (by decide)]; exact d2
  have d4 : m_gi (m_si (m_si (m_si (m_si (m_si h 70 0 0 0) 54 0 Sn x1) 55 0 Sn x2) 56 0 Sn x3) 57 0 Sn x4) 70 0 30 = nI Sn := by rw [gi_ne (by decide)]; exact d3
  rw [f_X11_sign_121, ao_70, r_h0, bI_ri, if_neg (by decide), gR_70, gr_si, pm_31 G, gI_70, d0, sI_54 hS, gR_70, gr_si, gr_si, pm_32 G, gI_70, d1, sI_55 hS, gR_70, gr_si, gr_si, gr_si, pm_33 G, gI_70, d2, sI_56 hS, gR_70, gr_si, gr_si, gr_si, gr_si, pm_34 G, gI_70, d3, sI_57 hS, gI_70, d4, nI_1, pI_70, gI_70, gi_eq, nI_pred]
theorem r_sign (G : ShM h) (e30 : m_gi h 70 0 30 = nI Sn) (hS : Sn ≤ 8) (e20 : m_gi h 70 0 20 = nI Tn) (hT : Tn ≤ 30) (x1 x2 x3 x4 : Int32) : f_X11_sign (70, 0) x1 x2 x3 x4 h =
    (if isIx x1 (nI 12) = false then m_ri (m_si h 70 0 0 1) 0 else if (wth x2 Tn && wth x3 Tn && wth x4 12) = false then m_ri (m_si h 70 0 0 2) 0 else if anyP (fun j => decide (m_gi h 54 0 j = x1)) Sn = false then (if Sn = 8 then m_ri (m_si h 70 0 0 3) 0 else f_X11_sign_121 (70, 0) x1 x2 x3 x4 0 (some (70, 0)) h) else m_ri (m_si h 70 0 0 3) 0) := by
  rw [f_X11_sign, r_isPerson, bI_ri, gI_70, e20, gI_70, e20]
  have fin : ∀ b : Bool, f_X11_sign_45 5000 (70, 0) x1 x2 x3 x4 (bI (isIx x1 (nI 12))) (bI b) 0 0 h = (if isIx x1 (nI 12) = false then m_ri (m_si h 70 0 0 1) 0 else if b = false then m_ri (m_si h 70 0 0 2) 0 else if anyP (fun j => decide (m_gi h 54 0 j = x1)) Sn = false then (if Sn = 8 then m_ri (m_si h 70 0 0 3) 0 else f_X11_sign_121 (70, 0) x1 x2 x3 x4 0 (some (70, 0)) h) else m_ri (m_si h 70 0 0 3) 0) := fun b => by
    rw [r_sg5 G e30 hS]
    simp only [bI_eq0, r_sgA, r_sgB, r_sgC]
  have w1 := ssh_w (s := x2) (n := Tn) (by omega)
  have w2 := ssh_w (s := x3) (n := Tn) (by omega)
  have w3 : (x4 >>> ((12 : Int32) &&& 31) = 0) ↔ wth x4 12 = true := ssh_w (s := x4) (n := 12) (by omega)
  have f0 := fin false
  have f1 := fin true
  rw [bI_f] at f0
  rw [bI_t] at f1
  cases b1 : wth x2 Tn
  · rw [if_neg (fun z => by rw [w1.mp z] at b1; cases b1), f_X11_sign_36, f_X11_sign_37, f0, Bool.false_and, Bool.false_and]
  · rw [if_pos (w1.mpr b1)]
    cases b2 : wth x3 Tn
    · rw [if_neg (fun z => by rw [w2.mp z] at b2; cases b2), f_X11_sign_36, f_X11_sign_37, f0, Bool.and_false, Bool.false_and]
    · rw [if_pos (w2.mpr b2)]
      cases b3 : wth x4 12
      · rw [if_neg (fun z => by rw [w3.mp z] at b3; cases b3), f_X11_sign_36, f_X11_sign_37, f0, Bool.and_false]
      · rw [if_pos (w3.mpr b3), f_X11_sign_37, f1, Bool.and_self, Bool.and_self]
theorem c_sign (H : ShC h) (s : RSg Sn Tn h) (T : RTg Tn h) {p : Nat} (hp : p < 12) (x2 x3 x4 : Int32) : f_X10_sign (69, 0) (nI p) x2 x3 x4 h =
    (if (wth x2 Tn && wth x3 Tn && wth x4 12) = false then m_ex h 1 else if anyP (fun j => decide (m_gi h 54 0 j = nI p)) Sn = false then (if Sn < 8 then m_ri (m_si (m_sr (m_si (m_si (m_si (m_si (m_al h 29 4) 29 Sn 0 (nI p)) 29 Sn 1 x2) 29 Sn 2 x3) 29 Sn 3 x4) 2 0 Sn (some (29, Sn))) 24 0 1 (nI (Sn + 1))) (nI Sn) else m_ex h 2) else m_ex h 2) := by
  have hS := s.1
  have k1 := s.2.1
  have k3 := s.2.2.2.1
  have w3 : f_X10_isWithin x4 12 h = m_ri h (bI (wth x4 12)) := c_isWithin (n := 12)
  rw [f_X10_sign, c_checkPerson hp, bV_rt, gR_69, pc_tags H, gI_21, T.2.1, c_isWithin, bI_ri]
  cases b1 : wth x2 Tn
  · rw [bI_f, if_pos rfl, f_X10_sign_42, Bool.false_and, Bool.false_and, if_pos rfl]
  · rw [bI_t, if_neg (by decide), gR_69, pc_tags H, gI_21, T.2.1, c_isWithin, bI_ri]
    cases b2 : wth x3 Tn
    · rw [bI_f, if_pos rfl, f_X10_sign_42, Bool.and_false, Bool.false_and, if_pos rfl]
    · rw [bI_t, if_neg (by decide), w3, bI_ri]
      cases b3 : wth x4 12
      · rw [bI_f, if_pos rfl, f_X10_sign_42, Bool.and_false, if_pos rfl]
      · rw [bI_t, if_neg (by decide), gR_69, pc_gifts H, ao_24, c_hso H s, bI_ri, Bool.and_self, Bool.and_self, if_neg (show ¬ true = false by decide)]
        cases b4 : anyP (fun j => decide (m_gi h 54 0 j = nI p)) Sn
        · rw [bI_f, if_pos rfl, if_pos rfl, gR_69, pc_gifts H, gI_24, k1]
          have l1 : (nI Sn < (8 : Int32)) = (Sn < 8) := i_lt (b := 8) (by omega) (by omega)
          by_cases h8 : Sn < 8
          · have d1 : m_gi (m_si (m_si (m_si (m_si (m_al h 29 4) 29 Sn 0 (nI p)) 29 Sn 1 x2) 29 Sn 2 x3) 29 Sn 3 x4) 24 0 1 = nI Sn := by
              rw [gi_ne (by decide), gi_ne (by decide), gi_ne (by decide), gi_ne (by decide), gi_al (by decide)]; exact k1
            have d2 : m_gi (m_sr (m_si (m_si (m_si (m_si (m_al h 29 4) 29 Sn 0 (nI p)) 29 Sn 1 x2) 29 Sn 2 x3) 29 Sn 3 x4) 2 0 Sn (some (29, Sn))) 24 0 1 = nI Sn := by
              rw [gi_sr]; exact d1
            have e2 : m_gr (m_si (m_si (m_si (m_si (m_al h 29 4) 29 Sn 0 (nI p)) 29 Sn 1 x2) 29 Sn 2 x3) 29 Sn 3 x4) 24 0 0 = some (2, 0) := by
              rw [gr_si, gr_si, gr_si, gr_si, gr_al (by decide)]; exact pc_signs H
            rw [if_pos (show nI Sn < (8 : Int32) by rw [l1]; exact h8), if_pos h8, gR_69, pc_gifts H, new_eq, k3, f_X6_init, pI_29, pI_29, pI_29, pI_29, bW_rt, ao_24, f_X2_add, gR_24, e2, gI_24, d1, sR_2 h8, gI_24, d2, nI_1, pI_24, gI_24, gi_eq, nI_pred, bI_ri]
          · rw [if_neg (show ¬ nI Sn < (8 : Int32) by rw [l1]; exact h8), if_neg h8, f_X10_sign_76]
        · rw [bI_t, if_neg (by decide), if_neg (by decide), f_X10_sign_76]
end Sign
theorem op_sign {W Cn Tn Sn Qn : Nat} {h : am_H} (R : RR W Cn Tn Sn Qn h) (x y z u : Int32) : OpOK h (f_G_sign (some (69, 0)) x y z u (some (71, 0)) h) (f_X11_sign (70, 0) x y z u) vI := by
  have R0 := R
  obtain ⟨H, G, rDay, rBlk, rSam, N, rWa, rWc, rWp, rWl, rWo, rWt, rWf, rWw, rWs, rWk, rCo, rTg, rPa, rTp, rSg, rCm, rSb, rDg, rIv⟩ := R
  have hS := rSg.1
  have hT := rTg.1
  have e30 := rSg.2.2.1
  have e20 := rTg.2.2.1
  have Ge : ShM (m_op (m_th h)) := G.frm ((Frm.refl (pX [] []) h).th.op rfl)
  rcases ix_cases x (n := 12) (by omega) with ⟨p, hp, rfl⟩ | hx
  · have ix := isIx_ok (show 12 < 10000 by omega) hp
    have c := c_sign H rSg rTg hp y z u
    have r := r_sign (h := m_op (m_th h)) (Sn := Sn) (Tn := Tn) Ge e30 hS e20 hT (nI p) y z u
    rw [ix, if_neg (by decide)] at r
    cases b1 : wth y Tn && wth z Tn && wth u 12
    · rw [b1, if_pos rfl] at c r
      exact ok_ex R0 (c := 2) (b := 0) (by decide) (L_sign_x1 _ _ _ _ c) r
    · rw [b1, if_neg (by decide)] at c r
      cases b2 : anyP (fun j => decide (m_gi h 54 0 j = nI p)) Sn
      · have b2' : anyP (fun j => decide (m_gi (m_op (m_th h)) 54 0 j = nI p)) Sn = false := b2
        rw [b2, if_pos rfl] at c
        rw [b2', if_pos rfl] at r
        by_cases h8 : Sn < 8
        · rw [if_pos h8] at c
          have Fc : Frm (pX [(24, 1)] [29, 1029, 2]) h (m_sl (m_si (m_sr (m_si (m_si (m_si (m_si (m_al h 29 4) 29 Sn 0 (nI p)) 29 Sn 1 y) 29 Sn 2 z) 29 Sn 3 u) 2 0 Sn (some (29, Sn))) 24 0 1 (nI (Sn + 1))) 71 0 0 (vI (nI Sn))) := (((((((((Frm.refl _ h).al (fun _ => rfl) rfl).si rfl).si rfl).si rfl).si rfl).sr rfl).si rfl).sl)
          have k1 : m_gi (m_sl (m_si (m_sr (m_si (m_si (m_si (m_si (m_al h 29 4) 29 Sn 0 (nI p)) 29 Sn 1 y) 29 Sn 2 z) 29 Sn 3 u) 2 0 Sn (some (29, Sn))) 24 0 1 (nI (Sn + 1))) 71 0 0 (vI (nI Sn))) 70 0 30 = nI Sn := (Fc.1 70 0 30 rfl).trans e30
          have k2 : m_gi (m_sl (m_si (m_sr (m_si (m_si (m_si (m_si (m_al h 29 4) 29 Sn 0 (nI p)) 29 Sn 1 y) 29 Sn 2 z) 29 Sn 3 u) 2 0 Sn (some (29, Sn))) 24 0 1 (nI (Sn + 1))) 71 0 0 (vI (nI Sn))) 70 0 20 = nI Tn := (Fc.1 70 0 20 rfl).trans e20
          have k3 : m_gi (m_sl (m_si (m_sr (m_si (m_si (m_si (m_si (m_al h 29 4) 29 Sn 0 (nI p)) 29 Sn 1 y) 29 Sn 2 z) 29 Sn 3 u) 2 0 Sn (some (29, Sn))) 24 0 1 (nI (Sn + 1))) 71 0 0 (vI (nI Sn))) 54 = m_gi h 54 := funext fun a => funext fun b => Fc.1 54 a b rfl
          have r2 := r_sign (h := (m_sl (m_si (m_sr (m_si (m_si (m_si (m_si (m_al h 29 4) 29 Sn 0 (nI p)) 29 Sn 1 y) 29 Sn 2 z) 29 Sn 3 u) 2 0 Sn (some (29, Sn))) 24 0 1 (nI (Sn + 1))) 71 0 0 (vI (nI Sn)))) (Sn := Sn) (Tn := Tn) (G.frm Fc) k1 hS k2 hT (nI p) y z u
          rw [ix, if_neg (by decide), b1, if_neg (by decide), k3, b2, if_pos rfl, if_neg (show ¬ Sn = 8 by omega), r_sg0 (G.frm Fc) k1 h8] at r2
          refine ok_u (h1 := (m_si (m_sr (m_si (m_si (m_si (m_si (m_al h 29 4) 29 Sn 0 (nI p)) 29 Sn 1 y) 29 Sn 2 z) 29 Sn 3 u) 2 0 Sn (some (29, Sn))) 24 0 1 (nI (Sn + 1)))) (b := nI Sn) (h2 := (m_si (m_si (m_si (m_si (m_si (m_si (m_sl (m_si (m_sr (m_si (m_si (m_si (m_si (m_al h 29 4) 29 Sn 0 (nI p)) 29 Sn 1 y) 29 Sn 2 z) 29 Sn 3 u) 2 0 Sn (some (29, Sn))) 24 0 1 (nI (Sn + 1))) 71 0 0 (vI (nI Sn))) 70 0 0 0) 54 0 Sn (nI p)) 55 0 Sn y) 56 0 Sn z) 57 0 Sn u) 70 0 30 (nI (Sn + 1)))) (L_sign_ret _ _ _ _ c) r2 ?_ ?_ ?_ ?_ ?_ ?_ ?_
          · rw [gi_neI (by decide), gi_ne (by decide), gi_ne (by decide), gi_ne (by decide), gi_ne (by decide), gi_eq]
          · rw [gl_si, gl_si, gl_si, gl_si, gl_si, gl_si, gl_eq]
          · rfl
          · rfl
          · show m_nc h + 1 ≤ _; omega
          · show m_ns h + 4 ≤ _; omega
          · have F : Frm (pX [(24, 1), (70, 30)] [29, 1029, 2, 54, 55, 56, 57]) h (m_si (m_si (m_si (m_si (m_si (m_si (m_sl (m_si (m_sr (m_si (m_si (m_si (m_si (m_al h 29 4) 29 Sn 0 (nI p)) 29 Sn 1 y) 29 Sn 2 z) 29 Sn 3 u) 2 0 Sn (some (29, Sn))) 24 0 1 (nI (Sn + 1))) 71 0 0 (vI (nI Sn))) 70 0 0 0) 54 0 Sn (nI p)) 55 0 Sn y) 56 0 Sn z) 57 0 Sn u) 70 0 30 (nI (Sn + 1))) := (((((((((((((((Frm.refl _ h).al (fun _ => rfl) rfl).si rfl).si rfl).si rfl).si rfl).sr rfl).si rfl).sl).si rfl).si rfl).si rfl).si rfl).si rfl).si rfl)
            have nx29 := rSg.2.2.2.1
            have e29 : ∀ j i, j < Sn → m_gi (m_si (m_si (m_si (m_si (m_si (m_si (m_sl (m_si (m_sr (m_si (m_si (m_si (m_si (m_al h 29 4) 29 Sn 0 (nI p)) 29 Sn 1 y) 29 Sn 2 z) 29 Sn 3 u) 2 0 Sn (some (29, Sn))) 24 0 1 (nI (Sn + 1))) 71 0 0 (vI (nI Sn))) 70 0 0 0) 54 0 Sn (nI p)) 55 0 Sn y) 56 0 Sn z) 57 0 Sn u) 70 0 30 (nI (Sn + 1))) 29 j i = m_gi h 29 j i := fun j i hj => by
              simp only [m_gi_si, gi_sr, gi_sl, m_gi_al, nx29]
              simp [show ¬ j = Sn by omega]
            have e29S : ∀ i, m_gi (m_si (m_si (m_si (m_si (m_si (m_si (m_sl (m_si (m_sr (m_si (m_si (m_si (m_si (m_al h 29 4) 29 Sn 0 (nI p)) 29 Sn 1 y) 29 Sn 2 z) 29 Sn 3 u) 2 0 Sn (some (29, Sn))) 24 0 1 (nI (Sn + 1))) 71 0 0 (vI (nI Sn))) 70 0 0 0) 54 0 Sn (nI p)) 55 0 Sn y) 56 0 Sn z) 57 0 Sn u) 70 0 30 (nI (Sn + 1))) 29 Sn i = if i = 0 then nI p else if i = 1 then y else if i = 2 then z else if i = 3 then u else 0 := fun i => by
              simp only [m_gi_si, gi_sr, gi_sl, m_gi_al, nx29]
              by_cases i0 : i = 0
              · subst i0; simp
              · by_cases i1 : i = 1
                · subst i1; simp
                · by_cases i2 : i = 2
                  · subst i2; simp
                  · by_cases i3 : i = 3
                    · subst i3; simp
                    · simp [i0, i1, i2, i3]
            have g2 : ∀ j, m_gr (m_si (m_si (m_si (m_si (m_si (m_si (m_sl (m_si (m_sr (m_si (m_si (m_si (m_si (m_al h 29 4) 29 Sn 0 (nI p)) 29 Sn 1 y) 29 Sn 2 z) 29 Sn 3 u) 2 0 Sn (some (29, Sn))) 24 0 1 (nI (Sn + 1))) 71 0 0 (vI (nI Sn))) 70 0 0 0) 54 0 Sn (nI p)) 55 0 Sn y) 56 0 Sn z) 57 0 Sn u) 70 0 30 (nI (Sn + 1))) 2 0 j = if j = Sn then some (29, Sn) else m_gr h 2 0 j := fun j => by
              simp only [gr_si, gr_sl, m_gr_sr, m_gr_al, nx29]
              simp
            have e54 : ∀ j, m_gi (m_si (m_si (m_si (m_si (m_si (m_si (m_sl (m_si (m_sr (m_si (m_si (m_si (m_si (m_al h 29 4) 29 Sn 0 (nI p)) 29 Sn 1 y) 29 Sn 2 z) 29 Sn 3 u) 2 0 Sn (some (29, Sn))) 24 0 1 (nI (Sn + 1))) 71 0 0 (vI (nI Sn))) 70 0 0 0) 54 0 Sn (nI p)) 55 0 Sn y) 56 0 Sn z) 57 0 Sn u) 70 0 30 (nI (Sn + 1))) 54 0 j = if j = Sn then nI p else m_gi h 54 0 j := fun j => by
              simp only [m_gi_si, gi_sr, gi_sl, m_gi_al]
              simp
            have e55 : ∀ j, m_gi (m_si (m_si (m_si (m_si (m_si (m_si (m_sl (m_si (m_sr (m_si (m_si (m_si (m_si (m_al h 29 4) 29 Sn 0 (nI p)) 29 Sn 1 y) 29 Sn 2 z) 29 Sn 3 u) 2 0 Sn (some (29, Sn))) 24 0 1 (nI (Sn + 1))) 71 0 0 (vI (nI Sn))) 70 0 0 0) 54 0 Sn (nI p)) 55 0 Sn y) 56 0 Sn z) 57 0 Sn u) 70 0 30 (nI (Sn + 1))) 55 0 j = if j = Sn then y else m_gi h 55 0 j := fun j => by
              simp only [m_gi_si, gi_sr, gi_sl, m_gi_al]
              simp
            have e56 : ∀ j, m_gi (m_si (m_si (m_si (m_si (m_si (m_si (m_sl (m_si (m_sr (m_si (m_si (m_si (m_si (m_al h 29 4) 29 Sn 0 (nI p)) 29 Sn 1 y) 29 Sn 2 z) 29 Sn 3 u) 2 0 Sn (some (29, Sn))) 24 0 1 (nI (Sn + 1))) 71 0 0 (vI (nI Sn))) 70 0 0 0) 54 0 Sn (nI p)) 55 0 Sn y) 56 0 Sn z) 57 0 Sn u) 70 0 30 (nI (Sn + 1))) 56 0 j = if j = Sn then z else m_gi h 56 0 j := fun j => by
              simp only [m_gi_si, gi_sr, gi_sl, m_gi_al]
              simp
            have e57 : ∀ j, m_gi (m_si (m_si (m_si (m_si (m_si (m_si (m_sl (m_si (m_sr (m_si (m_si (m_si (m_si (m_al h 29 4) 29 Sn 0 (nI p)) 29 Sn 1 y) 29 Sn 2 z) 29 Sn 3 u) 2 0 Sn (some (29, Sn))) 24 0 1 (nI (Sn + 1))) 71 0 0 (vI (nI Sn))) 70 0 0 0) 54 0 Sn (nI p)) 55 0 Sn y) 56 0 Sn z) 57 0 Sn u) 70 0 30 (nI (Sn + 1))) 57 0 j = if j = Sn then u else m_gi h 57 0 j := fun j => by
              simp only [m_gi_si, gi_sr, gi_sl, m_gi_al]
              simp
            refine ⟨W, Cn, Tn, Sn + 1, Qn, ⟨H.frm F, G.frm F, rDay.frm F, rBlk.frm F, rSam.frm F, N.frm F, rWa.frm F, rWc.frm F, rWp.frm F, rWl.frm F, rWo.frm F, rWt.frm F, rWf.frm F, rWw.frm F, rWs.frm F, rWk.frm F, rCo.frm F, rTg.frm F, rPa.frm F, rTp.frm F, ?_, rCm.frm F, rSb.frm F, rDg.frm F, rIv.frm F⟩⟩
            refine ⟨by omega, ?_, gi_eq, ?_, fun j hj => ?_⟩
            · rw [gi_ne (by decide), gi_ne (by decide), gi_ne (by decide), gi_ne (by decide), gi_ne (by decide), gi_ne (by decide), gi_sl]; exact gi_eq
            · show m_nx (m_al h 29 4) 29 = _
              rw [nx_als, nx29]
            · rw [g2, e54, e55, e56, e57]
              by_cases ej : j = Sn
              · subst ej
                simp only [if_true, e29S]
                rw [Bool.and_eq_true, Bool.and_eq_true] at b1
                exact ⟨by first | trivial | rfl, by first | trivial | rfl, ⟨p, hp, by first | trivial | rfl⟩, by first | trivial | rfl, by first | trivial | rfl, by first | trivial | rfl, fun i hi => ⟨wth_hi (by omega) b1.1.1 i hi, wth_hi (by omega) b1.1.2 i hi⟩⟩
              · have hj' : j < Sn := by omega
                simp only [if_neg ej, e29 j _ hj']
                exact rSg.2.2.2.2 j hj'
        · rw [if_neg h8] at c
          rw [if_pos (show Sn = 8 by omega)] at r
          exact ok_ex R0 (c := 3) (b := 0) (by decide) (L_sign_x2 _ _ _ _ c) r
      · have b2' : anyP (fun j => decide (m_gi (m_op (m_th h)) 54 0 j = nI p)) Sn = true := b2
        rw [b2, if_neg (by decide)] at c
        rw [b2', if_neg (by decide)] at r
        exact ok_ex R0 (c := 3) (b := 0) (by decide) (L_sign_x2 _ _ _ _ c) r
  · have ix := isIx_bad (show 12 < 10000 by omega) hx
    have r := r_sign (h := m_op (m_th h)) (Sn := Sn) (Tn := Tn) Ge e30 hS e20 hT x y z u
    rw [ix, if_pos rfl] at r
    exact ok_ex R0 (c := 1) (b := 0) (by decide) (L_sign_x0 _ _ _ _ (by rw [f_X10_sign, c_checkPerson_bad hx, bV_ex])) r
