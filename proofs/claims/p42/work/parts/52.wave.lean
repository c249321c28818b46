/-! ## waves -/
/-- how many of the first n are filed, of m -/
def wvN (P : Nat → Bool) (m : Nat) : Nat → Nat
  | 0 => 0
  | n + 1 => wvN P m n + if P n && decide (wvN P m n < m) then 1 else 0
def flP (P : Nat → Bool) (m j : Nat) : Bool := P j && decide (wvN P m j < m)
theorem wvN_le (P : Nat → Bool) (m : Nat) : ∀ n, wvN P m n ≤ n
  | 0 => Nat.le_refl _
  | n + 1 => by rw [wvN]; have := wvN_le P m n; split <;> omega
theorem wvN_stop (P : Nat → Bool) (m : Nat) {k : Nat} (h : m ≤ wvN P m k) : ∀ n, k ≤ n → wvN P m n = wvN P m k := fun n hn => by
  induction n with
  | zero => rw [show k = 0 by omega]
  | succ n ih =>
    by_cases e : k = n + 1
    · rw [e]
    · have := ih (by omega)
      rw [wvN, this, decide_eq_false (by omega)]
      simp
theorem Frm.e11 {P : Nat → Nat → Bool} {h g : am_H} (F : Frm P h g) (p : ∀ j, P 11 j = true := by intro _; rfl) : m_gi g 11 = m_gi h 11 := by
  funext k j; exact F.1 11 k j (p j)
theorem Frm.e13 {P : Nat → Nat → Bool} {h g : am_H} (F : Frm P h g) (p : ∀ j, P 13 j = true := by intro _; rfl) : m_gi g 13 = m_gi h 13 := by
  funext k j; exact F.1 13 k j (p j)
section Wave
variable {W Tn : Nat} {h : am_H}
theorem c_wave25 (H : ShC h) (N : RWn W h) (T : RTg Tn h) (m : Nat) (hm : m ≤ 20) : ∀ (n k : Nat) (g : am_H), k ≤ W → W < k + n → Lp (pX [(27, 8), (27, 9)] []) h g →
    (∀ j, j < W → m_gi g 27 j 8 = if j < k ∧ flP (fun i => !decide (m_gi h 27 i 9 = 0)) m j = true then blg h (m_gi h 27 j 7) Tn else m_gi h 27 j 8) → (∀ j, j < W → m_gi g 27 j 9 = if j < k ∧ flP (fun i => !decide (m_gi h 27 i 9 = 0)) m j = true then 0 else m_gi h 27 j 9) →
    ∃ g', f_X10_wave_25 n (69, 0) (nI m) (nI (wvN (fun i => !decide (m_gi h 27 i 9 = 0)) m k)) (nI k) g = m_ri g' (nI (wvN (fun i => !decide (m_gi h 27 i 9 = 0)) m W)) ∧ Lp (pX [(27, 8), (27, 9)] []) h g' ∧
      (∀ j, j < W → m_gi g' 27 j 8 = if flP (fun i => !decide (m_gi h 27 i 9 = 0)) m j = true then blg h (m_gi h 27 j 7) Tn else m_gi h 27 j 8) ∧ (∀ j, j < W → m_gi g' 27 j 9 = if flP (fun i => !decide (m_gi h 27 i 9 = 0)) m j = true then 0 else m_gi h 27 j 9)
  | 0, k, g, h1, h2, _, _, _ => by omega
  | n + 1, k, g, h1, h2, F, i1, i2 => by
    have hW := N.1
    have N' : RWn W g := N.frm F.1
    have H' : ShC g := H.frm F.1
    have wl := wvN_le (fun i => !decide (m_gi h 27 i 9 = 0)) m k
    rw [f_X10_wave_25]
    simp only [gI_69, N'.2.1, i_le (show W < 10000 by omega) (show k < 10000 by omega), i_le (show m < 10000 by omega) (show wvN (fun i => !decide (m_gi h 27 i 9 = 0)) m k < 10000 by omega), f_X10_wave_80]
    by_cases hk : W ≤ k
    · rw [if_pos hk]
      have hkW : k = W := by omega
      subst hkW
      refine ⟨g, rfl, F, fun j hj => ?_, fun j hj => ?_⟩
      · rw [i1 j hj]; simp only [hj, true_and]
      · rw [i2 j hj]; simp only [hj, true_and]
    · rw [if_neg hk]
      by_cases hs : m ≤ wvN (fun i => !decide (m_gi h 27 i 9 = 0)) m k
      · rw [if_pos hs]
        have st := wvN_stop (fun i => !decide (m_gi h 27 i 9 = 0)) m hs
        have nf : ∀ j, k ≤ j → flP (fun i => !decide (m_gi h 27 i 9 = 0)) m j = false := fun j hj => by
          unfold flP
          rw [st j hj, decide_eq_false (by omega), Bool.and_false]
        refine ⟨g, by rw [st W (by omega)], F, fun j hj => ?_, fun j hj => ?_⟩
        · rw [i1 j hj]
          by_cases q : j < k
          · simp only [q, true_and]
          · rw [nf j (by omega)]; simp
        · rw [i2 j hj]
          by_cases q : j < k
          · simp only [q, true_and]
          · rw [nf j (by omega)]; simp
      · rw [if_neg hs]
        have e9 : m_gi g 27 k 9 = m_gi h 27 k 9 := by rw [i2 k (by omega), if_neg (fun z => by omega)]
        have e7 : m_gi g 27 k 7 = m_gi h 27 k 7 := F.1.1 27 k 7 rfl
        simp only [gR_69, pc_works H', pc_tags H', aR_19 (show k < 20 by omega), (N'.2.2.2.2.2 k (by omega)).1, gI_27, e9, e7, ao_21, c_belongUnder H' (T.frm F.1), blg_eq (F.1.e11) (F.1.e13), bI_ri, ao_27, f_X9_fileUnder, pI_27, pZ_27 nz_0, bV_rt, f_X10_wave_74, nI_1]
        by_cases hz : m_gi h 27 k 9 = 0
        · rw [if_pos hz]
          have fk : flP (fun i => !decide (m_gi h 27 i 9 = 0)) m k = false := by simp only [flP, decide_eq_true hz, Bool.not_true, Bool.false_and]
          have wk : wvN (fun i => !decide (m_gi h 27 i 9 = 0)) m (k + 1) = wvN (fun i => !decide (m_gi h 27 i 9 = 0)) m k := by rw [wvN]; simp only [decide_eq_true hz]; simp
          have := c_wave25 H N T m hm n (k + 1) g (by omega) (by omega) F (fun j hj => ?_) (fun j hj => ?_)
          · rw [wk] at this; exact this
          · rw [i1 j hj]
            by_cases q : j = k
            · subst q; rw [fk]; simp
            · have : (j < k + 1) = (j < k) := propext (by omega)
              simp only [this]
          · rw [i2 j hj]
            by_cases q : j = k
            · subst q; rw [fk]; simp
            · have : (j < k + 1) = (j < k) := propext (by omega)
              simp only [this]
        · rw [if_neg hz]
          have fk : flP (fun i => !decide (m_gi h 27 i 9 = 0)) m k = true := by simp only [flP, decide_eq_false hz, Bool.not_false, Bool.true_and]; exact decide_eq_true (by omega)
          have wk : wvN (fun i => !decide (m_gi h 27 i 9 = 0)) m (k + 1) = wvN (fun i => !decide (m_gi h 27 i 9 = 0)) m k + 1 := by
            have q := fk
            unfold flP at q
            rw [wvN]
            simp only [q]
            simp
          have := c_wave25 H N T m hm n (k + 1) (m_si (m_si g 27 k 8 (blg h (m_gi h 27 k 7) Tn)) 27 k 9 0) (by omega) (by omega) ((F.si (s := 27) (k := k) (j := 8) rfl).si (s := 27) (k := k) (j := 9) rfl) (fun j hj => ?_) (fun j hj => ?_)
          · rw [wk] at this; exact this
          · have q0 : m_gi (m_si (m_si g 27 k 8 (blg h (m_gi h 27 k 7) Tn)) 27 k 9 0) 27 j 8 = if j = k then blg h (m_gi h 27 k 7) Tn else m_gi g 27 j 8 := by
              rw [gi_neI (by decide), gi_upK]
            rw [q0]
            by_cases q : j = k
            · subst q; rw [if_pos rfl, if_pos ⟨by omega, fk⟩]
            · rw [if_neg q, i1 j hj]
              have : (j < k + 1) = (j < k) := propext (by omega)
              simp only [this]
          · rw [gi_upK]
            by_cases q : j = k
            · subst q; rw [if_pos rfl, if_pos ⟨by omega, fk⟩]
            · rw [if_neg q, gi_neI (by decide), i2 j hj]
              have : (j < k + 1) = (j < k) := propext (by omega)
              simp only [this]
theorem r_files (G : ShM h) (T : RTg Tn h) (A : RPa Tn h) {w : Nat} (hw : w < 20) : f_X11_files (70, 0) (nI w) h = m_rt (m_si (m_si h 41 0 w (blg h (m_gi h 40 0 w) Tn)) 42 0 w 0) none := by
  simp only [f_X11_files, gR_70, pm_13 G, ao_70, r_belongs G T A hw, bI_ri, sI_41 hw, gr_si, pm_14 G, sZ_42 nz_0 hw]
theorem r_wave28 (G : ShM h) (eW : m_gi h 70 0 4 = nI W) (hW : W ≤ 20) (T : RTg Tn h) (A : RPa Tn h) (m : Nat) (hm : m ≤ 20) : ∀ (n k : Nat) (g : am_H), k ≤ W → W < k + n → Lp (pX [] [41, 42]) h g →
    (∀ j, m_gi g 41 0 j = if j < k ∧ flP (fun i => !decide (m_gi h 42 0 i = 0)) m j = true then blg h (m_gi h 40 0 j) Tn else m_gi h 41 0 j) → (∀ j, m_gi g 42 0 j = if j < k ∧ flP (fun i => !decide (m_gi h 42 0 i = 0)) m j = true then 0 else m_gi h 42 0 j) →
    ∃ g', f_X11_wave_28 n (70, 0) (nI m) (nI (wvN (fun i => !decide (m_gi h 42 0 i = 0)) m k)) (nI k) g = m_ri g' (nI (wvN (fun i => !decide (m_gi h 42 0 i = 0)) m W)) ∧ Lp (pX [] [41, 42]) h g' ∧
      (∀ j, m_gi g' 41 0 j = if j < W ∧ flP (fun i => !decide (m_gi h 42 0 i = 0)) m j = true then blg h (m_gi h 40 0 j) Tn else m_gi h 41 0 j) ∧ (∀ j, m_gi g' 42 0 j = if j < W ∧ flP (fun i => !decide (m_gi h 42 0 i = 0)) m j = true then 0 else m_gi h 42 0 j)
  | 0, k, g, h1, h2, _, _, _ => by omega
  | n + 1, k, g, h1, h2, F, i1, i2 => by
    have G' : ShM g := G.frm F.1
    have e' : m_gi g 70 0 4 = nI W := (F.1.1 70 0 4 rfl).trans eW
    have wl := wvN_le (fun i => !decide (m_gi h 42 0 i = 0)) m k
    rw [f_X11_wave_28]
    simp only [gI_70, e', i_le (show W < 10000 by omega) (show k < 10000 by omega), i_le (show m < 10000 by omega) (show wvN (fun i => !decide (m_gi h 42 0 i = 0)) m k < 10000 by omega), f_X11_wave_64]
    by_cases hk : W ≤ k
    · rw [if_pos hk]
      have hkW : k = W := by omega
      subst hkW
      exact ⟨g, rfl, F, i1, i2⟩
    · rw [if_neg hk]
      by_cases hs : m ≤ wvN (fun i => !decide (m_gi h 42 0 i = 0)) m k
      · rw [if_pos hs]
        have st := wvN_stop (fun i => !decide (m_gi h 42 0 i = 0)) m hs
        have nf : ∀ j, k ≤ j → flP (fun i => !decide (m_gi h 42 0 i = 0)) m j = false := fun j hj => by
          unfold flP
          rw [st j hj, decide_eq_false (by omega), Bool.and_false]
        refine ⟨g, by rw [st W (by omega)], F, fun j => ?_, fun j => ?_⟩
        · rw [i1 j]
          by_cases q : j < k
          · simp only [q, show j < W by omega, true_and]
          · rw [nf j (by omega)]; simp
        · rw [i2 j]
          by_cases q : j < k
          · simp only [q, show j < W by omega, true_and]
          · rw [nf j (by omega)]; simp
      · rw [if_neg hs]
        have e9 : m_gi g 42 0 k = m_gi h 42 0 k := by rw [i2 k, if_neg (fun z => by omega)]
        have e7 : m_gi g 40 0 k = m_gi h 40 0 k := F.1.1 40 0 k rfl
        simp only [gR_70, pm_14 G', aI_42 (show k < 20 by omega), e9, ao_70, r_files G' (T.frm F.1) (A.frm F.1) (show k < 20 by omega), e7, blg_eq (F.1.e11) (F.1.e13), bV_rt, f_X11_wave_58, nI_1]
        by_cases hz : m_gi h 42 0 k = 0
        · rw [if_pos hz]
          have fk : flP (fun i => !decide (m_gi h 42 0 i = 0)) m k = false := by simp only [flP, decide_eq_true hz, Bool.not_true, Bool.false_and]
          have wk : wvN (fun i => !decide (m_gi h 42 0 i = 0)) m (k + 1) = wvN (fun i => !decide (m_gi h 42 0 i = 0)) m k := by rw [wvN]; simp only [decide_eq_true hz]; simp
          have := r_wave28 G eW hW T A m hm n (k + 1) g (by omega) (by omega) F (fun j => ?_) (fun j => ?_)
          · rw [wk] at this; exact this
          · rw [i1 j]
            by_cases q : j = k
            · subst q; rw [fk]; simp
            · have : (j < k + 1) = (j < k) := propext (by omega)
              simp only [this]
          · rw [i2 j]
            by_cases q : j = k
            · subst q; rw [fk]; simp
            · have : (j < k + 1) = (j < k) := propext (by omega)
              simp only [this]
        · rw [if_neg hz]
          have fk : flP (fun i => !decide (m_gi h 42 0 i = 0)) m k = true := by simp only [flP, decide_eq_false hz, Bool.not_false, Bool.true_and]; exact decide_eq_true (by omega)
          have wk : wvN (fun i => !decide (m_gi h 42 0 i = 0)) m (k + 1) = wvN (fun i => !decide (m_gi h 42 0 i = 0)) m k + 1 := by
            have q := fk
            unfold flP at q
            rw [wvN]
            simp only [q]
            simp
          have := r_wave28 G eW hW T A m hm n (k + 1) (m_si (m_si g 41 0 k (blg h (m_gi h 40 0 k) Tn)) 42 0 k 0) (by omega) (by omega) ((F.si (s := 41) (k := 0) (j := k) rfl).si (s := 42) (k := 0) (j := k) rfl) (fun j => ?_) (fun j => ?_)
          · rw [wk] at this; exact this
          · rw [gi_ne (by decide), gi_upJ]
            by_cases q : j = k
            · subst q; rw [if_pos rfl, if_pos ⟨by omega, fk⟩]
            · rw [if_neg q, i1 j]
              have : (j < k + 1) = (j < k) := propext (by omega)
              simp only [this]
          · rw [gi_upJ]
            by_cases q : j = k
            · subst q; rw [if_pos rfl, if_pos ⟨by omega, fk⟩]
            · rw [if_neg q, gi_ne (by decide), i2 j]
              have : (j < k + 1) = (j < k) := propext (by omega)
              simp only [this]
theorem c_wave5 (H : ShC h) (N : RWn W h) (T : RTg Tn h) (m : Nat) (hm : m ≤ 20) :
    ∃ g', f_X10_wave_25 5000 (69, 0) (nI m) 0 0 h = m_ri g' (nI (wvN (fun i => !decide (m_gi h 27 i 9 = 0)) m W)) ∧ Lp (pX [(27, 8), (27, 9)] []) h g' ∧
      (∀ j, j < W → m_gi g' 27 j 8 = if flP (fun i => !decide (m_gi h 27 i 9 = 0)) m j = true then blg h (m_gi h 27 j 7) Tn else m_gi h 27 j 8) ∧ (∀ j, j < W → m_gi g' 27 j 9 = if flP (fun i => !decide (m_gi h 27 i 9 = 0)) m j = true then 0 else m_gi h 27 j 9) := by
  obtain ⟨g, r, q⟩ := c_wave25 H N T m hm 5000 0 h (by omega) (by have := N.1; omega) (Lp.refl _ _) (fun j _ => by rw [if_neg (fun z => by omega)]) (fun j _ => by rw [if_neg (fun z => by omega)])
  rw [wvN, nI_0] at r
  exact ⟨g, r, q⟩
theorem r_wave5 (G : ShM h) (eW : m_gi h 70 0 4 = nI W) (hW : W ≤ 20) (T : RTg Tn h) (A : RPa Tn h) (m : Nat) (hm : m ≤ 20) :
    ∃ g', f_X11_wave_28 5000 (70, 0) (nI m) 0 0 h = m_ri g' (nI (wvN (fun i => !decide (m_gi h 42 0 i = 0)) m W)) ∧ Lp (pX [] [41, 42]) h g' ∧
      (∀ j, m_gi g' 41 0 j = if j < W ∧ flP (fun i => !decide (m_gi h 42 0 i = 0)) m j = true then blg h (m_gi h 40 0 j) Tn else m_gi h 41 0 j) ∧ (∀ j, m_gi g' 42 0 j = if j < W ∧ flP (fun i => !decide (m_gi h 42 0 i = 0)) m j = true then 0 else m_gi h 42 0 j) := by
  obtain ⟨g, r, q⟩ := r_wave28 G eW hW T A m hm 5000 0 h (by omega) (by omega) (Lp.refl _ _) (fun j => by rw [if_neg (fun z => by omega)]) (fun j => by rw [if_neg (fun z => by omega)])
  rw [wvN, nI_0] at r
  exact ⟨g, r, q⟩
end Wave
theorem wvN_congr {P Q : Nat → Bool} (m : Nat) : ∀ {n : Nat}, (∀ i, i < n → P i = Q i) → wvN P m n = wvN Q m n
  | 0, _ => rfl
  | n + 1, h => by rw [wvN, wvN, wvN_congr m (fun i hi => h i (by omega)), h n (by omega)]
theorem op_wave {W Cn Tn Sn Qn : Nat} {h : am_H} (R : RR W Cn Tn Sn Qn h) (x : Int32) : OpOK h (f_G_wave (some (69, 0)) x (some (71, 0)) h) (f_X11_wave (70, 0) x) vI := by
  have R0 := R
  obtain ⟨H, G, rDay, rBlk, rSam, N, rWa, rWc, rWp, rWl, rWo, rWt, rWf, rWw, rWs, rWk, rCo, rTg, rPa, rTp, rSg, rCm, rSb, rDg, rIv⟩ := R
  have hW := N.1
  rcases ix_cases x (n := 21) (by omega) with ⟨m, hm, rfl⟩ | hx
  · have c1 : (nI m < (1 : Int32)) = (m < 1) := i_lt (b := 1) (by omega) (by omega)
    have c2 : (nI m ≤ (20 : Int32)) = True := eq_true (nI_le (b := 20) (by omega) (by omega))
    have c3 : ((20 : Int32) < nI m) = False := eq_false (nI_nlt (a := 20) (by omega) (by omega))
    by_cases m0 : m = 0
    · subst m0
      refine ok_ex R0 (c := 1) (b := 0) (by decide) (L_wave_x1 _ ?_) ?_
      · simp (decide := true) only [f_X10_wave_80, f_X10_wave_74, f_X10_wave_11, f_X10_wave, nz_0, nz_1, rz_bI, rz_0, rz_1, bI_eq0, bI_t, bI_f, bI_ri, bI_ex, bR_ra, bR_ex, bV_rt, bV_ex, bW_rt, bJ_ri, bIx_ri, bIx_ex, bVx_rt, bVx_ex, gi_ne, gi_eq, gi_sr, gi_sl, gi_th, gi_op, gr_si, gr_sl, gr_th, gr_op, gr_ne, gl_si, gl_sr, gl_th, gl_op, gl_eq, gi_al, gr_al, gl_al, nx_si, nx_sr, nx_sl, nx_th, nx_op, nx_al, nx_als, nc_si, nc_sr, nc_sl, nc_th, nc_op, nc_al, ns_si, ns_sr, ns_sl, ns_th, ns_op, ns_al, gi_neI, aR_2, sR_2, aI_3, sI_3, aI_4, sI_4, aI_5, sI_5, aI_6, sI_6, aI_7, sI_7, aI_8, sI_8, aI_9, sI_9, aI_10, sZ_10, aI_11, sI_11, aI_12, sI_12, aI_13, sI_13, aI_14, sC_14, gI_15, gR_15, pI_15, pR_15, pZ_15, ao_15, pC_15, aI_16, sI_16, aI_17, sI_17, aR_18, sR_18, aR_19, sR_19, aR_20, sR_20, gI_21, gR_21, pI_21, pR_21, pZ_21, ao_21, gI_22, gR_22, pI_22, pR_22, pZ_22, ao_22, gI_23, gR_23, pI_23, pR_23, pZ_23, ao_23, gI_24, gR_24, pI_24, pR_24, pZ_24, ao_24, aR_25, sR_25, gI_26, gR_26, pI_26, pR_26, pZ_26, ao_26, gI_27, gR_27, pI_27, pR_27, pZ_27, ao_27, gI_28, gR_28, pI_28, pR_28, pZ_28, ao_28, gI_29, gR_29, pI_29, pR_29, pZ_29, ao_29, gI_30, gR_30, pI_30, pR_30, pZ_30, ao_30, gI_69, gR_69, pI_69, pR_69, pZ_69, ao_69, pc_same H, pc_people H, pc_works H, pc_cols H, pc_tags H, pc_tape H, pc_sieve H, pc_gifts H, pc_coms H, pc_mean H, pc_par H, pc_abv H, pc_chars H, pc_scan H, pc_parts H, pc_items H, pc_nots H, pc_signs H, pc_recv H, pc_ways H, if_true, if_false, c1]
      · simp (decide := true) only [f_X11_wave_64, f_X11_wave_58, f_X11_wave_16, f_X11_wave, nz_0, nz_1, rz_bI, rz_0, rz_1, bI_eq0, bI_t, bI_f, bI_ri, bI_ex, bR_ra, bR_ex, bV_rt, bV_ex, bW_rt, bJ_ri, bIx_ri, bIx_ex, bVx_rt, bVx_ex, gi_ne, gi_eq, gi_sr, gi_sl, gi_th, gi_op, gr_si, gr_sl, gr_th, gr_op, gr_ne, gl_si, gl_sr, gl_th, gl_op, gl_eq, gi_al, gr_al, gl_al, nx_si, nx_sr, nx_sl, nx_th, nx_op, nx_al, nx_als, nc_si, nc_sr, nc_sl, nc_th, nc_op, nc_al, ns_si, ns_sr, ns_sl, ns_th, ns_op, ns_al, gi_neI, aI_31, sZ_31, aI_32, sI_32, aI_33, sI_33, aI_34, sI_34, aI_35, sI_35, aI_36, sI_36, aI_37, sI_37, aI_38, sZ_38, aI_39, sI_39, aI_40, sI_40, aI_41, sI_41, aI_42, sZ_42, aI_43, sZ_43, aI_44, sI_44, aI_45, sI_45, aI_46, sI_46, aI_47, sI_47, aI_48, sI_48, aI_49, sI_49, aI_50, sI_50, aI_51, sZ_51, aI_52, sZ_52, aI_53, sZ_53, aI_54, sI_54, aI_55, sI_55, aI_56, sI_56, aI_57, sI_57, aI_58, sZ_58, aI_59, sI_59, aI_60, sI_60, aI_61, sI_61, aI_62, sI_62, aI_63, sZ_63, aI_64, sZ_64, aI_65, sZ_65, aI_66, sI_66, aI_67, sI_67, aI_68, sZ_68, gI_70, gR_70, pI_70, pR_70, pZ_70, ao_70, aL_71, sL_71, pm_2 G, pm_3 G, pm_5 G, pm_6 G, pm_7 G, pm_8 G, pm_9 G, pm_10 G, pm_11 G, pm_12 G, pm_13 G, pm_14 G, pm_15 G, pm_16 G, pm_18 G, pm_19 G, pm_21 G, pm_22 G, pm_23 G, pm_25 G, pm_26 G, pm_27 G, pm_28 G, pm_31 G, pm_32 G, pm_33 G, pm_34 G, pm_35 G, pm_36 G, pm_38 G, pm_39 G, pm_40 G, pm_41 G, pm_42 G, pm_43 G, pm_44 G, pm_45 G, pm_46 G, r_isWork, r_isTag, r_isPerson, r_isFace, r_h0, r_h1, r_h2, r_h3, n10, n20, n30, n00, if_true, if_false, not_true_eq_false, not_false_eq_true, false_and, and_false, decide_false, decide_true, r_in, c1]
    · have c1' : (nI m < (1 : Int32)) = False := by rw [c1]; exact eq_false (by omega)
      obtain ⟨h1, r1, F1, u8, u9⟩ := c_wave5 H N rTg m (by omega)
      have Fc : Frm (pX [(27, 8), (27, 9)] []) h (m_si (m_sl h1 71 0 0 (vI (nI (wvN (fun i => !decide (m_gi h 27 i 9 = 0)) m W)))) 70 0 0 0) := F1.1.sl.si rfl
      obtain ⟨h2, r2, F2, v41, v42⟩ := r_wave5 (h := (m_si (m_sl h1 71 0 0 (vI (nI (wvN (fun i => !decide (m_gi h 27 i 9 = 0)) m W)))) 70 0 0 0)) (W := W) (G.frm Fc) ((Fc.1 70 0 4 rfl).trans N.2.2.1) hW (rTg.frm Fc) (rPa.frm Fc) m (by omega)
      have F : Frm (pX [(27, 8), (27, 9)] [41, 42]) h h2 := Fc.up.trans F2.1.up
      have eP : ∀ i, i < W → (!decide (m_gi (m_si (m_sl h1 71 0 0 (vI (nI (wvN (fun i => !decide (m_gi h 27 i 9 = 0)) m W)))) 70 0 0 0) 42 0 i = 0)) = (!decide (m_gi h 27 i 9 = 0)) := fun i hi => by rw [Fc.1 42 0 i rfl, rWw.1 i hi]
      have eN : ∀ j, j ≤ W → wvN (fun i => !decide (m_gi (m_si (m_sl h1 71 0 0 (vI (nI (wvN (fun i => !decide (m_gi h 27 i 9 = 0)) m W)))) 70 0 0 0) 42 0 i = 0)) m j = wvN (fun i => !decide (m_gi h 27 i 9 = 0)) m j := fun j hj => wvN_congr m (fun i hi => eP i (by omega))
      have eF : ∀ j, j < W → flP (fun i => !decide (m_gi (m_si (m_sl h1 71 0 0 (vI (nI (wvN (fun i => !decide (m_gi h 27 i 9 = 0)) m W)))) 70 0 0 0) 42 0 i = 0)) m j = flP (fun i => !decide (m_gi h 27 i 9 = 0)) m j := fun j hj => by
        simp only [flP]
        rw [eP j hj, eN j (by omega)]
      rw [eN W (Nat.le_refl _)] at r2
      refine ok_u (hv := fun _ => nI_ne21 (by have := wvN_le (fun i => !decide (m_gi h 27 i 9 = 0)) m W; omega)) (h1 := h1) (b := (nI (wvN (fun i => !decide (m_gi h 27 i 9 = 0)) m W))) (h2 := h2) (L_wave_ret _ ?_) ?_ (F2.2.2.2.2.trans ?_) ((congrFun (congrFun (congrFun F2.2.1 71) 0) 0).trans gl_eq) F1.1.g1 F.g1 ?_ ?_ ?_
      · simp (decide := true) only [f_X10_wave_80, f_X10_wave_74, f_X10_wave_11, f_X10_wave, nz_0, nz_1, rz_bI, rz_0, rz_1, bI_eq0, bI_t, bI_f, bI_ri, bI_ex, bR_ra, bR_ex, bV_rt, bV_ex, bW_rt, bJ_ri, bIx_ri, bIx_ex, bVx_rt, bVx_ex, gi_ne, gi_eq, gi_sr, gi_sl, gi_th, gi_op, gr_si, gr_sl, gr_th, gr_op, gr_ne, gl_si, gl_sr, gl_th, gl_op, gl_eq, gi_al, gr_al, gl_al, nx_si, nx_sr, nx_sl, nx_th, nx_op, nx_al, nx_als, nc_si, nc_sr, nc_sl, nc_th, nc_op, nc_al, ns_si, ns_sr, ns_sl, ns_th, ns_op, ns_al, gi_neI, aR_2, sR_2, aI_3, sI_3, aI_4, sI_4, aI_5, sI_5, aI_6, sI_6, aI_7, sI_7, aI_8, sI_8, aI_9, sI_9, aI_10, sZ_10, aI_11, sI_11, aI_12, sI_12, aI_13, sI_13, aI_14, sC_14, gI_15, gR_15, pI_15, pR_15, pZ_15, ao_15, pC_15, aI_16, sI_16, aI_17, sI_17, aR_18, sR_18, aR_19, sR_19, aR_20, sR_20, gI_21, gR_21, pI_21, pR_21, pZ_21, ao_21, gI_22, gR_22, pI_22, pR_22, pZ_22, ao_22, gI_23, gR_23, pI_23, pR_23, pZ_23, ao_23, gI_24, gR_24, pI_24, pR_24, pZ_24, ao_24, aR_25, sR_25, gI_26, gR_26, pI_26, pR_26, pZ_26, ao_26, gI_27, gR_27, pI_27, pR_27, pZ_27, ao_27, gI_28, gR_28, pI_28, pR_28, pZ_28, ao_28, gI_29, gR_29, pI_29, pR_29, pZ_29, ao_29, gI_30, gR_30, pI_30, pR_30, pZ_30, ao_30, gI_69, gR_69, pI_69, pR_69, pZ_69, ao_69, pc_same H, pc_people H, pc_works H, pc_cols H, pc_tags H, pc_tape H, pc_sieve H, pc_gifts H, pc_coms H, pc_mean H, pc_par H, pc_abv H, pc_chars H, pc_scan H, pc_parts H, pc_items H, pc_nots H, pc_signs H, pc_recv H, pc_ways H, if_true, if_false, c1', c2, r1]
      · simp (decide := true) only [f_X11_wave_64, f_X11_wave_58, f_X11_wave_16, f_X11_wave, nz_0, nz_1, rz_bI, rz_0, rz_1, bI_eq0, bI_t, bI_f, bI_ri, bI_ex, bR_ra, bR_ex, bV_rt, bV_ex, bW_rt, bJ_ri, bIx_ri, bIx_ex, bVx_rt, bVx_ex, gi_ne, gi_eq, gi_sr, gi_sl, gi_th, gi_op, gr_si, gr_sl, gr_th, gr_op, gr_ne, gl_si, gl_sr, gl_th, gl_op, gl_eq, gi_al, gr_al, gl_al, nx_si, nx_sr, nx_sl, nx_th, nx_op, nx_al, nx_als, nc_si, nc_sr, nc_sl, nc_th, nc_op, nc_al, ns_si, ns_sr, ns_sl, ns_th, ns_op, ns_al, gi_neI, aI_31, sZ_31, aI_32, sI_32, aI_33, sI_33, aI_34, sI_34, aI_35, sI_35, aI_36, sI_36, aI_37, sI_37, aI_38, sZ_38, aI_39, sI_39, aI_40, sI_40, aI_41, sI_41, aI_42, sZ_42, aI_43, sZ_43, aI_44, sI_44, aI_45, sI_45, aI_46, sI_46, aI_47, sI_47, aI_48, sI_48, aI_49, sI_49, aI_50, sI_50, aI_51, sZ_51, aI_52, sZ_52, aI_53, sZ_53, aI_54, sI_54, aI_55, sI_55, aI_56, sI_56, aI_57, sI_57, aI_58, sZ_58, aI_59, sI_59, aI_60, sI_60, aI_61, sI_61, aI_62, sI_62, aI_63, sZ_63, aI_64, sZ_64, aI_65, sZ_65, aI_66, sI_66, aI_67, sI_67, aI_68, sZ_68, gI_70, gR_70, pI_70, pR_70, pZ_70, ao_70, aL_71, sL_71, pm_2 G, pm_3 G, pm_5 G, pm_6 G, pm_7 G, pm_8 G, pm_9 G, pm_10 G, pm_11 G, pm_12 G, pm_13 G, pm_14 G, pm_15 G, pm_16 G, pm_18 G, pm_19 G, pm_21 G, pm_22 G, pm_23 G, pm_25 G, pm_26 G, pm_27 G, pm_28 G, pm_31 G, pm_32 G, pm_33 G, pm_34 G, pm_35 G, pm_36 G, pm_38 G, pm_39 G, pm_40 G, pm_41 G, pm_42 G, pm_43 G, pm_44 G, pm_45 G, pm_46 G, r_isWork, r_isTag, r_isPerson, r_isFace, r_h0, r_h1, r_h2, r_h3, n10, n20, n30, n00, if_true, if_false, not_true_eq_false, not_false_eq_true, false_and, and_false, decide_false, decide_true, r_in, c1', c3, r2]
      · rfl
      · rw [F2.2.2.1]; show m_nc h1 ≤ _; rw [F1.2.2.1]; exact Nat.le_add_right _ _
      · rw [F2.2.2.2.1]; show m_ns h1 ≤ _; rw [F1.2.2.2.1]; exact Nat.le_add_right _ _
      · have z8 : ∀ j, j < W → m_gi h2 27 j 8 = m_gi h1 27 j 8 := fun j hj => F2.1.1 27 j 8 rfl
        have z9 : ∀ j, j < W → m_gi h2 27 j 9 = m_gi h1 27 j 9 := fun j hj => F2.1.1 27 j 9 rfl
        have c41 : ∀ j, m_gi (m_si (m_sl h1 71 0 0 (vI (nI (wvN (fun i => !decide (m_gi h 27 i 9 = 0)) m W)))) 70 0 0 0) 41 0 j = m_gi h 41 0 j := fun j => Fc.1 41 0 j rfl
        have c42 : ∀ j, m_gi (m_si (m_sl h1 71 0 0 (vI (nI (wvN (fun i => !decide (m_gi h 27 i 9 = 0)) m W)))) 70 0 0 0) 42 0 j = m_gi h 42 0 j := fun j => Fc.1 42 0 j rfl
        have c40 : ∀ j, m_gi (m_si (m_sl h1 71 0 0 (vI (nI (wvN (fun i => !decide (m_gi h 27 i 9 = 0)) m W)))) 70 0 0 0) 40 0 j = m_gi h 40 0 j := fun j => Fc.1 40 0 j rfl
        have cb : ∀ s n, blg (m_si (m_sl h1 71 0 0 (vI (nI (wvN (fun i => !decide (m_gi h 27 i 9 = 0)) m W)))) 70 0 0 0) s n = blg h s n := fun s n => blg_eq Fc.e11 Fc.e13 s n
        refine ⟨W, Cn, Tn, Sn, Qn, ⟨H.frm F, G.frm F, rDay.frm F, rBlk.frm F, rSam.frm F, N.frm F, rWa.frm F, rWc.frm F, rWp.frm F, rWl.frm F, rWo.frm F, rWt.frm F, ?_, ?_, rWs.frm F, rWk.frm F, rCo.frm F, rTg.frm F, rPa.frm F, rTp.frm F, rSg.frm F, rCm.frm F, rSb.frm F, rDg.frm F, rIv.wave (funext fun a => funext fun b => F.1 11 a b rfl) (funext fun a => funext fun b => F.1 13 a b rfl) (fun k => F.1 40 0 k rfl) (fun k hk => ?_)⟩⟩
        · refine ⟨fun j hj => ?_, fun j i hj hi => ?_, fun j a b => by rw [v41, if_neg (fun z => by omega), c41]; exact rWf.2.2 j a b⟩
          · rw [z8 j hj, u8 j hj, v41, eF j hj, c41, c40, cb, rWt.1 j hj, rWf.1 j hj]
            simp only [hj, true_and]
          · rw [v41]
            split
            · rw [cb]; exact blg_hi rTg rPa _ Tn (Nat.le_refl _) i hi
            · rw [c41]; exact rWf.2.1 j i hj hi
        · refine ⟨fun j hj => ?_, fun j hj => ?_, fun j a b => by rw [v42, if_neg (fun z => by omega), c42]; exact rWw.2.2 j a b⟩
          · rw [z9 j hj, u9 j hj, v42, eF j hj, c42, rWw.1 j hj]
            simp only [hj, true_and]
          · rw [v42]
            split
            · exact nz_0
            · rw [c42]; exact rWw.2.1 j hj
        · rw [v41, v42, c41, c42, c40, cb]
          split
          · exact Or.inl rfl
          · exact Or.inr ⟨rfl, rfl⟩
  · have c1 : x < 1 ∨ ¬ x ≤ 20 := by
      rcases hx with hx | hx
      · exact Or.inl (Int32.lt_trans hx (by decide))
      · right; intro z
        have := Int32.le_trans hx z
        exact absurd this (by decide)
    refine ok_ex R0 (c := 1) (b := 0) (by decide) (L_wave_x1 _ ?_) ?_
    · rcases c1 with c | c
      · simp (decide := true) only [f_X10_wave_80, f_X10_wave_74, f_X10_wave_11, f_X10_wave, nz_0, nz_1, rz_bI, rz_0, rz_1, bI_eq0, bI_t, bI_f, bI_ri, bI_ex, bR_ra, bR_ex, bV_rt, bV_ex, bW_rt, bJ_ri, bIx_ri, bIx_ex, bVx_rt, bVx_ex, gi_ne, gi_eq, gi_sr, gi_sl, gi_th, gi_op, gr_si, gr_sl, gr_th, gr_op, gr_ne, gl_si, gl_sr, gl_th, gl_op, gl_eq, gi_al, gr_al, gl_al, nx_si, nx_sr, nx_sl, nx_th, nx_op, nx_al, nx_als, nc_si, nc_sr, nc_sl, nc_th, nc_op, nc_al, ns_si, ns_sr, ns_sl, ns_th, ns_op, ns_al, gi_neI, aR_2, sR_2, aI_3, sI_3, aI_4, sI_4, aI_5, sI_5, aI_6, sI_6, aI_7, sI_7, aI_8, sI_8, aI_9, sI_9, aI_10, sZ_10, aI_11, sI_11, aI_12, sI_12, aI_13, sI_13, aI_14, sC_14, gI_15, gR_15, pI_15, pR_15, pZ_15, ao_15, pC_15, aI_16, sI_16, aI_17, sI_17, aR_18, sR_18, aR_19, sR_19, aR_20, sR_20, gI_21, gR_21, pI_21, pR_21, pZ_21, ao_21, gI_22, gR_22, pI_22, pR_22, pZ_22, ao_22, gI_23, gR_23, pI_23, pR_23, pZ_23, ao_23, gI_24, gR_24, pI_24, pR_24, pZ_24, ao_24, aR_25, sR_25, gI_26, gR_26, pI_26, pR_26, pZ_26, ao_26, gI_27, gR_27, pI_27, pR_27, pZ_27, ao_27, gI_28, gR_28, pI_28, pR_28, pZ_28, ao_28, gI_29, gR_29, pI_29, pR_29, pZ_29, ao_29, gI_30, gR_30, pI_30, pR_30, pZ_30, ao_30, gI_69, gR_69, pI_69, pR_69, pZ_69, ao_69, pc_same H, pc_people H, pc_works H, pc_cols H, pc_tags H, pc_tape H, pc_sieve H, pc_gifts H, pc_coms H, pc_mean H, pc_par H, pc_abv H, pc_chars H, pc_scan H, pc_parts H, pc_items H, pc_nots H, pc_signs H, pc_recv H, pc_ways H, if_true, if_false, c]
      · simp (decide := true) only [f_X10_wave_80, f_X10_wave_74, f_X10_wave_11, f_X10_wave, nz_0, nz_1, rz_bI, rz_0, rz_1, bI_eq0, bI_t, bI_f, bI_ri, bI_ex, bR_ra, bR_ex, bV_rt, bV_ex, bW_rt, bJ_ri, bIx_ri, bIx_ex, bVx_rt, bVx_ex, gi_ne, gi_eq, gi_sr, gi_sl, gi_th, gi_op, gr_si, gr_sl, gr_th, gr_op, gr_ne, gl_si, gl_sr, gl_th, gl_op, gl_eq, gi_al, gr_al, gl_al, nx_si, nx_sr, nx_sl, nx_th, nx_op, nx_al, nx_als, nc_si, nc_sr, nc_sl, nc_th, nc_op, nc_al, ns_si, ns_sr, ns_sl, ns_th, ns_op, ns_al, gi_neI, aR_2, sR_2, aI_3, sI_3, aI_4, sI_4, aI_5, sI_5, aI_6, sI_6, aI_7, sI_7, aI_8, sI_8, aI_9, sI_9, aI_10, sZ_10, aI_11, sI_11, aI_12, sI_12, aI_13, sI_13, aI_14, sC_14, gI_15, gR_15, pI_15, pR_15, pZ_15, ao_15, pC_15, aI_16, sI_16, aI_17, sI_17, aR_18, sR_18, aR_19, sR_19, aR_20, sR_20, gI_21, gR_21, pI_21, pR_21, pZ_21, ao_21, gI_22, gR_22, pI_22, pR_22, pZ_22, ao_22, gI_23, gR_23, pI_23, pR_23, pZ_23, ao_23, gI_24, gR_24, pI_24, pR_24, pZ_24, ao_24, aR_25, sR_25, gI_26, gR_26, pI_26, pR_26, pZ_26, ao_26, gI_27, gR_27, pI_27, pR_27, pZ_27, ao_27, gI_28, gR_28, pI_28, pR_28, pZ_28, ao_28, gI_29, gR_29, pI_29, pR_29, pZ_29, ao_29, gI_30, gR_30, pI_30, pR_30, pZ_30, ao_30, gI_69, gR_69, pI_69, pR_69, pZ_69, ao_69, pc_same H, pc_people H, pc_works H, pc_cols H, pc_tags H, pc_tape H, pc_sieve H, pc_gifts H, pc_coms H, pc_mean H, pc_par H, pc_abv H, pc_chars H, pc_scan H, pc_parts H, pc_items H, pc_nots H, pc_signs H, pc_recv H, pc_ways H, if_true, if_false, c, ite_self]
    · have c2 : decide (¬ x < 1 ∧ ¬ 20 < x) = false := by
        apply decide_eq_false
        rintro ⟨a, b⟩
        rcases c1 with c | c
        · exact a c
        · exact c (Int32.not_lt.mp b)
      simp (decide := true) only [f_X11_wave_64, f_X11_wave_58, f_X11_wave_16, f_X11_wave, nz_0, nz_1, rz_bI, rz_0, rz_1, bI_eq0, bI_t, bI_f, bI_ri, bI_ex, bR_ra, bR_ex, bV_rt, bV_ex, bW_rt, bJ_ri, bIx_ri, bIx_ex, bVx_rt, bVx_ex, gi_ne, gi_eq, gi_sr, gi_sl, gi_th, gi_op, gr_si, gr_sl, gr_th, gr_op, gr_ne, gl_si, gl_sr, gl_th, gl_op, gl_eq, gi_al, gr_al, gl_al, nx_si, nx_sr, nx_sl, nx_th, nx_op, nx_al, nx_als, nc_si, nc_sr, nc_sl, nc_th, nc_op, nc_al, ns_si, ns_sr, ns_sl, ns_th, ns_op, ns_al, gi_neI, aI_31, sZ_31, aI_32, sI_32, aI_33, sI_33, aI_34, sI_34, aI_35, sI_35, aI_36, sI_36, aI_37, sI_37, aI_38, sZ_38, aI_39, sI_39, aI_40, sI_40, aI_41, sI_41, aI_42, sZ_42, aI_43, sZ_43, aI_44, sI_44, aI_45, sI_45, aI_46, sI_46, aI_47, sI_47, aI_48, sI_48, aI_49, sI_49, aI_50, sI_50, aI_51, sZ_51, aI_52, sZ_52, aI_53, sZ_53, aI_54, sI_54, aI_55, sI_55, aI_56, sI_56, aI_57, sI_57, aI_58, sZ_58, aI_59, sI_59, aI_60, sI_60, aI_61, sI_61, aI_62, sI_62, aI_63, sZ_63, aI_64, sZ_64, aI_65, sZ_65, aI_66, sI_66, aI_67, sI_67, aI_68, sZ_68, gI_70, gR_70, pI_70, pR_70, pZ_70, ao_70, aL_71, sL_71, pm_2 G, pm_3 G, pm_5 G, pm_6 G, pm_7 G, pm_8 G, pm_9 G, pm_10 G, pm_11 G, pm_12 G, pm_13 G, pm_14 G, pm_15 G, pm_16 G, pm_18 G, pm_19 G, pm_21 G, pm_22 G, pm_23 G, pm_25 G, pm_26 G, pm_27 G, pm_28 G, pm_31 G, pm_32 G, pm_33 G, pm_34 G, pm_35 G, pm_36 G, pm_38 G, pm_39 G, pm_40 G, pm_41 G, pm_42 G, pm_43 G, pm_44 G, pm_45 G, pm_46 G, r_isWork, r_isTag, r_isPerson, r_isFace, r_h0, r_h1, r_h2, r_h3, n10, n20, n30, n00, if_true, if_false, not_true_eq_false, not_false_eq_true, false_and, and_false, decide_false, decide_true, r_in, c2]
