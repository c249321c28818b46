/-! ## tags that change -/
def wtP (h : am_H) (j : Nat) : Bool := !decide (m_gi h 42 0 j = 0) || !decide (m_gi h 40 0 j = 0)
theorem wtP_0 {h : am_H} {j : Nat} (e : bI (wtP h j) = 0) : m_gi h 42 0 j = 0 ∧ m_gi h 40 0 j = 0 := by
  rw [bI_eq0] at e
  unfold wtP at e
  simpa using e
theorem wtP_eq {g h : am_H} (e1 : m_gi g 42 = m_gi h 42) (e2 : m_gi g 40 = m_gi h 40) (j : Nat) : wtP g j = wtP h j := by unfold wtP; rw [e1, e2]
section Wait
variable {W : Nat} {h : am_H}
theorem c_letWait2 (H : ShC h) (N : RWn W h) (w : RWw W h) (wt : ∀ k, k < W → m_gi h 27 k 7 = m_gi h 40 0 k) : ∀ (n k : Nat) (g : am_H), k ≤ W → W < k + n → Lp (pX [(27, 9)] []) h g → (∀ j, j < k → m_gi g 27 j 9 = bI (wtP h j)) → (∀ j, k ≤ j → m_gi g 27 j 9 = m_gi h 27 j 9) →
    ∃ g', f_X10_letTaggedWorksWait_2 n (69, 0) (nI k) g = m_rt g' none ∧ Lp (pX [(27, 9)] []) h g' ∧ ∀ j, j < W → m_gi g' 27 j 9 = bI (wtP h j)
  | 0, k, g, h1, h2, _, _, _ => by omega
  | n + 1, k, g, h1, h2, F, i1, i2 => by
    have hW := N.1
    have N' : RWn W g := N.frm F.1
    have H' : ShC g := H.frm F.1
    rw [f_X10_letTaggedWorksWait_2]
    simp only [gI_69, N'.2.1, i_le (show W < 10000 by omega) (show k < 10000 by omega)]
    by_cases hk : W ≤ k
    · rw [if_pos hk]
      exact ⟨g, rfl, F, fun j hj => i1 j (by omega)⟩
    · rw [if_neg hk]
      have e9 : m_gi g 27 k 9 = m_gi h 42 0 k := (i2 k (Nat.le_refl _)).trans (w.1 k (by omega))
      have e7 : m_gi g 27 k 7 = m_gi h 40 0 k := (F.1.1 27 k 7 rfl).trans (wt k (by omega))
      have step : ∀ b : Bool, b = wtP h k → ∃ g', m_pZ (some (27, k)) 9 9 (bI b) g (fun h6 => f_X10_letTaggedWorksWait_2 n (69, 0) (nI k + 1) h6) = m_rt g' none ∧ Lp (pX [(27, 9)] []) h g' ∧ ∀ j, j < W → m_gi g' 27 j 9 = bI (wtP h j) := fun b hb => by
        rw [pZ_27 (nz_bI b), nI_1]
        refine c_letWait2 H N w wt n (k + 1) _ (by omega) (by omega) (F.si (s := 27) (k := k) (j := 9) rfl) (fun j hj => ?_) (fun j hj => ?_)
        · rw [gi_upK]
          by_cases e : j = k
          · subst e; rw [if_pos rfl, hb]
          · rw [if_neg e]; exact i1 j (by omega)
        · rw [gi_upK, if_neg (by omega)]; exact i2 j (by omega)
      simp only [gR_69, pc_works H', aR_19 (show k < 20 by omega), (N'.2.2.2.2.2 k (by omega)).1, gI_27, e9, e7, f_X10_letTaggedWorksWait_37, f_X10_letTaggedWorksWait_32]
      by_cases a1 : m_gi h 42 0 k = 0
      · by_cases a2 : m_gi h 40 0 k = 0
        · rw [if_pos a1, if_pos a2]; exact step false (by simp [wtP, a1, a2])
        · rw [if_pos a1, if_neg a2]; exact step true (by simp [wtP, a1, a2])
      · rw [if_neg a1]; exact step true (by simp [wtP, a1])
theorem c_letWait (H : ShC h) (N : RWn W h) (w : RWw W h) (wt : ∀ k, k < W → m_gi h 27 k 7 = m_gi h 40 0 k) : ∃ g', f_X10_letTaggedWorksWait (69, 0) h = m_rt g' none ∧ Lp (pX [(27, 9)] []) h g' ∧ ∀ j, j < W → m_gi g' 27 j 9 = bI (wtP h j) := by
  obtain ⟨g, r, q⟩ := c_letWait2 H N w wt 5000 0 h (by omega) (by have := N.1; omega) (Lp.refl _ _) (fun j hj => absurd hj (by omega)) (fun j _ => rfl)
  rw [nI_0] at r
  refine ⟨g, ?_, q⟩
  rw [f_X10_letTaggedWorksWait]
  exact r
theorem r_letsWait2 (G : ShM h) (e : m_gi h 70 0 4 = nI W) (hW : W ≤ 20) : ∀ (n k : Nat) (g : am_H), k ≤ W → W < k + n → Lp (pX [] [42]) h g → (∀ j, m_gi g 42 0 j = if j < k then bI (wtP h j) else m_gi h 42 0 j) →
    ∃ g', f_X11_letsWait_2 n (70, 0) (nI k) g = m_rt g' none ∧ Lp (pX [] [42]) h g' ∧ ∀ j, m_gi g' 42 0 j = if j < W then bI (wtP h j) else m_gi h 42 0 j
  | 0, k, g, h1, h2, _, _ => by omega
  | n + 1, k, g, h1, h2, F, i1 => by
    have G' : ShM g := G.frm F.1
    have e' : m_gi g 70 0 4 = nI W := (F.1.1 70 0 4 rfl).trans e
    rw [f_X11_letsWait_2]
    simp only [gI_70, e', i_le (show W < 10000 by omega) (show k < 10000 by omega)]
    by_cases hk : W ≤ k
    · rw [if_pos hk]
      exact ⟨g, rfl, F, by rw [show k = W by omega] at i1; exact i1⟩
    · rw [if_neg hk]
      have e9 : m_gi g 42 0 k = m_gi h 42 0 k := by rw [i1, if_neg (by omega)]
      have e7 : m_gi g 40 0 k = m_gi h 40 0 k := F.1.1 40 0 k rfl
      have step : ∀ b : Bool, b = wtP h k → ∃ g', m_sZ (some (42, 0)) (nI k) (bI b) g (fun h7 => f_X11_letsWait_2 n (70, 0) (nI k + 1) h7) = m_rt g' none ∧ Lp (pX [] [42]) h g' ∧ ∀ j, m_gi g' 42 0 j = if j < W then bI (wtP h j) else m_gi h 42 0 j := fun b hb => by
        rw [sZ_42 (nz_bI b) (show k < 20 by omega), nI_1]
        refine r_letsWait2 G e hW n (k + 1) _ (by omega) (by omega) (F.si (s := 42) (k := 0) (j := k) rfl) (fun j => ?_)
        rw [gi_upJ]
        by_cases q : j = k
        · subst q; rw [if_pos rfl, if_pos (by omega), hb]
        · rw [if_neg q, i1]
          have : (j < k + 1) = (j < k) := propext (by omega)
          simp only [this]
      simp only [gR_70, pm_14 G', aI_42 (show k < 20 by omega), pm_12 G', aI_40 (show k < 20 by omega), e9, e7, f_X11_letsWait_38, f_X11_letsWait_33]
      by_cases a1 : m_gi h 42 0 k = 0
      · by_cases a2 : m_gi h 40 0 k = 0
        · rw [if_pos a1, if_pos a2]; exact step false (by simp [wtP, a1, a2])
        · rw [if_pos a1, if_neg a2]; exact step true (by simp [wtP, a1, a2])
      · rw [if_neg a1]; exact step true (by simp [wtP, a1])
theorem r_letsWait (G : ShM h) (e : m_gi h 70 0 4 = nI W) (hW : W ≤ 20) : ∃ g', f_X11_letsWait (70, 0) h = m_rt g' none ∧ Lp (pX [] [42]) h g' ∧ ∀ j, m_gi g' 42 0 j = if j < W then bI (wtP h j) else m_gi h 42 0 j := by
  obtain ⟨g, r, q⟩ := r_letsWait2 G e hW 5000 0 h (by omega) (by omega) (Lp.refl _ _) (fun j => by rw [if_neg (by omega)])
  rw [nI_0] at r
  refine ⟨g, ?_, q⟩
  rw [f_X11_letsWait]
  exact r
end Wait
theorem k_ne21 {Tn t : Nat} {h : am_H} (T : RTg Tn h) (ht : t < Tn) : m_gi h 47 0 t ≠ -2100000000 := by
  rcases T.2.2.2.1 t ht with q | q | q <;> rw [q.1] <;> decide
theorem op_make {W Cn Tn Sn Qn : Nat} {h : am_H} (R : RR W Cn Tn Sn Qn h) (x : Int32) : OpOK h (f_G_make (some (69, 0)) x (some (71, 0)) h) (f_X11_make (70, 0) x) vI := by
  have R0 := R
  obtain ⟨H, G, rDay, rBlk, rSam, N, rWa, rWc, rWp, rWl, rWo, rWt, rWf, rWw, rWs, rWk, rCo, rTg, rPa, rTp, rSg, rCm, rSb, rDg, rIv⟩ := R
  have hT := rTg.1
  have t1 := rTg.2.1
  have t2 := rTg.2.2.1
  rcases ix_cases x (n := Tn) (by omega) with ⟨t, ht, rfl⟩ | hx
  · have h30 : t < 30 := by omega
    by_cases k1 : m_gi h 47 0 t = 1
    · refine ok_ex R0 (c := 2) (b := 0) (by decide) (L_make_x2 _ ?_) ?_
      · simp (decide := true) only [f_X10_make, nz_0, nz_1, rz_bI, rz_0, rz_1, bI_eq0, bI_t, bI_f, bI_ri, bI_ex, bR_ra, bR_ex, bV_rt, bV_ex, bW_rt, bJ_ri, bIx_ri, bIx_ex, bVx_rt, bVx_ex, gi_ne, gi_eq, gi_sr, gi_sl, gi_th, gi_op, gr_si, gr_sl, gr_th, gr_op, gr_ne, gl_si, gl_sr, gl_th, gl_op, gl_eq, gi_al, gr_al, gl_al, nx_si, nx_sr, nx_sl, nx_th, nx_op, nx_al, nx_als, nc_si, nc_sr, nc_sl, nc_th, nc_op, nc_al, ns_si, ns_sr, ns_sl, ns_th, ns_op, ns_al, gi_neI, aR_2, sR_2, aI_3, sI_3, aI_4, sI_4, aI_5, sI_5, aI_6, sI_6, aI_7, sI_7, aI_8, sI_8, aI_9, sI_9, aI_10, sZ_10, aI_11, sI_11, aI_12, sI_12, aI_13, sI_13, aI_14, sC_14, gI_15, gR_15, pI_15, pR_15, pZ_15, ao_15, pC_15, aI_16, sI_16, aI_17, sI_17, aR_18, sR_18, aR_19, sR_19, aR_20, sR_20, gI_21, gR_21, pI_21, pR_21, pZ_21, ao_21, gI_22, gR_22, pI_22, pR_22, pZ_22, ao_22, gI_23, gR_23, pI_23, pR_23, pZ_23, ao_23, gI_24, gR_24, pI_24, pR_24, pZ_24, ao_24, aR_25, sR_25, gI_26, gR_26, pI_26, pR_26, pZ_26, ao_26, gI_27, gR_27, pI_27, pR_27, pZ_27, ao_27, gI_28, gR_28, pI_28, pR_28, pZ_28, ao_28, gI_29, gR_29, pI_29, pR_29, pZ_29, ao_29, gI_30, gR_30, pI_30, pR_30, pZ_30, ao_30, gI_69, gR_69, pI_69, pR_69, pZ_69, ao_69, pc_same H, pc_people H, pc_works H, pc_cols H, pc_tags H, pc_tape H, pc_sieve H, pc_gifts H, pc_coms H, pc_mean H, pc_par H, pc_abv H, pc_chars H, pc_scan H, pc_parts H, pc_items H, pc_nots H, pc_signs H, pc_recv H, pc_ways H, if_true, if_false, c_checkTag H t1 hT ht, c_kindOf H rTg ht, k1]
      · simp (decide := true) only [f_X11_make_30, f_X11_make, nz_0, nz_1, rz_bI, rz_0, rz_1, bI_eq0, bI_t, bI_f, bI_ri, bI_ex, bR_ra, bR_ex, bV_rt, bV_ex, bW_rt, bJ_ri, bIx_ri, bIx_ex, bVx_rt, bVx_ex, gi_ne, gi_eq, gi_sr, gi_sl, gi_th, gi_op, gr_si, gr_sl, gr_th, gr_op, gr_ne, gl_si, gl_sr, gl_th, gl_op, gl_eq, gi_al, gr_al, gl_al, nx_si, nx_sr, nx_sl, nx_th, nx_op, nx_al, nx_als, nc_si, nc_sr, nc_sl, nc_th, nc_op, nc_al, ns_si, ns_sr, ns_sl, ns_th, ns_op, ns_al, gi_neI, aI_31, sZ_31, aI_32, sI_32, aI_33, sI_33, aI_34, sI_34, aI_35, sI_35, aI_36, sI_36, aI_37, sI_37, aI_38, sZ_38, aI_39, sI_39, aI_40, sI_40, aI_41, sI_41, aI_42, sZ_42, aI_43, sZ_43, aI_44, sI_44, aI_45, sI_45, aI_46, sI_46, aI_47, sI_47, aI_48, sI_48, aI_49, sI_49, aI_50, sI_50, aI_51, sZ_51, aI_52, sZ_52, aI_53, sZ_53, aI_54, sI_54, aI_55, sI_55, aI_56, sI_56, aI_57, sI_57, aI_58, sZ_58, aI_59, sI_59, aI_60, sI_60, aI_61, sI_61, aI_62, sI_62, aI_63, sZ_63, aI_64, sZ_64, aI_65, sZ_65, aI_66, sI_66, aI_67, sI_67, aI_68, sZ_68, gI_70, gR_70, pI_70, pR_70, pZ_70, ao_70, aL_71, sL_71, pm_2 G, pm_3 G, pm_5 G, pm_6 G, pm_7 G, pm_8 G, pm_9 G, pm_10 G, pm_11 G, pm_12 G, pm_13 G, pm_14 G, pm_15 G, pm_16 G, pm_18 G, pm_19 G, pm_21 G, pm_22 G, pm_23 G, pm_25 G, pm_26 G, pm_27 G, pm_28 G, pm_31 G, pm_32 G, pm_33 G, pm_34 G, pm_35 G, pm_36 G, pm_38 G, pm_39 G, pm_40 G, pm_41 G, pm_42 G, pm_43 G, pm_44 G, pm_45 G, pm_46 G, r_isWork, r_isTag, r_isPerson, r_isFace, r_h0, r_h1, r_h2, r_h3, n10, n20, n30, n00, if_true, if_false, not_true_eq_false, not_false_eq_true, false_and, and_false, decide_false, decide_true, t2, isIx_ok (show Tn < 10000 by omega) ht, h30, k1]
    · skip
      have Fa : Frm (pX [] [11]) h (m_si h 11 0 t (nI t)) := ((Frm.refl _ h).si rfl)
      obtain ⟨h1, r1, F1, w1⟩ := c_letWait (h := (m_si h 11 0 t (nI t))) (H.frm Fa) (N.frm Fa) (rWw.frm Fa) rWt.1
      have F1' : Frm (pX [(27, 9)] [11]) h h1 := Fa.up.trans F1.1.up
      have Fb : Frm (pX [(27, 9)] [11, 47, 49]) h (m_si (m_si (m_si (m_sl h1 71 0 0 (vI (m_gi h 47 0 t))) 70 0 0 0) 47 0 t 1) 49 0 t 0) := (((F1'.up.sl (v := vI (m_gi h 47 0 t))).si (s := 70) (j := 0) rfl).si (s := 47) (j := t) rfl).si (s := 49) (j := t) rfl
      have Fs : Frm (pX [(27, 9)] [11]) h (m_sl h1 71 0 0 (vI (m_gi h 47 0 t))) := F1'.sl
      obtain ⟨h2, r2, F2, w2⟩ := r_letsWait (h := (m_si (m_si (m_si (m_sl h1 71 0 0 (vI (m_gi h 47 0 t))) 70 0 0 0) 47 0 t 1) 49 0 t 0)) (W := W) (G.frm Fb) ((Fb.1 70 0 4 rfl).trans N.2.2.1) N.1
      have F : Frm (pX [(27, 9)] [11, 47, 49, 42]) h h2 := Fb.up.trans F2.1.up
      refine ok_u (hv := fun _ => k_ne21 rTg ht) (h1 := h1) (b := (m_gi h 47 0 t)) (h2 := h2) (L_make_ret _ ?_) ?_ (F2.2.2.2.2.trans ?_) ((congrFun (congrFun (congrFun F2.2.1 71) 0) 0).trans gl_eq) F1'.g1 F.g1 ?_ ?_ ?_
      · simp (decide := true) only [f_X10_make, f_X7_makeMain, nz_0, nz_1, rz_bI, rz_0, rz_1, bI_eq0, bI_t, bI_f, bI_ri, bI_ex, bR_ra, bR_ex, bV_rt, bV_ex, bW_rt, bJ_ri, bIx_ri, bIx_ex, bVx_rt, bVx_ex, gi_ne, gi_eq, gi_sr, gi_sl, gi_th, gi_op, gr_si, gr_sl, gr_th, gr_op, gr_ne, gl_si, gl_sr, gl_th, gl_op, gl_eq, gi_al, gr_al, gl_al, nx_si, nx_sr, nx_sl, nx_th, nx_op, nx_al, nx_als, nc_si, nc_sr, nc_sl, nc_th, nc_op, nc_al, ns_si, ns_sr, ns_sl, ns_th, ns_op, ns_al, gi_neI, aR_2, sR_2, aI_3, sI_3, aI_4, sI_4, aI_5, sI_5, aI_6, sI_6, aI_7, sI_7, aI_8, sI_8, aI_9, sI_9, aI_10, sZ_10, aI_11, sI_11, aI_12, sI_12, aI_13, sI_13, aI_14, sC_14, gI_15, gR_15, pI_15, pR_15, pZ_15, ao_15, pC_15, aI_16, sI_16, aI_17, sI_17, aR_18, sR_18, aR_19, sR_19, aR_20, sR_20, gI_21, gR_21, pI_21, pR_21, pZ_21, ao_21, gI_22, gR_22, pI_22, pR_22, pZ_22, ao_22, gI_23, gR_23, pI_23, pR_23, pZ_23, ao_23, gI_24, gR_24, pI_24, pR_24, pZ_24, ao_24, aR_25, sR_25, gI_26, gR_26, pI_26, pR_26, pZ_26, ao_26, gI_27, gR_27, pI_27, pR_27, pZ_27, ao_27, gI_28, gR_28, pI_28, pR_28, pZ_28, ao_28, gI_29, gR_29, pI_29, pR_29, pZ_29, ao_29, gI_30, gR_30, pI_30, pR_30, pZ_30, ao_30, gI_69, gR_69, pI_69, pR_69, pZ_69, ao_69, pc_same H, pc_people H, pc_works H, pc_cols H, pc_tags H, pc_tape H, pc_sieve H, pc_gifts H, pc_coms H, pc_mean H, pc_par H, pc_abv H, pc_chars H, pc_scan H, pc_parts H, pc_items H, pc_nots H, pc_signs H, pc_recv H, pc_ways H, if_true, if_false, c_checkTag H t1 hT ht, c_kindOf H rTg ht, k1, h30, r1]
      · have q1 := (Fs.1 70 0 20 rfl).trans t2
        have q2 := Fs.1 47 0 t rfl
        have G' : ShM (m_sl h1 71 0 0 (vI (m_gi h 47 0 t))) := G.frm Fs
        simp (decide := true) only [f_X11_make_30, f_X11_make, ao_70, r_isTag, q1, isIx_ok (show Tn < 10000 by omega) ht, bI_ri, bI_t, n10, if_false, gR_70, pm_21 G', pm_23 G', aI_47 h30, sI_47 h30, sI_49 h30, q2, k1, r_h0, gr_si, gi_ne, r2, bV_rt]
      · rfl
      · rw [F2.2.2.1]; show m_nc h1 ≤ _; rw [F1.2.2.1]; exact Nat.le_add_right _ _
      · rw [F2.2.2.2.1]; show m_ns h1 ≤ _; rw [F1.2.2.2.1]; exact Nat.le_add_right _ _
      · have z49 : m_gi h 49 0 t = 0 := by
          apply b_ext; intro i hi
          rw [b_0]
          cases hb : bt (m_gi h 49 0 t) i
          · rfl
          · exact absurd (rPa.2.1 t i h30 hb).2.2.1 k1
        have e11 : ∀ j, m_gi h2 11 0 j = if j = t then nI t else m_gi h 11 0 j := fun j => by
          rw [F2.1.1 11 0 j rfl]
          show m_gi h1 11 0 j = _
          rw [F1.1.1 11 0 j rfl]
          exact gi_upJ
        have e47 : ∀ j, m_gi h2 47 0 j = if j = t then 1 else m_gi h 47 0 j := fun j => by
          rw [F2.1.1 47 0 j rfl]
          show m_gi (m_si h1 47 0 t 1) 47 0 j = _
          rw [gi_upJ, F1'.1 47 0 j rfl]
        have e49 : ∀ j, m_gi h2 49 0 j = m_gi h 49 0 j := fun j => by
          rw [F2.1.1 49 0 j rfl, gi_upJ]
          by_cases e : j = t
          · subst e; rw [if_pos rfl, z49]
          · rw [if_neg e]
            show m_gi h1 49 0 j = _
            exact F1'.1 49 0 j rfl
        have e48 : ∀ j, m_gi h2 48 0 j = m_gi h 48 0 j := fun j => F.1 48 0 j rfl
        have e12 : ∀ j, m_gi h2 12 0 j = m_gi h 12 0 j := fun j => F.1 12 0 j rfl
        have e13 : ∀ j, m_gi h2 13 0 j = m_gi h 13 0 j := fun j => F.1 13 0 j rfl
        have e9 : ∀ j, j < W → m_gi h2 27 j 9 = bI (wtP h j) := fun j hj => by
          rw [F2.1.1 27 j 9 rfl]
          exact w1 j hj
        have e42 : ∀ j, m_gi h2 42 0 j = if j < W then bI (wtP h j) else m_gi h 42 0 j := fun j => by
          rw [w2]
          have q1 : wtP (m_si (m_si (m_si (m_sl h1 71 0 0 (vI (m_gi h 47 0 t))) 70 0 0 0) 47 0 t 1) 49 0 t 0) j = wtP h j := by
            unfold wtP
            rw [Fb.1 42 0 j rfl, Fb.1 40 0 j rfl]
          rw [q1, Fb.1 42 0 j rfl]
        refine ⟨W, Cn, Tn, Sn, Qn, ⟨H.frm F, G.frm F, rDay.frm F, rBlk.frm F, rSam.frm F, N.frm F, rWa.frm F, rWc.frm F, rWp.frm F, rWl.frm F, rWo.frm F, rWt.frm F, rWf.frm F, ?_, rWs.frm F, rWk.frm F, rCo.frm F, ?_, ?_, rTp.frm F, rSg.frm F, rCm.frm F, rSb.frm F, rDg.frm F, rIv.wait (fun k => F.1 40 0 k rfl) (fun k => F.1 41 0 k rfl) (fun k hk hw => by rw [e42, if_pos hk] at hw; exact wtP_0 hw) (fun u hu => by rw [e13]; exact rIv.1 u hu)⟩⟩
        · refine ⟨fun j hj => by rw [e9 j hj, e42, if_pos hj], fun j hj => ?_, fun j a b => by rw [e42, if_neg (by omega)]; exact rWw.2.2 j a b⟩
          rw [e42]
          split
          · exact nz_bI _
          · exact rWw.2.1 j hj
        · refine ⟨hT, (F.1 21 0 0 rfl).trans t1, (F.1 70 0 20 rfl).trans t2, fun u hu => ?_, fun u a b => ?_⟩
          · rw [e11, e47, e48]
            by_cases e : u = t
            · subst e
              rw [if_pos rfl, if_pos rfl]
              exact Or.inr (Or.inl ⟨rfl, rfl⟩)
            · rw [if_neg e, if_neg e]
              rcases rTg.2.2.2.1 u hu with q | q | ⟨q1, m, q2, q3, q4, q5, q6⟩
              · exact Or.inl q
              · exact Or.inr (Or.inl q)
              · refine Or.inr (Or.inr ⟨q1, m, q2, q3, q4, q5, ?_⟩)
                rw [e47]
                split
                · rfl
                · exact q6
          · rw [e47, if_neg (by omega)]; exact rTg.2.2.2.2 u a b
        · refine ⟨fun u hu => by rw [e12, e49]; exact rPa.1 u hu, fun u v hu hb => ?_, fun u v hu hv => ?_⟩
          · rw [e49] at hb
            obtain ⟨q1, q2, q3, q4⟩ := rPa.2.1 u v hu hb
            refine ⟨q1, q2, ?_, ?_⟩
            · rw [e47]; split
              · rfl
              · exact q3
            · rw [e47]; split
              · rfl
              · exact q4
          · simp only [e13, e49]; exact rPa.2.2 u v hu hv
  · refine ok_ex R0 (c := 1) (b := 0) (by decide) (L_make_x0 _ ?_) ?_
    · simp (decide := true) only [f_X10_make, nz_0, nz_1, rz_bI, rz_0, rz_1, bI_eq0, bI_t, bI_f, bI_ri, bI_ex, bR_ra, bR_ex, bV_rt, bV_ex, bW_rt, bJ_ri, bIx_ri, bIx_ex, bVx_rt, bVx_ex, gi_ne, gi_eq, gi_sr, gi_sl, gi_th, gi_op, gr_si, gr_sl, gr_th, gr_op, gr_ne, gl_si, gl_sr, gl_th, gl_op, gl_eq, gi_al, gr_al, gl_al, nx_si, nx_sr, nx_sl, nx_th, nx_op, nx_al, nx_als, nc_si, nc_sr, nc_sl, nc_th, nc_op, nc_al, ns_si, ns_sr, ns_sl, ns_th, ns_op, ns_al, gi_neI, aR_2, sR_2, aI_3, sI_3, aI_4, sI_4, aI_5, sI_5, aI_6, sI_6, aI_7, sI_7, aI_8, sI_8, aI_9, sI_9, aI_10, sZ_10, aI_11, sI_11, aI_12, sI_12, aI_13, sI_13, aI_14, sC_14, gI_15, gR_15, pI_15, pR_15, pZ_15, ao_15, pC_15, aI_16, sI_16, aI_17, sI_17, aR_18, sR_18, aR_19, sR_19, aR_20, sR_20, gI_21, gR_21, pI_21, pR_21, pZ_21, ao_21, gI_22, gR_22, pI_22, pR_22, pZ_22, ao_22, gI_23, gR_23, pI_23, pR_23, pZ_23, ao_23, gI_24, gR_24, pI_24, pR_24, pZ_24, ao_24, aR_25, sR_25, gI_26, gR_26, pI_26, pR_26, pZ_26, ao_26, gI_27, gR_27, pI_27, pR_27, pZ_27, ao_27, gI_28, gR_28, pI_28, pR_28, pZ_28, ao_28, gI_29, gR_29, pI_29, pR_29, pZ_29, ao_29, gI_30, gR_30, pI_30, pR_30, pZ_30, ao_30, gI_69, gR_69, pI_69, pR_69, pZ_69, ao_69, pc_same H, pc_people H, pc_works H, pc_cols H, pc_tags H, pc_tape H, pc_sieve H, pc_gifts H, pc_coms H, pc_mean H, pc_par H, pc_abv H, pc_chars H, pc_scan H, pc_parts H, pc_items H, pc_nots H, pc_signs H, pc_recv H, pc_ways H, if_true, if_false, c_checkTag_bad H t1 hx]
    · simp (decide := true) only [f_X11_make_30, f_X11_make, nz_0, nz_1, rz_bI, rz_0, rz_1, bI_eq0, bI_t, bI_f, bI_ri, bI_ex, bR_ra, bR_ex, bV_rt, bV_ex, bW_rt, bJ_ri, bIx_ri, bIx_ex, bVx_rt, bVx_ex, gi_ne, gi_eq, gi_sr, gi_sl, gi_th, gi_op, gr_si, gr_sl, gr_th, gr_op, gr_ne, gl_si, gl_sr, gl_th, gl_op, gl_eq, gi_al, gr_al, gl_al, nx_si, nx_sr, nx_sl, nx_th, nx_op, nx_al, nx_als, nc_si, nc_sr, nc_sl, nc_th, nc_op, nc_al, ns_si, ns_sr, ns_sl, ns_th, ns_op, ns_al, gi_neI, aI_31, sZ_31, aI_32, sI_32, aI_33, sI_33, aI_34, sI_34, aI_35, sI_35, aI_36, sI_36, aI_37, sI_37, aI_38, sZ_38, aI_39, sI_39, aI_40, sI_40, aI_41, sI_41, aI_42, sZ_42, aI_43, sZ_43, aI_44, sI_44, aI_45, sI_45, aI_46, sI_46, aI_47, sI_47, aI_48, sI_48, aI_49, sI_49, aI_50, sI_50, aI_51, sZ_51, aI_52, sZ_52, aI_53, sZ_53, aI_54, sI_54, aI_55, sI_55, aI_56, sI_56, aI_57, sI_57, aI_58, sZ_58, aI_59, sI_59, aI_60, sI_60, aI_61, sI_61, aI_62, sI_62, aI_63, sZ_63, aI_64, sZ_64, aI_65, sZ_65, aI_66, sI_66, aI_67, sI_67, aI_68, sZ_68, gI_70, gR_70, pI_70, pR_70, pZ_70, ao_70, aL_71, sL_71, pm_2 G, pm_3 G, pm_5 G, pm_6 G, pm_7 G, pm_8 G, pm_9 G, pm_10 G, pm_11 G, pm_12 G, pm_13 G, pm_14 G, pm_15 G, pm_16 G, pm_18 G, pm_19 G, pm_21 G, pm_22 G, pm_23 G, pm_25 G, pm_26 G, pm_27 G, pm_28 G, pm_31 G, pm_32 G, pm_33 G, pm_34 G, pm_35 G, pm_36 G, pm_38 G, pm_39 G, pm_40 G, pm_41 G, pm_42 G, pm_43 G, pm_44 G, pm_45 G, pm_46 G, r_isWork, r_isTag, r_isPerson, r_isFace, r_h0, r_h1, r_h2, r_h3, n10, n20, n30, n00, if_true, if_false, not_true_eq_false, not_false_eq_true, false_and, and_false, decide_false, decide_true, t2, isIx_bad (show Tn < 10000 by omega) hx]
