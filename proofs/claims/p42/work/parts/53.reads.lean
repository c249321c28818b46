/-! ## comments -/
def readP (h : am_H) (f q : Nat) (w : Nat) : Bool := decide (m_gi h 65 0 q = 0) && seenP h f w && (decide (m_gi h 64 0 q = 0) || decide (m_gi h 61 0 q = nI f) || ownP h f w)
section Com
variable {W Cn Qn : Nat} {h : am_H} {f q w : Nat}
theorem c_isReadBy (e69 : m_gi h 69 0 0 = m_gi h 70 0 1) (a : RWa W h) (p : RWp W h) (l : RWl W h) (o : RWo W Cn h) (C : RCo Cn h) (Q : RCm Qn W h) (hq : q < Qn) (hw : w < W) (hf : f < 32) : f_X10_isReadBy (69, 0) (nI f) (some (30, q)) (some (27, w)) h = m_ri h (bI (readP h f q w)) := by
  obtain ⟨q1, q2, ⟨w0, q3, q4⟩, q5, ⟨f0, q6, q7⟩, q8, q9, q10, q11⟩ := Q.2.2.2.2.1 q hq
  simp only [f_X10_isReadBy_49, f_X10_isReadBy_44, f_X10_isReadBy_19, f_X10_isReadBy, gI_30, gI_69, e69, ao_27, c_isSeenBy a p l o C hw hf, c_isOwnedBy a hw hf, bI_ri, rz_0, rz_1, bI_eq0, q10, q11, q5, readP]
  by_cases e1 : m_gi h 65 0 q = 0 <;> by_cases e2 : m_gi h 64 0 q = 0 <;> by_cases e3 : m_gi h 61 0 q = nI f <;> cases seenP h f w <;> cases ownP h f w <;> simp [e1, e2, e3] <;> rfl
theorem r_isRead (G : ShM h) (a : RWa W h) (o : RWo W Cn h) (C : RCo Cn h) (hQ : q < 60) (hw : w < W) (h20 : w < 20) (hf : f < 32) (e60 : m_gi h 60 0 q = nI w) : f_X11_isRead (70, 0) (nI q) (nI f) h = m_ri h (bI (readP h f q w)) := by
  simp only [f_X11_isRead_70, f_X11_isRead_69, f_X11_isRead_40, f_X11_isRead_35, f_X11_isRead, ao_70, gR_70, pm_38 G, aI_60 hQ, e60, pm_42 G, aI_64 hQ, pm_39 G, aI_61 hQ, pm_43 G, aI_65 hQ, r_isSeen G a o C hw h20 hf, r_isOwner G a hw h20 hf, bI_ri, rz_0, rz_1, bI_eq0, readP]
  by_cases e1 : m_gi h 65 0 q = 0 <;> by_cases e2 : m_gi h 64 0 q = 0 <;> by_cases e3 : m_gi h 61 0 q = nI f <;> cases seenP h f w <;> cases ownP h f w <;> simp [e1, e2, e3] <;> rfl
theorem c_commentAt (H : ShC h) (Q : RCm Qn W h) (hq : q < Qn) : f_X10_commentAt (69, 0) (nI q) h = m_ra h (some (30, q)) := by
  have hQ := Q.1
  have e1 : ¬ nI q < 0 := nI_pos (by omega)
  have e2 : nI q < nI Qn := nI_lt hq (by omega)
  simp only [f_X10_commentAt_12, f_X10_commentAt, gI_69, Q.2.1, if_neg e1, if_pos e2, gR_69, pc_coms H, aR_25 (show q < 60 by omega), (Q.2.2.2.2.1 q hq).1]
theorem c_commentAt_bad (Q : RCm Qn W h) {x : Int32} (hx : x < 0 ∨ nI Qn ≤ x) : f_X10_commentAt (69, 0) x h = m_ex h 0 := by
  simp only [f_X10_commentAt_12, f_X10_commentAt, gI_69, Q.2.1]
  rcases hx with hx | hx
  · rw [if_pos hx]
  · rw [if_neg (i_nlt hx), ite_self]
/-- how many a face reads -/
def rdN (h : am_H) (f w : Nat) : Nat → Nat := cnt (fun j => decide (m_gi h 60 0 j = nI w) && readP h f j w)
theorem c_reads16 (e69 : m_gi h 69 0 0 = m_gi h 70 0 1) (H : ShC h) (a : RWa W h) (p : RWp W h) (l : RWl W h) (o : RWo W Cn h) (C : RCo Cn h) (Q : RCm Qn W h) (hw : w < W) (hf : f < 32) : ∀ (n k : Nat), k ≤ Qn → Qn < k + n →
    f_X10_reads_16 n (69, 0) (nI w) (nI f) (some (27, w)) (nI (rdN h f w k)) (nI k) h = m_ri h (nI (rdN h f w Qn))
  | 0, k, h1, h2 => by omega
  | n + 1, k, h1, h2 => by
    have hQ := Q.1
    rw [f_X10_reads_16]
    simp only [gI_69, Q.2.1, i_le (show Qn < 10000 by omega) (show k < 10000 by omega)]
    by_cases hk : Qn ≤ k
    · rw [if_pos hk, show k = Qn by omega]
    · rw [if_neg hk]
      have ih := c_reads16 e69 H a p l o C Q hw hf n (k + 1) (by omega) (by omega)
      have hkQ : k < Qn := by omega
      unfold rdN at ih ⊢
      rw [cnt] at ih
      obtain ⟨q1, q2, q3⟩ := Q.2.2.2.2.1 k hkQ
      simp only [gR_69, pc_coms H, aR_25 (show k < 60 by omega), q1, gI_30, q2, ao_69, c_isReadBy e69 a p l o C Q hkQ hw hf, bI_ri, f_X10_reads_57, nI_1, bI_eq0]
      by_cases e : m_gi h 60 0 k = nI w
      · simp only [e, if_true, decide_true, Bool.true_and] at ih ⊢
        cases hr : readP h f k w
        · rw [hr] at ih; simpa using ih
        · rw [hr] at ih; simpa using ih
      · simp only [e, if_false, decide_false, Bool.false_and] at ih ⊢
        simpa using ih
theorem r_reads34 (G : ShM h) (a : RWa W h) (o : RWo W Cn h) (C : RCo Cn h) (e37 : m_gi h 70 0 37 = nI Qn) (hQ : Qn ≤ 60) (hw : w < W) (h20 : w < 20) (hf : f < 32) : ∀ (n k : Nat), k ≤ Qn → Qn < k + n →
    f_X11_reads_34 n (70, 0) (nI w) (nI f) (nI (rdN h f w k)) (nI k) h = m_ri h (nI (rdN h f w Qn))
  | 0, k, h1, h2 => by omega
  | n + 1, k, h1, h2 => by
    rw [f_X11_reads_34]
    simp only [gI_70, e37, i_le (show Qn < 10000 by omega) (show k < 10000 by omega)]
    by_cases hk : Qn ≤ k
    · rw [if_pos hk, show k = Qn by omega]
    · rw [if_neg hk]
      have ih := r_reads34 G a o C e37 hQ hw h20 hf n (k + 1) (by omega) (by omega)
      unfold rdN at ih ⊢
      rw [cnt] at ih
      simp only [gR_70, pm_38 G, aI_60 (show k < 60 by omega), ao_70, f_X11_reads_69, f_X11_reads_70, nI_1]
      by_cases e : m_gi h 60 0 k = nI w
      · rw [if_pos e]
        simp only [e, decide_true, Bool.true_and, r_isRead G a o C (show k < 60 by omega) hw h20 hf e, bI_ri, bI_eq0] at ih ⊢
        cases hr : readP h f k w
        · rw [hr] at ih; simpa using ih
        · rw [hr] at ih; simpa [nI_1] using ih
      · rw [if_neg e]
        simp only [e, decide_false, Bool.false_and] at ih
        simpa using ih
theorem c_reads (e69 : m_gi h 69 0 0 = m_gi h 70 0 1) (H : ShC h) (a : RWa W h) (p : RWp W h) (l : RWl W h) (o : RWo W Cn h) (C : RCo Cn h) (Q : RCm Qn W h) (hw : w < W) (hf : f < 32) : f_X10_reads_16 5000 (69, 0) (nI w) (nI f) (some (27, w)) 0 0 h = m_ri h (nI (rdN h f w Qn)) := by
  have := c_reads16 e69 H a p l o C Q hw hf 5000 0 (by omega) (by have := Q.1; omega)
  unfold rdN at this ⊢
  rw [cnt, nI_0] at this
  exact this
theorem r_reads (G : ShM h) (a : RWa W h) (o : RWo W Cn h) (C : RCo Cn h) (e37 : m_gi h 70 0 37 = nI Qn) (hQ : Qn ≤ 60) (hw : w < W) (h20 : w < 20) (hf : f < 32) : f_X11_reads_34 5000 (70, 0) (nI w) (nI f) 0 0 h = m_ri h (nI (rdN h f w Qn)) := by
  have := r_reads34 G a o C e37 hQ hw h20 hf 5000 0 (by omega) (by omega)
  unfold rdN at this ⊢
  rw [cnt, nI_0] at this
  exact this
end Com
theorem op_reads {W Cn Tn Sn Qn : Nat} {h : am_H} (R : RR W Cn Tn Sn Qn h) (x y : Int32) : OpOK h (f_G_reads (some (69, 0)) x y (some (71, 0)) h) (f_X11_reads (70, 0) x y) vI := by
  have R0 := R
  obtain ⟨H, G, rDay, rBlk, rSam, N, rWa, rWc, rWp, rWl, rWo, rWt, rWf, rWw, rWs, rWk, rCo, rTg, rPa, rTp, rSg, rCm, rSb, rDg, rIv⟩ := R
  have hW := N.1
  obtain ⟨D, hD, d1, d2⟩ := id rDay
  rcases ix_cases x (n := W) (by omega) with ⟨w, hw, rfl⟩ | hx
  · rcases ix_cases y (n := 32) (by omega) with ⟨f, hf, rfl⟩ | hy
    · have h20 : w < 20 := by omega
      refine ok_q R0 (b := nI (rdN h f w Qn)) (L_reads_ret _ _ ?_) ?_
      · simp only [f_X10_reads, ao_69, c_workAt H N hw, bR_ra, c_checkFace hf, bV_rt, c_reads (d1.trans d2.symm) H rWa rWp rWl rWo rCo rCm hw hf]
      · skip
        have R2 : RR W Cn Tn Sn Qn (m_si (m_sl h 71 0 0 (vI (nI (rdN h f w Qn)))) 70 0 0 0) := rr_eqv ((Frm.refl _ h).sl.si rfl) R0
        have e := r_reads R2.G R2.rWa R2.rWo R2.rCo R2.rCm.2.2.1 rCm.1 hw h20 hf
        have es : rdN (m_si (m_sl h 71 0 0 (vI (nI (rdN h f w Qn)))) 70 0 0 0) f w Qn = rdN h f w Qn := rfl
        rw [es] at e
        simp (decide := true) only [f_X11_reads_70, f_X11_reads_69, f_X11_reads_21, f_X11_reads_20, f_X11_reads, nz_0, nz_1, rz_bI, rz_0, rz_1, bI_eq0, bI_t, bI_f, bI_ri, bI_ex, bR_ra, bR_ex, bV_rt, bV_ex, bW_rt, bJ_ri, bIx_ri, bIx_ex, bVx_rt, bVx_ex, gi_ne, gi_eq, gi_sr, gi_sl, gi_th, gi_op, gr_si, gr_sl, gr_th, gr_op, gr_ne, gl_si, gl_sr, gl_th, gl_op, gl_eq, gi_al, gr_al, gl_al, nx_si, nx_sr, nx_sl, nx_th, nx_op, nx_al, nx_als, nc_si, nc_sr, nc_sl, nc_th, nc_op, nc_al, ns_si, ns_sr, ns_sl, ns_th, ns_op, ns_al, gi_neI, aI_31, sZ_31, aI_32, sI_32, aI_33, sI_33, aI_34, sI_34, aI_35, sI_35, aI_36, sI_36, aI_37, sI_37, aI_38, sZ_38, aI_39, sI_39, aI_40, sI_40, aI_41, sI_41, aI_42, sZ_42, aI_43, sZ_43, aI_44, sI_44, aI_45, sI_45, aI_46, sI_46, aI_47, sI_47, aI_48, sI_48, aI_49, sI_49, aI_50, sI_50, aI_51, sZ_51, aI_52, sZ_52, aI_53, sZ_53, aI_54, sI_54, aI_55, sI_55, aI_56, sI_56, aI_57, sI_57, aI_58, sZ_58, aI_59, sI_59, aI_60, sI_60, aI_61, sI_61, aI_62, sI_62, aI_63, sZ_63, aI_64, sZ_64, aI_65, sZ_65, aI_66, sI_66, aI_67, sI_67, aI_68, sZ_68, gI_70, gR_70, pI_70, pR_70, pZ_70, ao_70, aL_71, sL_71, pm_2 G, pm_3 G, pm_5 G, pm_6 G, pm_7 G, pm_8 G, pm_9 G, pm_10 G, pm_11 G, pm_12 G, pm_13 G, pm_14 G, pm_15 G, pm_16 G, pm_18 G, pm_19 G, pm_21 G, pm_22 G, pm_23 G, pm_25 G, pm_26 G, pm_27 G, pm_28 G, pm_31 G, pm_32 G, pm_33 G, pm_34 G, pm_35 G, pm_36 G, pm_38 G, pm_39 G, pm_40 G, pm_41 G, pm_42 G, pm_43 G, pm_44 G, pm_45 G, pm_46 G, r_isWork, r_isTag, r_isPerson, r_isFace, r_h0, r_h1, r_h2, r_h3, n10, n20, n30, n00, if_true, if_false, not_true_eq_false, not_false_eq_true, false_and, and_false, decide_false, decide_true, N.2.2.1, isIx_ok (show 32 < 10000 by omega) hf, isIx_ok (show W < 10000 by omega) hw, e]
    · refine ok_ex R0 (c := 1) (b := 0) (by decide) (L_reads_x0 _ _ ?_) ?_
      · simp only [f_X10_reads, ao_69, c_workAt H N hw, bR_ra, c_checkFace_bad hy, bV_ex]
      · simp (decide := true) only [f_X11_reads_70, f_X11_reads_69, f_X11_reads_21, f_X11_reads_20, f_X11_reads, nz_0, nz_1, rz_bI, rz_0, rz_1, bI_eq0, bI_t, bI_f, bI_ri, bI_ex, bR_ra, bR_ex, bV_rt, bV_ex, bW_rt, bJ_ri, bIx_ri, bIx_ex, bVx_rt, bVx_ex, gi_ne, gi_eq, gi_sr, gi_sl, gi_th, gi_op, gr_si, gr_sl, gr_th, gr_op, gr_ne, gl_si, gl_sr, gl_th, gl_op, gl_eq, gi_al, gr_al, gl_al, nx_si, nx_sr, nx_sl, nx_th, nx_op, nx_al, nx_als, nc_si, nc_sr, nc_sl, nc_th, nc_op, nc_al, ns_si, ns_sr, ns_sl, ns_th, ns_op, ns_al, gi_neI, aI_31, sZ_31, aI_32, sI_32, aI_33, sI_33, aI_34, sI_34, aI_35, sI_35, aI_36, sI_36, aI_37, sI_37, aI_38, sZ_38, aI_39, sI_39, aI_40, sI_40, aI_41, sI_41, aI_42, sZ_42, aI_43, sZ_43, aI_44, sI_44, aI_45, sI_45, aI_46, sI_46, aI_47, sI_47, aI_48, sI_48, aI_49, sI_49, aI_50, sI_50, aI_51, sZ_51, aI_52, sZ_52, aI_53, sZ_53, aI_54, sI_54, aI_55, sI_55, aI_56, sI_56, aI_57, sI_57, aI_58, sZ_58, aI_59, sI_59, aI_60, sI_60, aI_61, sI_61, aI_62, sI_62, aI_63, sZ_63, aI_64, sZ_64, aI_65, sZ_65, aI_66, sI_66, aI_67, sI_67, aI_68, sZ_68, gI_70, gR_70, pI_70, pR_70, pZ_70, ao_70, aL_71, sL_71, pm_2 G, pm_3 G, pm_5 G, pm_6 G, pm_7 G, pm_8 G, pm_9 G, pm_10 G, pm_11 G, pm_12 G, pm_13 G, pm_14 G, pm_15 G, pm_16 G, pm_18 G, pm_19 G, pm_21 G, pm_22 G, pm_23 G, pm_25 G, pm_26 G, pm_27 G, pm_28 G, pm_31 G, pm_32 G, pm_33 G, pm_34 G, pm_35 G, pm_36 G, pm_38 G, pm_39 G, pm_40 G, pm_41 G, pm_42 G, pm_43 G, pm_44 G, pm_45 G, pm_46 G, r_isWork, r_isTag, r_isPerson, r_isFace, r_h0, r_h1, r_h2, r_h3, n10, n20, n30, n00, if_true, if_false, not_true_eq_false, not_false_eq_true, false_and, and_false, decide_false, decide_true, N.2.2.1, isIx_bad (show 32 < 10000 by omega) hy, isIx_ok (show W < 10000 by omega) hw]
  · refine ok_ex R0 (c := 1) (b := 0) (by decide) (L_reads_x0 _ _ ?_) ?_
    · simp only [f_X10_reads, ao_69, c_workAt_bad N hx, bR_ex]
    · simp (decide := true) only [f_X11_reads_70, f_X11_reads_69, f_X11_reads_21, f_X11_reads_20, f_X11_reads, nz_0, nz_1, rz_bI, rz_0, rz_1, bI_eq0, bI_t, bI_f, bI_ri, bI_ex, bR_ra, bR_ex, bV_rt, bV_ex, bW_rt, bJ_ri, bIx_ri, bIx_ex, bVx_rt, bVx_ex, gi_ne, gi_eq, gi_sr, gi_sl, gi_th, gi_op, gr_si, gr_sl, gr_th, gr_op, gr_ne, gl_si, gl_sr, gl_th, gl_op, gl_eq, gi_al, gr_al, gl_al, nx_si, nx_sr, nx_sl, nx_th, nx_op, nx_al, nx_als, nc_si, nc_sr, nc_sl, nc_th, nc_op, nc_al, ns_si, ns_sr, ns_sl, ns_th, ns_op, ns_al, gi_neI, aI_31, sZ_31, aI_32, sI_32, aI_33, sI_33, aI_34, sI_34, aI_35, sI_35, aI_36, sI_36, aI_37, sI_37, aI_38, sZ_38, aI_39, sI_39, aI_40, sI_40, aI_41, sI_41, aI_42, sZ_42, aI_43, sZ_43, aI_44, sI_44, aI_45, sI_45, aI_46, sI_46, aI_47, sI_47, aI_48, sI_48, aI_49, sI_49, aI_50, sI_50, aI_51, sZ_51, aI_52, sZ_52, aI_53, sZ_53, aI_54, sI_54, aI_55, sI_55, aI_56, sI_56, aI_57, sI_57, aI_58, sZ_58, aI_59, sI_59, aI_60, sI_60, aI_61, sI_61, aI_62, sI_62, aI_63, sZ_63, aI_64, sZ_64, aI_65, sZ_65, aI_66, sI_66, aI_67, sI_67, aI_68, sZ_68, gI_70, gR_70, pI_70, pR_70, pZ_70, ao_70, aL_71, sL_71, pm_2 G, pm_3 G, pm_5 G, pm_6 G, pm_7 G, pm_8 G, pm_9 G, pm_10 G, pm_11 G, pm_12 G, pm_13 G, pm_14 G, pm_15 G, pm_16 G, pm_18 G, pm_19 G, pm_21 G, pm_22 G, pm_23 G, pm_25 G, pm_26 G, pm_27 G, pm_28 G, pm_31 G, pm_32 G, pm_33 G, pm_34 G, pm_35 G, pm_36 G, pm_38 G, pm_39 G, pm_40 G, pm_41 G, pm_42 G, pm_43 G, pm_44 G, pm_45 G, pm_46 G, r_isWork, r_isTag, r_isPerson, r_isFace, r_h0, r_h1, r_h2, r_h3, n10, n20, n30, n00, if_true, if_false, not_true_eq_false, not_false_eq_true, false_and, and_false, decide_false, decide_true, N.2.2.1, isIx_bad (show W < 10000 by omega) hx]
