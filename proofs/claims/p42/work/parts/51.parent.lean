theorem np_bits {h : am_H} {Tn : Nat} {s : Nat} (A : ∀ t u : Nat, t < 30 → bt (m_gi h s 0 t) u = true → t < Tn ∧ u < Tn ∧ m_gi h 47 0 t = 1 ∧ m_gi h 47 0 u = 1) (hT : Tn ≤ 30) {t m j u : Nat} (hj : j < 30) (ht : t < Tn) (hm : m < Tn) (hb : bt (npF (m_gi h s 0 j) t m) u = true) : u < 32 ∧ ((u = m ∧ bt (m_gi h s 0 j) t = true) ∨ (u ≠ t ∧ bt (m_gi h s 0 j) u = true)) := by
  have h32 : u < 32 := by
    rcases Nat.lt_or_ge u 32 with q | q
    · exact q
    · rw [b_big q] at hb; cases hb
  refine ⟨h32, ?_⟩
  unfold npF at hb
  by_cases e : bt (m_gi h s 0 j) t = true
  · rw [if_pos e, bt_wi _ (by omega) _ h32, bt_wi _ (by omega) _ h32] at hb
    by_cases e1 : u = m
    · exact Or.inl ⟨e1, e⟩
    · rw [if_neg e1] at hb
      by_cases e2 : u = t
      · rw [if_pos e2] at hb; cases hb
      · rw [if_neg e2] at hb; exact Or.inr ⟨e2, hb⟩
  · rw [if_neg e] at hb
    refine Or.inr ⟨fun z => e (by rw [← z]; exact hb), hb⟩
theorem op_merge {W Cn Tn Sn Qn : Nat} {h : am_H} (R : RR W Cn Tn Sn Qn h) (x y : Int32) : OpOK h (f_G_merge (some (69, 0)) x y (some (71, 0)) h) (f_X11_merge (70, 0) x y) vI := by
  have R0 := R
  obtain ⟨H, G, rDay, rBlk, rSam, N, rWa, rWc, rWp, rWl, rWo, rWt, rWf, rWw, rWs, rWk, rCo, rTg, rPa, rTp, rSg, rCm, rSb, rDg, rIv⟩ := R
  have hT := rTg.1
  have t1 := rTg.2.1
  have t2 := rTg.2.2.1
  rcases ix_cases x (n := Tn) (by omega) with ⟨t, ht, rfl⟩ | hx
  · rcases ix_cases y (n := Tn) (by omega) with ⟨m, hm, rfl⟩ | hy
    · have h30 : t < 30 := by omega
      have m30 : m < 30 := by omega
      have ix1 := isIx_ok (show Tn < 10000 by omega) ht
      have ix2 := isIx_ok (show Tn < 10000 by omega) hm
      by_cases hne : t = m
      · subst hne
        refine ok_ex R0 (c := 2) (b := 0) (by decide) (L_merge_x1 _ _ ?_) ?_
        · simp (decide := true) only [f_X10_merge_70, f_X10_merge, nz_0, nz_1, rz_bI, rz_0, rz_1, bI_eq0, bI_t, bI_f, bI_ri, bI_ex, bR_ra, bR_ex, bV_rt, bV_ex, bW_rt, bJ_ri, bIx_ri, bIx_ex, bVx_rt, bVx_ex, gi_ne, gi_eq, gi_sr, gi_sl, gi_th, gi_op, gr_si, gr_sl, gr_th, gr_op, gr_ne, gl_si, gl_sr, gl_th, gl_op, gl_eq, gi_al, gr_al, gl_al, nx_si, nx_sr, nx_sl, nx_th, nx_op, nx_al, nx_als, nc_si, nc_sr, nc_sl, nc_th, nc_op, nc_al, ns_si, ns_sr, ns_sl, ns_th, ns_op, ns_al, gi_neI, aR_2, sR_2, aI_3, sI_3, aI_4, sI_4, aI_5, sI_5, aI_6, sI_6, aI_7, sI_7, aI_8, sI_8, aI_9, sI_9, aI_10, sZ_10, aI_11, sI_11, aI_12, sI_12, aI_13, sI_13, aI_14, sC_14, gI_15, gR_15, pI_15, pR_15, pZ_15, ao_15, pC_15, aI_16, sI_16, aI_17, sI_17, aR_18, sR_18, aR_19, sR_19, aR_20, sR_20, gI_21, gR_21, pI_21, pR_21, pZ_21, ao_21, gI_22, gR_22, pI_22, pR_22, pZ_22, ao_22, gI_23, gR_23, pI_23, pR_23, pZ_23, ao_23, gI_24, gR_24, pI_24, pR_24, pZ_24, ao_24, aR_25, sR_25, gI_26, gR_26, pI_26, pR_26, pZ_26, ao_26, gI_27, gR_27, pI_27, pR_27, pZ_27, ao_27, gI_28, gR_28, pI_28, pR_28, pZ_28, ao_28, gI_29, gR_29, pI_29, pR_29, pZ_29, ao_29, gI_30, gR_30, pI_30, pR_30, pZ_30, ao_30, gI_69, gR_69, pI_69, pR_69, pZ_69, ao_69, pc_same H, pc_people H, pc_works H, pc_cols H, pc_tags H, pc_tape H, pc_sieve H, pc_gifts H, pc_coms H, pc_mean H, pc_par H, pc_abv H, pc_chars H, pc_scan H, pc_parts H, pc_items H, pc_nots H, pc_signs H, pc_recv H, pc_ways H, if_true, if_false, c_checkTag H t1 hT ht]
        · simp (decide := true) only [f_X11_merge_204, f_X11_merge_156, f_X11_merge_149, f_X11_merge_89, f_X11_merge_84, f_X11_merge_41, f_X11_merge_21, f_X11_merge_20, f_X11_merge, nz_0, nz_1, rz_bI, rz_0, rz_1, bI_eq0, bI_t, bI_f, bI_ri, bI_ex, bR_ra, bR_ex, bV_rt, bV_ex, bW_rt, bJ_ri, bIx_ri, bIx_ex, bVx_rt, bVx_ex, gi_ne, gi_eq, gi_sr, gi_sl, gi_th, gi_op, gr_si, gr_sl, gr_th, gr_op, gr_ne, gl_si, gl_sr, gl_th, gl_op, gl_eq, gi_al, gr_al, gl_al, nx_si, nx_sr, nx_sl, nx_th, nx_op, nx_al, nx_als, nc_si, nc_sr, nc_sl, nc_th, nc_op, nc_al, ns_si, ns_sr, ns_sl, ns_th, ns_op, ns_al, gi_neI, aI_31, sZ_31, aI_32, sI_32, aI_33, sI_33, aI_34, sI_34, aI_35, sI_35, aI_36, sI_36, aI_37, sI_37, aI_38, sZ_38, aI_39, sI_39, aI_40, sI_40, aI_41, sI_41, aI_42, sZ_42, aI_43, sZ_43, aI_44, sI_44, aI_45, sI_45, aI_46, sI_46, aI_47, sI_47, aI_48, sI_48, aI_49, sI_49, aI_50, sI_50, aI_51, sZ_51, aI_52, sZ_52, aI_53, sZ_53, aI_54, sI_54, aI_55, sI_55, aI_56, sI_56, aI_57, sI_57, aI_58, sZ_58, aI_59, sI_59, aI_60, sI_60, aI_61, sI_61, aI_62, sI_62, aI_63, sZ_63, aI_64, sZ_64, aI_65, sZ_65, aI_66, sI_66, aI_67, sI_67, aI_68, sZ_68, gI_70, gR_70, pI_70, pR_70, pZ_70, ao_70, aL_71, sL_71, pm_2 G, pm_3 G, pm_5 G, pm_6 G, pm_7 G, pm_8 G, pm_9 G, pm_10 G, pm_11 G, pm_12 G, pm_13 G, pm_14 G, pm_15 G, pm_16 G, pm_18 G, pm_19 G, pm_21 G, pm_22 G, pm_23 G, pm_25 G, pm_26 G, pm_27 G, pm_28 G, pm_31 G, pm_32 G, pm_33 G, pm_34 G, pm_35 G, pm_36 G, pm_38 G, pm_39 G, pm_40 G, pm_41 G, pm_42 G, pm_43 G, pm_44 G, pm_45 G, pm_46 G, r_isWork, r_isTag, r_isPerson, r_isFace, r_h0, r_h1, r_h2, r_h3, n10, n20, n30, n00, if_true, if_false, not_true_eq_false, not_false_eq_true, false_and, and_false, decide_false, decide_true, t2, ix1]
      · have ne : (nI t = nI m) = False := by rw [i_eq (by omega) (by omega)]; exact eq_false hne
        have Fx : Frm (pX [] []) h (m_si (m_op (m_th h)) 70 0 0 0) := ((Frm.refl _ h).th.op rfl).si rfl
        have x1 := r_aboveOf (h := m_si (m_op (m_th h)) 70 0 0 0) (G.frm Fx) (rTg.frm Fx) (rPa.frm Fx) m30
        have x2 := r_aboveOf (h := m_si (m_op (m_th h)) 70 0 0 0) (G.frm Fx) (rTg.frm Fx) (rPa.frm Fx) h30
        by_cases k1 : m_gi h 47 0 m = 1
        · by_cases b1 : bt (m_gi h 13 0 m) t = true
          · refine ok_ex R0 (c := 3) (b := 0) (by decide) (L_merge_x2 _ _ ?_) ?_
            · simp (decide := true) only [f_X10_merge_70, f_X10_merge, nz_0, nz_1, rz_bI, rz_0, rz_1, bI_eq0, bI_t, bI_f, bI_ri, bI_ex, bR_ra, bR_ex, bV_rt, bV_ex, bW_rt, bJ_ri, bIx_ri, bIx_ex, bVx_rt, bVx_ex, gi_ne, gi_eq, gi_sr, gi_sl, gi_th, gi_op, gr_si, gr_sl, gr_th, gr_op, gr_ne, gl_si, gl_sr, gl_th, gl_op, gl_eq, gi_al, gr_al, gl_al, nx_si, nx_sr, nx_sl, nx_th, nx_op, nx_al, nx_als, nc_si, nc_sr, nc_sl, nc_th, nc_op, nc_al, ns_si, ns_sr, ns_sl, ns_th, ns_op, ns_al, gi_neI, aR_2, sR_2, aI_3, sI_3, aI_4, sI_4, aI_5, sI_5, aI_6, sI_6, aI_7, sI_7, aI_8, sI_8, aI_9, sI_9, aI_10, sZ_10, aI_11, sI_11, aI_12, sI_12, aI_13, sI_13, aI_14, sC_14, gI_15, gR_15, pI_15, pR_15, pZ_15, ao_15, pC_15, aI_16, sI_16, aI_17, sI_17, aR_18, sR_18, aR_19, sR_19, aR_20, sR_20, gI_21, gR_21, pI_21, pR_21, pZ_21, ao_21, gI_22, gR_22, pI_22, pR_22, pZ_22, ao_22, gI_23, gR_23, pI_23, pR_23, pZ_23, ao_23, gI_24, gR_24, pI_24, pR_24, pZ_24, ao_24, aR_25, sR_25, gI_26, gR_26, pI_26, pR_26, pZ_26, ao_26, gI_27, gR_27, pI_27, pR_27, pZ_27, ao_27, gI_28, gR_28, pI_28, pR_28, pZ_28, ao_28, gI_29, gR_29, pI_29, pR_29, pZ_29, ao_29, gI_30, gR_30, pI_30, pR_30, pZ_30, ao_30, gI_69, gR_69, pI_69, pR_69, pZ_69, ao_69, pc_same H, pc_people H, pc_works H, pc_cols H, pc_tags H, pc_tape H, pc_sieve H, pc_gifts H, pc_coms H, pc_mean H, pc_par H, pc_abv H, pc_chars H, pc_scan H, pc_parts H, pc_items H, pc_nots H, pc_signs H, pc_recv H, pc_ways H, if_true, if_false, c_checkTag H t1 hT ht, c_checkTag H t1 hT hm, ne, c_kindOf H rTg ht, c_kindOf H rTg hm, k1, c_isAbove H m30 (show t < 32 by omega), b1]
            · simp (decide := true) only [f_X11_merge_204, f_X11_merge_156, f_X11_merge_149, f_X11_merge_89, f_X11_merge_84, f_X11_merge_41, f_X11_merge_21, f_X11_merge_20, f_X11_merge, nz_0, nz_1, rz_bI, rz_0, rz_1, bI_eq0, bI_t, bI_f, bI_ri, bI_ex, bR_ra, bR_ex, bV_rt, bV_ex, bW_rt, bJ_ri, bIx_ri, bIx_ex, bVx_rt, bVx_ex, gi_ne, gi_eq, gi_sr, gi_sl, gi_th, gi_op, gr_si, gr_sl, gr_th, gr_op, gr_ne, gl_si, gl_sr, gl_th, gl_op, gl_eq, gi_al, gr_al, gl_al, nx_si, nx_sr, nx_sl, nx_th, nx_op, nx_al, nx_als, nc_si, nc_sr, nc_sl, nc_th, nc_op, nc_al, ns_si, ns_sr, ns_sl, ns_th, ns_op, ns_al, gi_neI, aI_31, sZ_31, aI_32, sI_32, aI_33, sI_33, aI_34, sI_34, aI_35, sI_35, aI_36, sI_36, aI_37, sI_37, aI_38, sZ_38, aI_39, sI_39, aI_40, sI_40, aI_41, sI_41, aI_42, sZ_42, aI_43, sZ_43, aI_44, sI_44, aI_45, sI_45, aI_46, sI_46, aI_47, sI_47, aI_48, sI_48, aI_49, sI_49, aI_50, sI_50, aI_51, sZ_51, aI_52, sZ_52, aI_53, sZ_53, aI_54, sI_54, aI_55, sI_55, aI_56, sI_56, aI_57, sI_57, aI_58, sZ_58, aI_59, sI_59, aI_60, sI_60, aI_61, sI_61, aI_62, sI_62, aI_63, sZ_63, aI_64, sZ_64, aI_65, sZ_65, aI_66, sI_66, aI_67, sI_67, aI_68, sZ_68, gI_70, gR_70, pI_70, pR_70, pZ_70, ao_70, aL_71, sL_71, pm_2 G, pm_3 G, pm_5 G, pm_6 G, pm_7 G, pm_8 G, pm_9 G, pm_10 G, pm_11 G, pm_12 G, pm_13 G, pm_14 G, pm_15 G, pm_16 G, pm_18 G, pm_19 G, pm_21 G, pm_22 G, pm_23 G, pm_25 G, pm_26 G, pm_27 G, pm_28 G, pm_31 G, pm_32 G, pm_33 G, pm_34 G, pm_35 G, pm_36 G, pm_38 G, pm_39 G, pm_40 G, pm_41 G, pm_42 G, pm_43 G, pm_44 G, pm_45 G, pm_46 G, r_isWork, r_isTag, r_isPerson, r_isFace, r_h0, r_h1, r_h2, r_h3, n10, n20, n30, n00, if_true, if_false, not_true_eq_false, not_false_eq_true, false_and, and_false, decide_false, decide_true, t2, ix1, ix2, ne, m30, k1, x1, r_has (show t < 32 by omega), b1, si_si]
          · by_cases b2 : bt (m_gi h 13 0 t) m = true
            · have b1' : bt (m_gi h 13 0 m) t = false := by simpa using b1
              refine ok_ex R0 (c := 3) (b := 0) (by decide) (L_merge_x2 _ _ ?_) ?_
              · simp (decide := true) only [f_X10_merge_70, f_X10_merge, nz_0, nz_1, rz_bI, rz_0, rz_1, bI_eq0, bI_t, bI_f, bI_ri, bI_ex, bR_ra, bR_ex, bV_rt, bV_ex, bW_rt, bJ_ri, bIx_ri, bIx_ex, bVx_rt, bVx_ex, gi_ne, gi_eq, gi_sr, gi_sl, gi_th, gi_op, gr_si, gr_sl, gr_th, gr_op, gr_ne, gl_si, gl_sr, gl_th, gl_op, gl_eq, gi_al, gr_al, gl_al, nx_si, nx_sr, nx_sl, nx_th, nx_op, nx_al, nx_als, nc_si, nc_sr, nc_sl, nc_th, nc_op, nc_al, ns_si, ns_sr, ns_sl, ns_th, ns_op, ns_al, gi_neI, aR_2, sR_2, aI_3, sI_3, aI_4, sI_4, aI_5, sI_5, aI_6, sI_6, aI_7, sI_7, aI_8, sI_8, aI_9, sI_9, aI_10, sZ_10, aI_11, sI_11, aI_12, sI_12, aI_13, sI_13, aI_14, sC_14, gI_15, gR_15, pI_15, pR_15, pZ_15, ao_15, pC_15, aI_16, sI_16, aI_17, sI_17, aR_18, sR_18, aR_19, sR_19, aR_20, sR_20, gI_21, gR_21, pI_21, pR_21, pZ_21, ao_21, gI_22, gR_22, pI_22, pR_22, pZ_22, ao_22, gI_23, gR_23, pI_23, pR_23, pZ_23, ao_23, gI_24, gR_24, pI_24, pR_24, pZ_24, ao_24, aR_25, sR_25, gI_26, gR_26, pI_26, pR_26, pZ_26, ao_26, gI_27, gR_27, pI_27, pR_27, pZ_27, ao_27, gI_28, gR_28, pI_28, pR_28, pZ_28, ao_28, gI_29, gR_29, pI_29, pR_29, pZ_29, ao_29, gI_30, gR_30, pI_30, pR_30, pZ_30, ao_30, gI_69, gR_69, pI_69, pR_69, pZ_69, ao_69, pc_same H, pc_people H, pc_works H, pc_cols H, pc_tags H, pc_tape H, pc_sieve H, pc_gifts H, pc_coms H, pc_mean H, pc_par H, pc_abv H, pc_chars H, pc_scan H, pc_parts H, pc_items H, pc_nots H, pc_signs H, pc_recv H, pc_ways H, if_true, if_false, c_checkTag H t1 hT ht, c_checkTag H t1 hT hm, ne, c_kindOf H rTg ht, c_kindOf H rTg hm, k1, c_isAbove H m30 (show t < 32 by omega), b1', c_isAbove H h30 (show m < 32 by omega), b2]
              · simp (decide := true) only [f_X11_merge_204, f_X11_merge_156, f_X11_merge_149, f_X11_merge_89, f_X11_merge_84, f_X11_merge_41, f_X11_merge_21, f_X11_merge_20, f_X11_merge, nz_0, nz_1, rz_bI, rz_0, rz_1, bI_eq0, bI_t, bI_f, bI_ri, bI_ex, bR_ra, bR_ex, bV_rt, bV_ex, bW_rt, bJ_ri, bIx_ri, bIx_ex, bVx_rt, bVx_ex, gi_ne, gi_eq, gi_sr, gi_sl, gi_th, gi_op, gr_si, gr_sl, gr_th, gr_op, gr_ne, gl_si, gl_sr, gl_th, gl_op, gl_eq, gi_al, gr_al, gl_al, nx_si, nx_sr, nx_sl, nx_th, nx_op, nx_al, nx_als, nc_si, nc_sr, nc_sl, nc_th, nc_op, nc_al, ns_si, ns_sr, ns_sl, ns_th, ns_op, ns_al, gi_neI, aI_31, sZ_31, aI_32, sI_32, aI_33, sI_33, aI_34, sI_34, aI_35, sI_35, aI_36, sI_36, aI_37, sI_37, aI_38, sZ_38, aI_39, sI_39, aI_40, sI_40, aI_41, sI_41, aI_42, sZ_42, aI_43, sZ_43, aI_44, sI_44, aI_45, sI_45, aI_46, sI_46, aI_47, sI_47, aI_48, sI_48, aI_49, sI_49, aI_50, sI_50, aI_51, sZ_51, aI_52, sZ_52, aI_53, sZ_53, aI_54, sI_54, aI_55, sI_55, aI_56, sI_56, aI_57, sI_57, aI_58, sZ_58, aI_59, sI_59, aI_60, sI_60, aI_61, sI_61, aI_62, sI_62, aI_63, sZ_63, aI_64, sZ_64, aI_65, sZ_65, aI_66, sI_66, aI_67, sI_67, aI_68, sZ_68, gI_70, gR_70, pI_70, pR_70, pZ_70, ao_70, aL_71, sL_71, pm_2 G, pm_3 G, pm_5 G, pm_6 G, pm_7 G, pm_8 G, pm_9 G, pm_10 G, pm_11 G, pm_12 G, pm_13 G, pm_14 G, pm_15 G, pm_16 G, pm_18 G, pm_19 G, pm_21 G, pm_22 G, pm_23 G, pm_25 G, pm_26 G, pm_27 G, pm_28 G, pm_31 G, pm_32 G, pm_33 G, pm_34 G, pm_35 G, pm_36 G, pm_38 G, pm_39 G, pm_40 G, pm_41 G, pm_42 G, pm_43 G, pm_44 G, pm_45 G, pm_46 G, r_isWork, r_isTag, r_isPerson, r_isFace, r_h0, r_h1, r_h2, r_h3, n10, n20, n30, n00, if_true, if_false, not_true_eq_false, not_false_eq_true, false_and, and_false, decide_false, decide_true, t2, ix1, ix2, ne, m30, k1, x1, r_has (show t < 32 by omega), b1', x2, r_has (show m < 32 by omega), b2, si_si]
            · have b1' : bt (m_gi h 13 0 m) t = false := by simpa using b1
              have b2' : bt (m_gi h 13 0 t) m = false := by simpa using b2
              have hR : ∀ a b, a < 30 → bt (m_gi h 12 0 a) b = true → a < Tn := fun a b ha hb => by
                rw [rPa.1 a ha] at hb; exact (rPa.2.1 a b ha hb).1
              obtain ⟨g1, r1, F1, u11, u12, u13⟩ := c_makeAlias H t1 hT hR ht hm
              obtain ⟨h1, r2, F2, w1⟩ := c_letWait (h := g1) (W := W) (H.frm F1.1) (N.frm F1.1) (rWw.frm F1.1) (fun k hk => by rw [F1.1.1 27 k 7 rfl, F1.1.1 40 0 k rfl]; exact rWt.1 k hk)
              have F12 : Frm (pX [(27, 9)] [11, 12, 13]) h h1 := F1.1.up.trans F2.1.up
              have Fs : Frm (pX [(27, 9)] [11, 12, 13]) h (m_sl h1 71 0 0 (vI (m_gi h 47 0 t))) := F12.sl
              have Fc : Frm (pX [(27, 9)] [11, 12, 13]) h (m_si (m_sl h1 71 0 0 (vI (m_gi h 47 0 t))) 70 0 0 0) := F12.sl.si rfl
              have e11 : ∀ j, m_gi h1 11 0 j = if j = t ∨ (j < Tn ∧ m_gi h 11 0 j = nI t) then nI m else m_gi h 11 0 j := fun j => by rw [F2.1.1 11 0 j rfl, u11]
              have e12 : ∀ j, m_gi h1 12 0 j = if j = t then 0 else if j < Tn then npF (m_gi h 12 0 j) t m else m_gi h 12 0 j := fun j => by rw [F2.1.1 12 0 j rfl, u12]
              obtain ⟨h2, r3, F3, w2, v47, v48, v49⟩ := r_merge108 (h := (m_si (m_sl h1 71 0 0 (vI (m_gi h 47 0 t))) 70 0 0 0)) (G.frm Fc) ((Fc.1 70 0 20 rfl).trans t2) hT (W := W) ((Fc.1 70 0 4 rfl).trans N.2.2.1) N.1 (m := m) ht (m_gi h 47 0 t)
              have F : Frm (pX [(27, 9)] [11, 12, 13, 42, 47, 48, 49]) h h2 := Fc.up.trans F3.1.up
              -- the reference looks at what is above of its own parents: nothing changed there yet
              have Ge : ∀ s, s ≠ 70 → m_gi (m_si (m_sl h1 71 0 0 (vI (m_gi h 47 0 t))) 70 0 0 0) s = m_gi h1 s := fun s hs => gi_ne hs
              have y1 : f_X11_aboveOf (70, 0) (nI m) (m_si (m_sl h1 71 0 0 (vI (m_gi h 47 0 t))) 70 0 0 0) = m_ri (m_si (m_sl h1 71 0 0 (vI (m_gi h 47 0 t))) 70 0 0 0) (m_gi h 13 0 m) := r_abvF Fc G rTg rPa m30
              have y2 : f_X11_aboveOf (70, 0) (nI t) (m_si (m_sl h1 71 0 0 (vI (m_gi h 47 0 t))) 70 0 0 0) = m_ri (m_si (m_sl h1 71 0 0 (vI (m_gi h 47 0 t))) 70 0 0 0) (m_gi h 13 0 t) := r_abvF Fc G rTg rPa h30
              have f47 : ∀ j, m_gi h1 47 0 j = m_gi h 47 0 j := fun j => F12.1 47 0 j rfl
              have f20 : m_gi h1 70 0 20 = nI Tn := (F12.1 70 0 20 rfl).trans t2
              have G1 : ShM h1 := G.frm F12
              refine ok_u (hv := fun _ => k_ne21 rTg ht) (h1 := h1) (b := (m_gi h 47 0 t)) (h2 := h2) (L_merge_ret _ _ ?_) ?_ (F3.2.2.2.2.trans ?_) ((congrFun (congrFun (congrFun F3.2.1 71) 0) 0).trans gl_eq) F12.g1 F.g1 ?_ ?_ ?_
              · simp (decide := true) only [f_X10_merge_70, f_X10_merge, nz_0, nz_1, rz_bI, rz_0, rz_1, bI_eq0, bI_t, bI_f, bI_ri, bI_ex, bR_ra, bR_ex, bV_rt, bV_ex, bW_rt, bJ_ri, bIx_ri, bIx_ex, bVx_rt, bVx_ex, gi_ne, gi_eq, gi_sr, gi_sl, gi_th, gi_op, gr_si, gr_sl, gr_th, gr_op, gr_ne, gl_si, gl_sr, gl_th, gl_op, gl_eq, gi_al, gr_al, gl_al, nx_si, nx_sr, nx_sl, nx_th, nx_op, nx_al, nx_als, nc_si, nc_sr, nc_sl, nc_th, nc_op, nc_al, ns_si, ns_sr, ns_sl, ns_th, ns_op, ns_al, gi_neI, aR_2, sR_2, aI_3, sI_3, aI_4, sI_4, aI_5, sI_5, aI_6, sI_6, aI_7, sI_7, aI_8, sI_8, aI_9, sI_9, aI_10, sZ_10, aI_11, sI_11, aI_12, sI_12, aI_13, sI_13, aI_14, sC_14, gI_15, gR_15, pI_15, pR_15, pZ_15, ao_15, pC_15, aI_16, sI_16, aI_17, sI_17, aR_18, sR_18, aR_19, sR_19, aR_20, sR_20, gI_21, gR_21, pI_21, pR_21, pZ_21, ao_21, gI_22, gR_22, pI_22, pR_22, pZ_22, ao_22, gI_23, gR_23, pI_23, pR_23, pZ_23, ao_23, gI_24, gR_24, pI_24, pR_24, pZ_24, ao_24, aR_25, sR_25, gI_26, gR_26, pI_26, pR_26, pZ_26, ao_26, gI_27, gR_27, pI_27, pR_27, pZ_27, ao_27, gI_28, gR_28, pI_28, pR_28, pZ_28, ao_28, gI_29, gR_29, pI_29, pR_29, pZ_29, ao_29, gI_30, gR_30, pI_30, pR_30, pZ_30, ao_30, gI_69, gR_69, pI_69, pR_69, pZ_69, ao_69, pc_same H, pc_people H, pc_works H, pc_cols H, pc_tags H, pc_tape H, pc_sieve H, pc_gifts H, pc_coms H, pc_mean H, pc_par H, pc_abv H, pc_chars H, pc_scan H, pc_parts H, pc_items H, pc_nots H, pc_signs H, pc_recv H, pc_ways H, if_true, if_false, c_checkTag H t1 hT ht, c_checkTag H t1 hT hm, ne, c_kindOf H rTg ht, c_kindOf H rTg hm, k1, c_isAbove H m30 (show t < 32 by omega), b1', c_isAbove H h30 (show m < 32 by omega), b2', r1, F1.1.2.1 69 0 7 rfl, r2]
              · simp (decide := true) only [f_X11_merge_204, f_X11_merge_156, f_X11_merge_149, f_X11_merge_89, f_X11_merge_84, f_X11_merge_41, f_X11_merge_21, f_X11_merge_20, f_X11_merge, ao_70, r_isTag, gi_sl, f20, ix1, ix2, bI_ri, bI_t, n10, if_false, ne, r_h0, gR_70, gr_si, gr_sl, pm_21 G1, aI_47 m30, aI_47 h30, gi_ne, f47, k1, if_true, y1, y2, r_has (show t < 32 by omega), r_has (show m < 32 by omega), b1', b2', bI_eq0, si_si, r3]
              · rfl
              · rw [F3.2.2.1]; show m_nc h1 ≤ _; rw [F2.2.2.1, F1.2.2.1]; exact Nat.le_add_right _ _
              · rw [F3.2.2.2.1]; show m_ns h1 ≤ _; rw [F2.2.2.2.1, F1.2.2.2.1]; exact Nat.le_add_right _ _
              · have c47 : ∀ j, m_gi (m_si (m_sl h1 71 0 0 (vI (m_gi h 47 0 t))) 70 0 0 0) 47 0 j = m_gi h 47 0 j := fun j => Fc.1 47 0 j rfl
                have c48 : ∀ j, m_gi (m_si (m_sl h1 71 0 0 (vI (m_gi h 47 0 t))) 70 0 0 0) 48 0 j = m_gi h 48 0 j := fun j => Fc.1 48 0 j rfl
                have c49 : ∀ j, m_gi (m_si (m_sl h1 71 0 0 (vI (m_gi h 47 0 t))) 70 0 0 0) 49 0 j = m_gi h 49 0 j := fun j => Fc.1 49 0 j rfl
                have z11 : ∀ j, m_gi h2 11 0 j = if j = t ∨ (j < Tn ∧ m_gi h 11 0 j = nI t) then nI m else m_gi h 11 0 j := fun j => by
                  rw [F3.1.1 11 0 j rfl]; exact e11 j
                have z12 : ∀ j, m_gi h2 12 0 j = if j = t then 0 else if j < Tn then npF (m_gi h 12 0 j) t m else m_gi h 12 0 j := fun j => by
                  rw [F3.1.1 12 0 j rfl]; exact e12 j
                have z47 : ∀ j, m_gi h2 47 0 j = if j = t then 2 else m_gi h 47 0 j := fun j => by rw [v47, c47]
                have z48 : ∀ j, m_gi h2 48 0 j = if j = t ∨ (j < Tn ∧ m_gi h 47 0 j = 2 ∧ m_gi h 48 0 j = nI t) then nI m else m_gi h 48 0 j := fun j => by rw [v48, c47, c48]
                have z49 : ∀ j, m_gi h2 49 0 j = if j = t then 0 else if j < Tn then npF (m_gi h 49 0 j) t m else m_gi h 49 0 j := fun j => by rw [v49, c49]
                have z9 : ∀ j, j < W → m_gi h2 27 j 9 = bI (wtP h j) := fun j hj => by
                  rw [F3.1.1 27 j 9 rfl]
                  show m_gi h1 27 j 9 = _
                  rw [w1 j hj]
                  congr 1
                  unfold wtP
                  rw [F1.1.1 42 0 j rfl, F1.1.1 40 0 j rfl]
                have z42 : ∀ j, m_gi h2 42 0 j = if j < W then bI (wtP h j) else m_gi h 42 0 j := fun j => by
                  rw [w2]
                  have q1 : wtP (m_si (m_sl h1 71 0 0 (vI (m_gi h 47 0 t))) 70 0 0 0) j = wtP h j := by
                    unfold wtP
                    rw [Fc.1 42 0 j rfl, Fc.1 40 0 j rfl]
                  rw [q1, Fc.1 42 0 j rfl]
                have rPa2 : RPa Tn h2 := by
                  have agree : ∀ u, u < 30 → m_gi h2 12 0 u = m_gi h2 49 0 u := fun u hu => by rw [z12, z49, rPa.1 u hu]
                  refine ⟨agree, fun u w hu hb => ?_, fun u w hu hw => ?_⟩
                  · rw [z49] at hb
                    by_cases e : u = t
                    · rw [if_pos e, b_0] at hb; cases hb
                    · rw [if_neg e] at hb
                      rw [z47, z47, if_neg e]
                      by_cases eT : u < Tn
                      · rw [if_pos eT] at hb
                        obtain ⟨w32, q⟩ := np_bits rPa.2.1 hT hu ht hm hb
                        rcases q with ⟨q1, q2⟩ | ⟨q1, q2⟩
                        · obtain ⟨a1, a2, a3, a4⟩ := rPa.2.1 u t hu q2
                          subst q1
                          refine ⟨a1, hm, a3, ?_⟩
                          rw [if_neg (fun z => hne z.symm)]; exact k1
                        · obtain ⟨a1, a2, a3, a4⟩ := rPa.2.1 u w hu q2
                          exact ⟨a1, a2, a3, by rw [if_neg q1]; exact a4⟩
                      · rw [if_neg eT] at hb
                        exact absurd (rPa.2.1 u w hu hb).1 eT
                  · rw [F3.1.1 13 0 u rfl]
                    show bt (m_gi h1 13 0 u) w = true ↔ _
                    rw [F2.1.1 13 0 u rfl, u13 u w hu hw, ← tg_congr agree]
                    have : (fun a b => a < 30 ∧ bt (m_gi g1 12 0 a) b = true) = (fun a b => a < 30 ∧ bt (m_gi h2 12 0 a) b = true) := by
                      funext a b
                      rw [z12, u12]
                    rw [this]
                have rAc : ∀ u, u < 30 → bt (m_gi h2 13 0 u) u = false := fun u hu => by
                  cases hc : bt (m_gi h2 13 0 u) u
                  · rfl
                  · have g1 := (rPa2.2.2 u u hu (by omega)).mp hc
                    have g2 := ac_merge (P := fun a b => a < 30 ∧ bt (m_gi h 49 0 a) b = true) (t := t) (m := m) (fun a c z => by
                      obtain ⟨z1, z2⟩ := z
                      rw [z49] at z2
                      by_cases e : a = t
                      · rw [if_pos e, b_0] at z2; cases z2
                      · rw [if_neg e] at z2
                        by_cases eT : a < Tn
                        · rw [if_pos eT] at z2
                          rcases (np_bits rPa.2.1 hT z1 ht hm z2).2 with ⟨q1, q2⟩ | ⟨q1, q2⟩
                          · exact Or.inr ⟨⟨z1, q2⟩, q1⟩
                          · exact Or.inl ⟨z1, q2⟩
                        · rw [if_neg eT] at z2
                          exact Or.inl ⟨z1, z2⟩) g1
                    rcases g2 with g2 | ⟨g2, g3⟩
                    · rw [← rPa.2.2 u u hu (by omega), rIv.1 u hu] at g2; cases g2
                    · have g4 : Relation.TransGen (fun a b => a < 30 ∧ bt (m_gi h 49 0 a) b = true) m t := by
                        rcases g3 with rfl | g3
                        · exact g2
                        · exact Relation.TransGen.trans g3 g2
                      rw [← rPa.2.2 m t m30 (by omega), b1'] at g4; cases g4
                refine ⟨W, Cn, Tn, Sn, Qn, ⟨H.frm F, G.frm F, rDay.frm F, rBlk.frm F, rSam.frm F, N.frm F, rWa.frm F, rWc.frm F, rWp.frm F, rWl.frm F, rWo.frm F, rWt.frm F, rWf.frm F, ?_, rWs.frm F, rWk.frm F, rCo.frm F, ?_, rPa2, rTp.frm F, rSg.frm F, rCm.frm F, rSb.frm F, rDg.frm F, rIv.wait (fun k => F.1 40 0 k rfl) (fun k => F.1 41 0 k rfl) (fun k hk hw => by rw [z42, if_pos hk] at hw; exact wtP_0 hw) rAc⟩⟩
                · refine ⟨fun j hj => by rw [z9 j hj, z42, if_pos hj], fun j hj => ?_, fun j a b => by rw [z42, if_neg (by omega)]; exact rWw.2.2 j a b⟩
                  rw [z42]
                  split
                  · exact nz_bI _
                  · exact rWw.2.1 j hj
                · refine ⟨hT, (F.1 21 0 0 rfl).trans t1, (F.1 70 0 20 rfl).trans t2, fun u hu => ?_, fun u a b => ?_⟩
                  · rw [z11, z47, z48]
                    by_cases e : u = t
                    · rw [if_pos (Or.inl e), if_pos e, if_pos (Or.inl e)]
                      exact Or.inr (Or.inr ⟨rfl, m, hm, fun z => hne (e.symm.trans z.symm), rfl, rfl, by rw [z47, if_neg (fun z => hne z.symm)]; exact k1⟩)
                    · rw [if_neg e]
                      rcases rTg.2.2.2.1 u hu with ⟨q1, q2⟩ | ⟨q1, q2⟩ | ⟨q1, m0, q2, q3, q4, q5, q6⟩
                      · rw [if_neg (fun z => z.elim e (fun z => nI_m1 (show t < 10000 by omega) (z.2.symm.trans q2)))]
                        exact Or.inl ⟨q1, q2⟩
                      · rw [if_neg (fun z => z.elim e (fun z => e ((nI_eq (show u < 2 ^ 31 by omega) (show t < 2 ^ 31 by omega)).mp (q2.symm.trans z.2))))]
                        exact Or.inr (Or.inl ⟨q1, q2⟩)
                      · right; right
                        by_cases em : m0 = t
                        · subst em
                          rw [if_pos (Or.inr ⟨hu, q4⟩), if_pos (Or.inr ⟨hu, q1, q5⟩)]
                          refine ⟨q1, m, hm, fun z => ?_, rfl, rfl, ?_⟩
                          · subst z; rw [k1] at q1; exact absurd q1 (by decide)
                          · rw [z47, if_neg (fun z => hne z.symm)]; exact k1
                        · have q0 : ¬ nI m0 = nI t := fun z => em ((nI_eq (show m0 < 2 ^ 31 by omega) (show t < 2 ^ 31 by omega)).mp z)
                          rw [if_neg (fun z => z.elim e (fun z => q0 (q4.symm.trans z.2))), if_neg (fun z => z.elim e (fun z => q0 (q5.symm.trans z.2.2)))]
                          refine ⟨q1, m0, q2, q3, q4, q5, ?_⟩
                          rw [z47, if_neg em]; exact q6
                  · rw [z47, if_neg (by omega)]; exact rTg.2.2.2.2 u a b
        · refine ok_ex R0 (c := 3) (b := 0) (by decide) (L_merge_x2 _ _ ?_) ?_
          · simp (decide := true) only [f_X10_merge_70, f_X10_merge, nz_0, nz_1, rz_bI, rz_0, rz_1, bI_eq0, bI_t, bI_f, bI_ri, bI_ex, bR_ra, bR_ex, bV_rt, bV_ex, bW_rt, bJ_ri, bIx_ri, bIx_ex, bVx_rt, bVx_ex, gi_ne, gi_eq, gi_sr, gi_sl, gi_th, gi_op, gr_si, gr_sl, gr_th, gr_op, gr_ne, gl_si, gl_sr, gl_th, gl_op, gl_eq, gi_al, gr_al, gl_al, nx_si, nx_sr, nx_sl, nx_th, nx_op, nx_al, nx_als, nc_si, nc_sr, nc_sl, nc_th, nc_op, nc_al, ns_si, ns_sr, ns_sl, ns_th, ns_op, ns_al, gi_neI, aR_2, sR_2, aI_3, sI_3, aI_4, sI_4, aI_5, sI_5, aI_6, sI_6, aI_7, sI_7, aI_8, sI_8, aI_9, sI_9, aI_10, sZ_10, aI_11, sI_11, aI_12, sI_12, aI_13, sI_13, aI_14, sC_14, gI_15, gR_15, pI_15, pR_15, pZ_15, ao_15, pC_15, aI_16, sI_16, aI_17, sI_17, aR_18, sR_18, aR_19, sR_19, aR_20, sR_20, gI_21, gR_21, pI_21, pR_21, pZ_21, ao_21, gI_22, gR_22, pI_22, pR_22, pZ_22, ao_22, gI_23, gR_23, pI_23, pR_23, pZ_23, ao_23, gI_24, gR_24, pI_24, pR_24, pZ_24, ao_24, aR_25, sR_25, gI_26, gR_26, pI_26, pR_26, pZ_26, ao_26, gI_27, gR_27, pI_27, pR_27, pZ_27, ao_27, gI_28, gR_28, pI_28, pR_28, pZ_28, ao_28, gI_29, gR_29, pI_29, pR_29, pZ_29, ao_29, gI_30, gR_30, pI_30, pR_30, pZ_30, ao_30, gI_69, gR_69, pI_69, pR_69, pZ_69, ao_69, pc_same H, pc_people H, pc_works H, pc_cols H, pc_tags H, pc_tape H, pc_sieve H, pc_gifts H, pc_coms H, pc_mean H, pc_par H, pc_abv H, pc_chars H, pc_scan H, pc_parts H, pc_items H, pc_nots H, pc_signs H, pc_recv H, pc_ways H, if_true, if_false, c_checkTag H t1 hT ht, c_checkTag H t1 hT hm, ne, c_kindOf H rTg ht, c_kindOf H rTg hm, k1]
          · simp (decide := true) only [f_X11_merge_204, f_X11_merge_156, f_X11_merge_149, f_X11_merge_89, f_X11_merge_84, f_X11_merge_41, f_X11_merge_21, f_X11_merge_20, f_X11_merge, nz_0, nz_1, rz_bI, rz_0, rz_1, bI_eq0, bI_t, bI_f, bI_ri, bI_ex, bR_ra, bR_ex, bV_rt, bV_ex, bW_rt, bJ_ri, bIx_ri, bIx_ex, bVx_rt, bVx_ex, gi_ne, gi_eq, gi_sr, gi_sl, gi_th, gi_op, gr_si, gr_sl, gr_th, gr_op, gr_ne, gl_si, gl_sr, gl_th, gl_op, gl_eq, gi_al, gr_al, gl_al, nx_si, nx_sr, nx_sl, nx_th, nx_op, nx_al, nx_als, nc_si, nc_sr, nc_sl, nc_th, nc_op, nc_al, ns_si, ns_sr, ns_sl, ns_th, ns_op, ns_al, gi_neI, aI_31, sZ_31, aI_32, sI_32, aI_33, sI_33, aI_34, sI_34, aI_35, sI_35, aI_36, sI_36, aI_37, sI_37, aI_38, sZ_38, aI_39, sI_39, aI_40, sI_40, aI_41, sI_41, aI_42, sZ_42, aI_43, sZ_43, aI_44, sI_44, aI_45, sI_45, aI_46, sI_46, aI_47, sI_47, aI_48, sI_48, aI_49, sI_49, aI_50, sI_50, aI_51, sZ_51, aI_52, sZ_52, aI_53, sZ_53, aI_54, sI_54, aI_55, sI_55, aI_56, sI_56, aI_57, sI_57, aI_58, sZ_58, aI_59, sI_59, aI_60, sI_60, aI_61, sI_61, aI_62, sI_62, aI_63, sZ_63, aI_64, sZ_64, aI_65, sZ_65, aI_66, sI_66, aI_67, sI_67, aI_68, sZ_68, gI_70, gR_70, pI_70, pR_70, pZ_70, ao_70, aL_71, sL_71, pm_2 G, pm_3 G, pm_5 G, pm_6 G, pm_7 G, pm_8 G, pm_9 G, pm_10 G, pm_11 G, pm_12 G, pm_13 G, pm_14 G, pm_15 G, pm_16 G, pm_18 G, pm_19 G, pm_21 G, pm_22 G, pm_23 G, pm_25 G, pm_26 G, pm_27 G, pm_28 G, pm_31 G, pm_32 G, pm_33 G, pm_34 G, pm_35 G, pm_36 G, pm_38 G, pm_39 G, pm_40 G, pm_41 G, pm_42 G, pm_43 G, pm_44 G, pm_45 G, pm_46 G, r_isWork, r_isTag, r_isPerson, r_isFace, r_h0, r_h1, r_h2, r_h3, n10, n20, n30, n00, if_true, if_false, not_true_eq_false, not_false_eq_true, false_and, and_false, decide_false, decide_true, t2, ix1, ix2, ne, m30, k1, si_si]
    · refine ok_ex R0 (c := 1) (b := 0) (by decide) (L_merge_x0 _ _ ?_) ?_
      · simp (decide := true) only [f_X10_merge_70, f_X10_merge, nz_0, nz_1, rz_bI, rz_0, rz_1, bI_eq0, bI_t, bI_f, bI_ri, bI_ex, bR_ra, bR_ex, bV_rt, bV_ex, bW_rt, bJ_ri, bIx_ri, bIx_ex, bVx_rt, bVx_ex, gi_ne, gi_eq, gi_sr, gi_sl, gi_th, gi_op, gr_si, gr_sl, gr_th, gr_op, gr_ne, gl_si, gl_sr, gl_th, gl_op, gl_eq, gi_al, gr_al, gl_al, nx_si, nx_sr, nx_sl, nx_th, nx_op, nx_al, nx_als, nc_si, nc_sr, nc_sl, nc_th, nc_op, nc_al, ns_si, ns_sr, ns_sl, ns_th, ns_op, ns_al, gi_neI, aR_2, sR_2, aI_3, sI_3, aI_4, sI_4, aI_5, sI_5, aI_6, sI_6, aI_7, sI_7, aI_8, sI_8, aI_9, sI_9, aI_10, sZ_10, aI_11, sI_11, aI_12, sI_12, aI_13, sI_13, aI_14, sC_14, gI_15, gR_15, pI_15, pR_15, pZ_15, ao_15, pC_15, aI_16, sI_16, aI_17, sI_17, aR_18, sR_18, aR_19, sR_19, aR_20, sR_20, gI_21, gR_21, pI_21, pR_21, pZ_21, ao_21, gI_22, gR_22, pI_22, pR_22, pZ_22, ao_22, gI_23, gR_23, pI_23, pR_23, pZ_23, ao_23, gI_24, gR_24, pI_24, pR_24, pZ_24, ao_24, aR_25, sR_25, gI_26, gR_26, pI_26, pR_26, pZ_26, ao_26, gI_27, gR_27, pI_27, pR_27, pZ_27, ao_27, gI_28, gR_28, pI_28, pR_28, pZ_28, ao_28, gI_29, gR_29, pI_29, pR_29, pZ_29, ao_29, gI_30, gR_30, pI_30, pR_30, pZ_30, ao_30, gI_69, gR_69, pI_69, pR_69, pZ_69, ao_69, pc_same H, pc_people H, pc_works H, pc_cols H, pc_tags H, pc_tape H, pc_sieve H, pc_gifts H, pc_coms H, pc_mean H, pc_par H, pc_abv H, pc_chars H, pc_scan H, pc_parts H, pc_items H, pc_nots H, pc_signs H, pc_recv H, pc_ways H, if_true, if_false, c_checkTag H t1 hT ht, c_checkTag_bad H t1 hy]
      · simp (decide := true) only [f_X11_merge_204, f_X11_merge_156, f_X11_merge_149, f_X11_merge_89, f_X11_merge_84, f_X11_merge_41, f_X11_merge_21, f_X11_merge_20, f_X11_merge, nz_0, nz_1, rz_bI, rz_0, rz_1, bI_eq0, bI_t, bI_f, bI_ri, bI_ex, bR_ra, bR_ex, bV_rt, bV_ex, bW_rt, bJ_ri, bIx_ri, bIx_ex, bVx_rt, bVx_ex, gi_ne, gi_eq, gi_sr, gi_sl, gi_th, gi_op, gr_si, gr_sl, gr_th, gr_op, gr_ne, gl_si, gl_sr, gl_th, gl_op, gl_eq, gi_al, gr_al, gl_al, nx_si, nx_sr, nx_sl, nx_th, nx_op, nx_al, nx_als, nc_si, nc_sr, nc_sl, nc_th, nc_op, nc_al, ns_si, ns_sr, ns_sl, ns_th, ns_op, ns_al, gi_neI, aI_31, sZ_31, aI_32, sI_32, aI_33, sI_33, aI_34, sI_34, aI_35, sI_35, aI_36, sI_36, aI_37, sI_37, aI_38, sZ_38, aI_39, sI_39, aI_40, sI_40, aI_41, sI_41, aI_42, sZ_42, aI_43, sZ_43, aI_44, sI_44, aI_45, sI_45, aI_46, sI_46, aI_47, sI_47, aI_48, sI_48, aI_49, sI_49, aI_50, sI_50, aI_51, sZ_51, aI_52, sZ_52, aI_53, sZ_53, aI_54, sI_54, aI_55, sI_55, aI_56, sI_56, aI_57, sI_57, aI_58, sZ_58, aI_59, sI_59, aI_60, sI_60, aI_61, sI_61, aI_62, sI_62, aI_63, sZ_63, aI_64, sZ_64, aI_65, sZ_65, aI_66, sI_66, aI_67, sI_67, aI_68, sZ_68, gI_70, gR_70, pI_70, pR_70, pZ_70, ao_70, aL_71, sL_71, pm_2 G, pm_3 G, pm_5 G, pm_6 G, pm_7 G, pm_8 G, pm_9 G, pm_10 G, pm_11 G, pm_12 G, pm_13 G, pm_14 G, pm_15 G, pm_16 G, pm_18 G, pm_19 G, pm_21 G, pm_22 G, pm_23 G, pm_25 G, pm_26 G, pm_27 G, pm_28 G, pm_31 G, pm_32 G, pm_33 G, pm_34 G, pm_35 G, pm_36 G, pm_38 G, pm_39 G, pm_40 G, pm_41 G, pm_42 G, pm_43 G, pm_44 G, pm_45 G, pm_46 G, r_isWork, r_isTag, r_isPerson, r_isFace, r_h0, r_h1, r_h2, r_h3, n10, n20, n30, n00, if_true, if_false, not_true_eq_false, not_false_eq_true, false_and, and_false, decide_false, decide_true, t2, isIx_ok (show Tn < 10000 by omega) ht, isIx_bad (show Tn < 10000 by omega) hy]
  · refine ok_ex R0 (c := 1) (b := 0) (by decide) (L_merge_x0 _ _ ?_) ?_
    · simp (decide := true) only [f_X10_merge_70, f_X10_merge, nz_0, nz_1, rz_bI, rz_0, rz_1, bI_eq0, bI_t, bI_f, bI_ri, bI_ex, bR_ra, bR_ex, bV_rt, bV_ex, bW_rt, bJ_ri, bIx_ri, bIx_ex, bVx_rt, bVx_ex, gi_ne, gi_eq, gi_sr, gi_sl, gi_th, gi_op, gr_si, gr_sl, gr_th, gr_op, gr_ne, gl_si, gl_sr, gl_th, gl_op, gl_eq, gi_al, gr_al, gl_al, nx_si, nx_sr, nx_sl, nx_th, nx_op, nx_al, nx_als, nc_si, nc_sr, nc_sl, nc_th, nc_op, nc_al, ns_si, ns_sr, ns_sl, ns_th, ns_op, ns_al, gi_neI, aR_2, sR_2, aI_3, sI_3, aI_4, sI_4, aI_5, sI_5, aI_6, sI_6, aI_7, sI_7, aI_8, sI_8, aI_9, sI_9, aI_10, sZ_10, aI_11, sI_11, aI_12, sI_12, aI_13, sI_13, aI_14, sC_14, gI_15, gR_15, pI_15, pR_15, pZ_15, ao_15, pC_15, aI_16, sI_16, aI_17, sI_17, aR_18, sR_18, aR_19, sR_19, aR_20, sR_20, gI_21, gR_21, pI_21, pR_21, pZ_21, ao_21, gI_22, gR_22, pI_22, pR_22, pZ_22, ao_22, gI_23, gR_23, pI_23, pR_23, pZ_23, ao_23, gI_24, gR_24, pI_24, pR_24, pZ_24, ao_24, aR_25, sR_25, gI_26, gR_26, pI_26, pR_26, pZ_26, ao_26, gI_27, gR_27, pI_27, pR_27, pZ_27, ao_27, gI_28, gR_28, pI_28, pR_28, pZ_28, ao_28, gI_29, gR_29, pI_29, pR_29, pZ_29, ao_29, gI_30, gR_30, pI_30, pR_30, pZ_30, ao_30, gI_69, gR_69, pI_69, pR_69, pZ_69, ao_69, pc_same H, pc_people H, pc_works H, pc_cols H, pc_tags H, pc_tape H, pc_sieve H, pc_gifts H, pc_coms H, pc_mean H, pc_par H, pc_abv H, pc_chars H, pc_scan H, pc_parts H, pc_items H, pc_nots H, pc_signs H, pc_recv H, pc_ways H, if_true, if_false, c_checkTag_bad H t1 hx]
    · simp (decide := true) only [f_X11_merge_204, f_X11_merge_156, f_X11_merge_149, f_X11_merge_89, f_X11_merge_84, f_X11_merge_41, f_X11_merge_21, f_X11_merge_20, f_X11_merge, nz_0, nz_1, rz_bI, rz_0, rz_1, bI_eq0, bI_t, bI_f, bI_ri, bI_ex, bR_ra, bR_ex, bV_rt, bV_ex, bW_rt, bJ_ri, bIx_ri, bIx_ex, bVx_rt, bVx_ex, gi_ne, gi_eq, gi_sr, gi_sl, gi_th, gi_op, gr_si, gr_sl, gr_th, gr_op, gr_ne, gl_si, gl_sr, gl_th, gl_op, gl_eq, gi_al, gr_al, gl_al, nx_si, nx_sr, nx_sl, nx_th, nx_op, nx_al, nx_als, nc_si, nc_sr, nc_sl, nc_th, nc_op, nc_al, ns_si, ns_sr, ns_sl, ns_th, ns_op, ns_al, gi_neI, aI_31, sZ_31, aI_32, sI_32, aI_33, sI_33, aI_34, sI_34, aI_35, sI_35, aI_36, sI_36, aI_37, sI_37, aI_38, sZ_38, aI_39, sI_39, aI_40, sI_40, aI_41, sI_41, aI_42, sZ_42, aI_43, sZ_43, aI_44, sI_44, aI_45, sI_45, aI_46, sI_46, aI_47, sI_47, aI_48, sI_48, aI_49, sI_49, aI_50, sI_50, aI_51, sZ_51, aI_52, sZ_52, aI_53, sZ_53, aI_54, sI_54, aI_55, sI_55, aI_56, sI_56, aI_57, sI_57, aI_58, sZ_58, aI_59, sI_59, aI_60, sI_60, aI_61, sI_61, aI_62, sI_62, aI_63, sZ_63, aI_64, sZ_64, aI_65, sZ_65, aI_66, sI_66, aI_67, sI_67, aI_68, sZ_68, gI_70, gR_70, pI_70, pR_70, pZ_70, ao_70, aL_71, sL_71, pm_2 G, pm_3 G, pm_5 G, pm_6 G, pm_7 G, pm_8 G, pm_9 G, pm_10 G, pm_11 G, pm_12 G, pm_13 G, pm_14 G, pm_15 G, pm_16 G, pm_18 G, pm_19 G, pm_21 G, pm_22 G, pm_23 G, pm_25 G, pm_26 G, pm_27 G, pm_28 G, pm_31 G, pm_32 G, pm_33 G, pm_34 G, pm_35 G, pm_36 G, pm_38 G, pm_39 G, pm_40 G, pm_41 G, pm_42 G, pm_43 G, pm_44 G, pm_45 G, pm_46 G, r_isWork, r_isTag, r_isPerson, r_isFace, r_h0, r_h1, r_h2, r_h3, n10, n20, n30, n00, if_true, if_false, not_true_eq_false, not_false_eq_true, false_and, and_false, decide_false, decide_true, t2, isIx_bad (show Tn < 10000 by omega) hx]
theorem op_parent {W Cn Tn Sn Qn : Nat} {h : am_H} (R : RR W Cn Tn Sn Qn h) (x y : Int32) (b : Bool) : OpOK h (f_G_parent (some (69, 0)) x y (bI b) (some (71, 0)) h) (f_X11_parent (70, 0) x y (bI b)) vB := by
  have R0 := R
  obtain ⟨H, G, rDay, rBlk, rSam, N, rWa, rWc, rWp, rWl, rWo, rWt, rWf, rWw, rWs, rWk, rCo, rTg, rPa, rTp, rSg, rCm, rSb, rDg, rIv⟩ := R
  have hT := rTg.1
  have t1 := rTg.2.1
  have t2 := rTg.2.2.1
  rcases ix_cases x (n := Tn) (by omega) with ⟨t, ht, rfl⟩ | hx
  · rcases ix_cases y (n := Tn) (by omega) with ⟨p, hp, rfl⟩ | hy
    · have h30 : t < 30 := by omega
      have p30 : p < 30 := by omega
      have p32 : p < 32 := by omega
      have t32 : t < 32 := by omega
      have ix1 := isIx_ok (show Tn < 10000 by omega) ht
      have ix2 := isIx_ok (show Tn < 10000 by omega) hp
      by_cases hne : t = p
      · subst hne
        refine ok_ex R0 (c := 2) (b := 0) (by decide) (L_parent_x1 _ _ _ ?_) ?_
        · simp (decide := true) only [f_X10_parent_106, f_X10_parent_75, f_X10_parent_65, f_X10_parent, nz_0, nz_1, rz_bI, rz_0, rz_1, bI_eq0, bI_t, bI_f, bI_ri, bI_ex, bR_ra, bR_ex, bV_rt, bV_ex, bW_rt, bJ_ri, bIx_ri, bIx_ex, bVx_rt, bVx_ex, gi_ne, gi_eq, gi_sr, gi_sl, gi_th, gi_op, gr_si, gr_sl, gr_th, gr_op, gr_ne, gl_si, gl_sr, gl_th, gl_op, gl_eq, gi_al, gr_al, gl_al, nx_si, nx_sr, nx_sl, nx_th, nx_op, nx_al, nx_als, nc_si, nc_sr, nc_sl, nc_th, nc_op, nc_al, ns_si, ns_sr, ns_sl, ns_th, ns_op, ns_al, gi_neI, aR_2, sR_2, aI_3, sI_3, aI_4, sI_4, aI_5, sI_5, aI_6, sI_6, aI_7, sI_7, aI_8, sI_8, aI_9, sI_9, aI_10, sZ_10, aI_11, sI_11, aI_12, sI_12, aI_13, sI_13, aI_14, sC_14, gI_15, gR_15, pI_15, pR_15, pZ_15, ao_15, pC_15, aI_16, sI_16, aI_17, sI_17, aR_18, sR_18, aR_19, sR_19, aR_20, sR_20, gI_21, gR_21, pI_21, pR_21, pZ_21, ao_21, gI_22, gR_22, pI_22, pR_22, pZ_22, ao_22, gI_23, gR_23, pI_23, pR_23, pZ_23, ao_23, gI_24, gR_24, pI_24, pR_24, pZ_24, ao_24, aR_25, sR_25, gI_26, gR_26, pI_26, pR_26, pZ_26, ao_26, gI_27, gR_27, pI_27, pR_27, pZ_27, ao_27, gI_28, gR_28, pI_28, pR_28, pZ_28, ao_28, gI_29, gR_29, pI_29, pR_29, pZ_29, ao_29, gI_30, gR_30, pI_30, pR_30, pZ_30, ao_30, gI_69, gR_69, pI_69, pR_69, pZ_69, ao_69, pc_same H, pc_people H, pc_works H, pc_cols H, pc_tags H, pc_tape H, pc_sieve H, pc_gifts H, pc_coms H, pc_mean H, pc_par H, pc_abv H, pc_chars H, pc_scan H, pc_parts H, pc_items H, pc_nots H, pc_signs H, pc_recv H, pc_ways H, if_true, if_false, c_checkTag H t1 hT ht]
        · simp (decide := true) only [f_X11_parent_153, f_X11_parent_141, f_X11_parent_93, f_X11_parent_92, f_X11_parent_88, f_X11_parent_43, f_X11_parent_21, f_X11_parent_20, f_X11_parent, nz_0, nz_1, rz_bI, rz_0, rz_1, bI_eq0, bI_t, bI_f, bI_ri, bI_ex, bR_ra, bR_ex, bV_rt, bV_ex, bW_rt, bJ_ri, bIx_ri, bIx_ex, bVx_rt, bVx_ex, gi_ne, gi_eq, gi_sr, gi_sl, gi_th, gi_op, gr_si, gr_sl, gr_th, gr_op, gr_ne, gl_si, gl_sr, gl_th, gl_op, gl_eq, gi_al, gr_al, gl_al, nx_si, nx_sr, nx_sl, nx_th, nx_op, nx_al, nx_als, nc_si, nc_sr, nc_sl, nc_th, nc_op, nc_al, ns_si, ns_sr, ns_sl, ns_th, ns_op, ns_al, gi_neI, aI_31, sZ_31, aI_32, sI_32, aI_33, sI_33, aI_34, sI_34, aI_35, sI_35, aI_36, sI_36, aI_37, sI_37, aI_38, sZ_38, aI_39, sI_39, aI_40, sI_40, aI_41, sI_41, aI_42, sZ_42, aI_43, sZ_43, aI_44, sI_44, aI_45, sI_45, aI_46, sI_46, aI_47, sI_47, aI_48, sI_48, aI_49, sI_49, aI_50, sI_50, aI_51, sZ_51, aI_52, sZ_52, aI_53, sZ_53, aI_54, sI_54, aI_55, sI_55, aI_56, sI_56, aI_57, sI_57, aI_58, sZ_58, aI_59, sI_59, aI_60, sI_60, aI_61, sI_61, aI_62, sI_62, aI_63, sZ_63, aI_64, sZ_64, aI_65, sZ_65, aI_66, sI_66, aI_67, sI_67, aI_68, sZ_68, gI_70, gR_70, pI_70, pR_70, pZ_70, ao_70, aL_71, sL_71, pm_2 G, pm_3 G, pm_5 G, pm_6 G, pm_7 G, pm_8 G, pm_9 G, pm_10 G, pm_11 G, pm_12 G, pm_13 G, pm_14 G, pm_15 G, pm_16 G, pm_18 G, pm_19 G, pm_21 G, pm_22 G, pm_23 G, pm_25 G, pm_26 G, pm_27 G, pm_28 G, pm_31 G, pm_32 G, pm_33 G, pm_34 G, pm_35 G, pm_36 G, pm_38 G, pm_39 G, pm_40 G, pm_41 G, pm_42 G, pm_43 G, pm_44 G, pm_45 G, pm_46 G, r_isWork, r_isTag, r_isPerson, r_isFace, r_h0, r_h1, r_h2, r_h3, n10, n20, n30, n00, if_true, if_false, not_true_eq_false, not_false_eq_true, false_and, and_false, decide_false, decide_true, t2, ix1]
      · have ne : (nI t = nI p) = False := by rw [i_eq (by omega) (by omega)]; exact eq_false hne
        by_cases k1 : m_gi h 47 0 t = 1
        · by_cases k2 : m_gi h 47 0 p = 1
          · by_cases bad : b = true ∧ bt (m_gi h 13 0 p) t = true
            · obtain ⟨rfl, b1⟩ := bad
              have Fx : Frm (pX [] []) h (m_si (m_op (m_th h)) 70 0 0 0) := ((Frm.refl _ h).th.op rfl).si rfl
              have x1 := r_aboveOf (h := m_si (m_op (m_th h)) 70 0 0 0) (G.frm Fx) (rTg.frm Fx) (rPa.frm Fx) p30
              refine ok_ex R0 (c := 3) (b := 0) (by decide) (L_parent_x2 _ _ _ ?_) ?_
              · simp (decide := true) only [f_X10_parent_106, f_X10_parent_75, f_X10_parent_65, f_X10_parent, nz_0, nz_1, rz_bI, rz_0, rz_1, bI_eq0, bI_t, bI_f, bI_ri, bI_ex, bR_ra, bR_ex, bV_rt, bV_ex, bW_rt, bJ_ri, bIx_ri, bIx_ex, bVx_rt, bVx_ex, gi_ne, gi_eq, gi_sr, gi_sl, gi_th, gi_op, gr_si, gr_sl, gr_th, gr_op, gr_ne, gl_si, gl_sr, gl_th, gl_op, gl_eq, gi_al, gr_al, gl_al, nx_si, nx_sr, nx_sl, nx_th, nx_op, nx_al, nx_als, nc_si, nc_sr, nc_sl, nc_th, nc_op, nc_al, ns_si, ns_sr, ns_sl, ns_th, ns_op, ns_al, gi_neI, aR_2, sR_2, aI_3, sI_3, aI_4, sI_4, aI_5, sI_5, aI_6, sI_6, aI_7, sI_7, aI_8, sI_8, aI_9, sI_9, aI_10, sZ_10, aI_11, sI_11, aI_12, sI_12, aI_13, sI_13, aI_14, sC_14, gI_15, gR_15, pI_15, pR_15, pZ_15, ao_15, pC_15, aI_16, sI_16, aI_17, sI_17, aR_18, sR_18, aR_19, sR_19, aR_20, sR_20, gI_21, gR_21, pI_21, pR_21, pZ_21, ao_21, gI_22, gR_22, pI_22, pR_22, pZ_22, ao_22, gI_23, gR_23, pI_23, pR_23, pZ_23, ao_23, gI_24, gR_24, pI_24, pR_24, pZ_24, ao_24, aR_25, sR_25, gI_26, gR_26, pI_26, pR_26, pZ_26, ao_26, gI_27, gR_27, pI_27, pR_27, pZ_27, ao_27, gI_28, gR_28, pI_28, pR_28, pZ_28, ao_28, gI_29, gR_29, pI_29, pR_29, pZ_29, ao_29, gI_30, gR_30, pI_30, pR_30, pZ_30, ao_30, gI_69, gR_69, pI_69, pR_69, pZ_69, ao_69, pc_same H, pc_people H, pc_works H, pc_cols H, pc_tags H, pc_tape H, pc_sieve H, pc_gifts H, pc_coms H, pc_mean H, pc_par H, pc_abv H, pc_chars H, pc_scan H, pc_parts H, pc_items H, pc_nots H, pc_signs H, pc_recv H, pc_ways H, if_true, if_false, c_checkTag H t1 hT ht, c_checkTag H t1 hT hp, ne, c_kindOf H rTg ht, c_kindOf H rTg hp, k1, k2, c_isAbove H p30 t32, b1]
              · simp (decide := true) only [f_X11_parent_153, f_X11_parent_141, f_X11_parent_93, f_X11_parent_92, f_X11_parent_88, f_X11_parent_43, f_X11_parent_21, f_X11_parent_20, f_X11_parent, nz_0, nz_1, rz_bI, rz_0, rz_1, bI_eq0, bI_t, bI_f, bI_ri, bI_ex, bR_ra, bR_ex, bV_rt, bV_ex, bW_rt, bJ_ri, bIx_ri, bIx_ex, bVx_rt, bVx_ex, gi_ne, gi_eq, gi_sr, gi_sl, gi_th, gi_op, gr_si, gr_sl, gr_th, gr_op, gr_ne, gl_si, gl_sr, gl_th, gl_op, gl_eq, gi_al, gr_al, gl_al, nx_si, nx_sr, nx_sl, nx_th, nx_op, nx_al, nx_als, nc_si, nc_sr, nc_sl, nc_th, nc_op, nc_al, ns_si, ns_sr, ns_sl, ns_th, ns_op, ns_al, gi_neI, aI_31, sZ_31, aI_32, sI_32, aI_33, sI_33, aI_34, sI_34, aI_35, sI_35, aI_36, sI_36, aI_37, sI_37, aI_38, sZ_38, aI_39, sI_39, aI_40, sI_40, aI_41, sI_41, aI_42, sZ_42, aI_43, sZ_43, aI_44, sI_44, aI_45, sI_45, aI_46, sI_46, aI_47, sI_47, aI_48, sI_48, aI_49, sI_49, aI_50, sI_50, aI_51, sZ_51, aI_52, sZ_52, aI_53, sZ_53, aI_54, sI_54, aI_55, sI_55, aI_56, sI_56, aI_57, sI_57, aI_58, sZ_58, aI_59, sI_59, aI_60, sI_60, aI_61, sI_61, aI_62, sI_62, aI_63, sZ_63, aI_64, sZ_64, aI_65, sZ_65, aI_66, sI_66, aI_67, sI_67, aI_68, sZ_68, gI_70, gR_70, pI_70, pR_70, pZ_70, ao_70, aL_71, sL_71, pm_2 G, pm_3 G, pm_5 G, pm_6 G, pm_7 G, pm_8 G, pm_9 G, pm_10 G, pm_11 G, pm_12 G, pm_13 G, pm_14 G, pm_15 G, pm_16 G, pm_18 G, pm_19 G, pm_21 G, pm_22 G, pm_23 G, pm_25 G, pm_26 G, pm_27 G, pm_28 G, pm_31 G, pm_32 G, pm_33 G, pm_34 G, pm_35 G, pm_36 G, pm_38 G, pm_39 G, pm_40 G, pm_41 G, pm_42 G, pm_43 G, pm_44 G, pm_45 G, pm_46 G, r_isWork, r_isTag, r_isPerson, r_isFace, r_h0, r_h1, r_h2, r_h3, n10, n20, n30, n00, if_true, if_false, not_true_eq_false, not_false_eq_true, false_and, and_false, decide_false, decide_true, t2, ix1, ix2, ne, h30, p30, k1, k2, x1, r_has t32, b1, si_si]
            · have cb : b = false ∨ bt (m_gi h 13 0 p) t = false := by
                cases hb : b
                · exact Or.inl rfl
                · right
                  cases hc : bt (m_gi h 13 0 p) t
                  · rfl
                  · exact absurd ⟨hb, hc⟩ bad
              have cl : f_X10_parent (69, 0) (nI t) (nI p) (bI b) h = f_X10_parent_75 (69, 0) (nI t) (nI p) (bI b) h := by
                simp (decide := true) only [f_X10_parent, f_X10_parent_65, nz_0, nz_1, rz_bI, rz_0, rz_1, bI_eq0, bI_t, bI_f, bI_ri, bI_ex, bR_ra, bR_ex, bV_rt, bV_ex, bW_rt, bJ_ri, bIx_ri, bIx_ex, bVx_rt, bVx_ex, gi_ne, gi_eq, gi_sr, gi_sl, gi_th, gi_op, gr_si, gr_sl, gr_th, gr_op, gr_ne, gl_si, gl_sr, gl_th, gl_op, gl_eq, gi_al, gr_al, gl_al, nx_si, nx_sr, nx_sl, nx_th, nx_op, nx_al, nx_als, nc_si, nc_sr, nc_sl, nc_th, nc_op, nc_al, ns_si, ns_sr, ns_sl, ns_th, ns_op, ns_al, aR_2, sR_2, aI_3, sI_3, aI_4, sI_4, aI_5, sI_5, aI_6, sI_6, aI_7, sI_7, aI_8, sI_8, aI_9, sI_9, aI_10, sZ_10, aI_11, sI_11, aI_12, sI_12, aI_13, sI_13, aI_14, sC_14, gI_15, gR_15, pI_15, pR_15, pZ_15, ao_15, pC_15, aI_16, sI_16, aI_17, sI_17, aR_18, sR_18, aR_19, sR_19, aR_20, sR_20, gI_21, gR_21, pI_21, pR_21, pZ_21, ao_21, gI_22, gR_22, pI_22, pR_22, pZ_22, ao_22, gI_23, gR_23, pI_23, pR_23, pZ_23, ao_23, gI_24, gR_24, pI_24, pR_24, pZ_24, ao_24, aR_25, sR_25, gI_26, gR_26, pI_26, pR_26, pZ_26, ao_26, gI_27, gR_27, pI_27, pR_27, pZ_27, ao_27, gI_28, gR_28, pI_28, pR_28, pZ_28, ao_28, gI_29, gR_29, pI_29, pR_29, pZ_29, ao_29, gI_30, gR_30, pI_30, pR_30, pZ_30, ao_30, gI_69, gR_69, pI_69, pR_69, pZ_69, ao_69, pc_same H, pc_people H, pc_works H, pc_cols H, pc_tags H, pc_tape H, pc_sieve H, pc_gifts H, pc_coms H, pc_mean H, pc_par H, pc_abv H, pc_chars H, pc_scan H, pc_parts H, pc_items H, pc_nots H, pc_signs H, pc_recv H, pc_ways H, c_checkTag H t1 hT ht, c_checkTag H t1 hT hp, ne, c_kindOf H rTg ht, c_kindOf H rTg hp, k1, k2, if_true, if_false, c_isAbove H p30 t32]
                rcases cb with q | q
                · rw [if_pos q]
                · rw [q, if_pos rfl, ite_self]
              have rl : ∀ {P : Nat → Nat → Bool} {g : am_H}, P = pX [(27, 9)] [11, 12, 13] → Frm P h g → f_X11_parent (70, 0) (nI t) (nI p) (bI b) g = f_X11_parent_92 (70, 0) (nI t) (nI p) (bI b) (some (70, 0)) (m_si g 70 0 0 0) := fun {P g} hP F => by
                subst hP
                have Fc := F.si (s := 70) (k := 0) (j := 0) (v := 0) rfl
                have y1 : f_X11_aboveOf (70, 0) (nI p) (m_si g 70 0 0 0) = m_ri (m_si g 70 0 0 0) (m_gi h 13 0 p) := r_abvF Fc G rTg rPa p30
                have f47 : ∀ j, m_gi g 47 0 j = m_gi h 47 0 j := fun j => F.1 47 0 j rfl
                have f20 : m_gi g 70 0 20 = nI Tn := (F.1 70 0 20 rfl).trans t2
                have G1 : ShM g := G.frm F
                simp (decide := true) only [f_X11_parent, f_X11_parent_20, f_X11_parent_21, f_X11_parent_43, f_X11_parent_88, ao_70, r_isTag, f20, ix1, ix2, bI_ri, bI_t, n10, if_false, ne, r_h0, gR_70, gr_si, pm_21 G1, aI_47 h30, aI_47 p30, gi_ne, f47, k1, k2, if_true, y1, r_has t32, bI_eq0]
                rcases cb with q | q
                · rw [if_pos q]
                · rw [q, if_pos rfl, ite_self]
              by_cases eq : bt (m_gi h 12 0 t) p = b
              · skip
                have eq' : bt (m_gi h 49 0 t) p = b := by rw [← rPa.1 t h30]; exact eq
                refine ok_u (h1 := h) (b := (bI b)) (h2 := (m_si (m_si (m_sl h 71 0 0 (vB (bI b))) 70 0 0 0) 49 0 t (m_gi h 49 0 t))) (L_parent_ret _ _ _ ?_) ?_ rfl rfl rfl rfl (Nat.le_add_right _ _) (Nat.le_add_right _ _) ?_
                · rw [cl]
                  simp (decide := true) only [f_X10_parent_75, f_X10_parent_106, nz_0, nz_1, rz_bI, rz_0, rz_1, bI_eq0, bI_t, bI_f, bI_ri, bI_ex, bR_ra, bR_ex, bV_rt, bV_ex, bW_rt, bJ_ri, bIx_ri, bIx_ex, bVx_rt, bVx_ex, gi_ne, gi_eq, gi_sr, gi_sl, gi_th, gi_op, gr_si, gr_sl, gr_th, gr_op, gr_ne, gl_si, gl_sr, gl_th, gl_op, gl_eq, gi_al, gr_al, gl_al, nx_si, nx_sr, nx_sl, nx_th, nx_op, nx_al, nx_als, nc_si, nc_sr, nc_sl, nc_th, nc_op, nc_al, ns_si, ns_sr, ns_sl, ns_th, ns_op, ns_al, aR_2, sR_2, aI_3, sI_3, aI_4, sI_4, aI_5, sI_5, aI_6, sI_6, aI_7, sI_7, aI_8, sI_8, aI_9, sI_9, aI_10, sZ_10, aI_11, sI_11, aI_12, sI_12, aI_13, sI_13, aI_14, sC_14, gI_15, gR_15, pI_15, pR_15, pZ_15, ao_15, pC_15, aI_16, sI_16, aI_17, sI_17, aR_18, sR_18, aR_19, sR_19, aR_20, sR_20, gI_21, gR_21, pI_21, pR_21, pZ_21, ao_21, gI_22, gR_22, pI_22, pR_22, pZ_22, ao_22, gI_23, gR_23, pI_23, pR_23, pZ_23, ao_23, gI_24, gR_24, pI_24, pR_24, pZ_24, ao_24, aR_25, sR_25, gI_26, gR_26, pI_26, pR_26, pZ_26, ao_26, gI_27, gR_27, pI_27, pR_27, pZ_27, ao_27, gI_28, gR_28, pI_28, pR_28, pZ_28, ao_28, gI_29, gR_29, pI_29, pR_29, pZ_29, ao_29, gI_30, gR_30, pI_30, pR_30, pZ_30, ao_30, gI_69, gR_69, pI_69, pR_69, pZ_69, ao_69, pc_same H, pc_people H, pc_works H, pc_cols H, pc_tags H, pc_tape H, pc_sieve H, pc_gifts H, pc_coms H, pc_mean H, pc_par H, pc_abv H, pc_chars H, pc_scan H, pc_parts H, pc_items H, pc_nots H, pc_signs H, pc_recv H, pc_ways H, c_isParent H h30 p32, eq, if_true]
                · rw [rl rfl (g := m_sl h 71 0 0 (vB (bI b))) (Frm.refl _ h).sl]
                  have w := wi_r (m_gi h 49 0 t) p32 b
                  rw [← eq', wi_same p32, eq'] at w
                  have fin : ∀ K : Int32, (m_gi h 49 0 t &&& (one p ^^^ (-1))) ||| K = m_gi h 49 0 t → f_X11_parent_141 (70, 0) (bI b) (bI b) K (m_gi h 49 0 t &&& (one p ^^^ (-1))) (nI t) (some (49, 0)) (m_si (m_sl h 71 0 0 (vB (bI b))) 70 0 0 0) = m_ri (m_si (m_si (m_sl h 71 0 0 (vB (bI b))) 70 0 0 0) 49 0 t (m_gi h 49 0 t)) (bI b) := fun K hK => by
                    rw [f_X11_parent_141, sI_49 h30, hK, if_pos rfl, f_X11_parent_153, rz_bI]
                  have c1 : f_X11_parent_92 (70, 0) (nI t) (nI p) (bI b) (some (70, 0)) (m_si (m_sl h 71 0 0 (vB (bI b))) 70 0 0 0) = f_X11_parent_141 (70, 0) (bI b) (bI b) (if b then one p else 0) (m_gi h 49 0 t &&& (one p ^^^ (-1))) (nI t) (some (49, 0)) (m_si (m_sl h 71 0 0 (vB (bI b))) 70 0 0 0) := by
                    simp (decide := true) only [f_X11_parent_92, f_X11_parent_93, ao_70, r_h0, si_si, bI_ri, n10, if_false, gR_70, gr_si, gr_sl, pm_23 G, aI_49 h30, gi_ne, gi_sl, r_has p32, eq', one_eq, bI_eq0]
                    cases b <;> rfl
                  rw [c1]
                  exact fin _ w
                · have F : Frm (pX [] [49]) h (m_si (m_si (m_sl h 71 0 0 (vB (bI b))) 70 0 0 0) 49 0 t (m_gi h 49 0 t)) := ((((Frm.refl _ h).sl).si rfl).si rfl)
                  have e49 : ∀ j, m_gi (m_si (m_si (m_sl h 71 0 0 (vB (bI b))) 70 0 0 0) 49 0 t (m_gi h 49 0 t)) 49 0 j = m_gi h 49 0 j := fun j => by
                    rw [gi_upJ]
                    split
                    · rename_i e; rw [e]
                    · rfl
                  refine ⟨W, Cn, Tn, Sn, Qn, ⟨H.frm F, G.frm F, rDay.frm F, rBlk.frm F, rSam.frm F, N.frm F, rWa.frm F, rWc.frm F, rWp.frm F, rWl.frm F, rWo.frm F, rWt.frm F, rWf.frm F, rWw.frm F, rWs.frm F, rWk.frm F, rCo.frm F, rTg.frm F, ?_, rTp.frm F, rSg.frm F, rCm.frm F, rSb.frm F, rDg.frm F, rIv.frm F⟩⟩
                  refine ⟨fun u hu => by rw [e49]; exact rPa.1 u hu, fun u v hu hb => by rw [e49] at hb; exact rPa.2.1 u v hu hb, fun u v hu hv => by simp only [e49]; exact rPa.2.2 u v hu hv⟩
              · skip
                have eqI : (bI (bt (m_gi h 12 0 t) p) = bI b) = False := by rw [bI_inj]; exact eq_false eq
                have Fa : Frm (pX [] [12]) h (m_si h 12 0 t (wi (m_gi h 12 0 t) p b)) := ((Frm.refl _ h).si rfl)
                have a12 : ∀ j, m_gi (m_si h 12 0 t (wi (m_gi h 12 0 t) p b)) 12 0 j = if j = t then wi (m_gi h 12 0 t) p b else m_gi h 12 0 j := fun j => gi_upJ
                obtain ⟨g1, r1, F1, u13⟩ := c_findAbove (h := (m_si h 12 0 t (wi (m_gi h 12 0 t) p b))) hT (H.frm Fa) ((Fa.1 21 0 0 rfl).trans t1) (fun a c ha hb => by
                  rw [a12] at hb
                  by_cases e : a = t
                  · omega
                  · rw [if_neg e, rPa.1 a ha] at hb; exact (rPa.2.1 a c ha hb).1)
                have F1' : Frm (pX [] [12, 13]) h g1 := Fa.up.trans F1.1.up
                obtain ⟨h1, r2, F2, w1⟩ := c_letWait (h := g1) (W := W) (H.frm F1') (N.frm F1') (rWw.frm F1') (fun k hk => by rw [F1'.1 27 k 7 rfl, F1'.1 40 0 k rfl]; exact rWt.1 k hk)
                have F12 : Frm (pX [(27, 9)] [11, 12, 13]) h h1 := F1'.up.trans F2.1.up
                have Fc : Frm (pX [(27, 9)] [11, 12, 13]) h (m_si (m_sl h1 71 0 0 (vB (bI (bt (m_gi h 12 0 t) p)))) 70 0 0 0) := F12.sl.si rfl
                have Fd : Frm (pX [(27, 9)] [11, 12, 13, 49]) h (m_si (m_si (m_sl h1 71 0 0 (vB (bI (bt (m_gi h 12 0 t) p)))) 70 0 0 0) 49 0 t (wi (m_gi h 49 0 t) p b)) := Fc.up.si rfl
                obtain ⟨h2, r3, F3, w2⟩ := r_letsWait (h := (m_si (m_si (m_sl h1 71 0 0 (vB (bI (bt (m_gi h 12 0 t) p)))) 70 0 0 0) 49 0 t (wi (m_gi h 49 0 t) p b))) (W := W) (G.frm Fd) ((Fd.1 70 0 4 rfl).trans N.2.2.1) N.1
                have F : Frm (pX [(27, 9)] [11, 12, 13, 49, 42]) h h2 := Fd.up.trans F3.1.up
                have Gc : ShM (m_si (m_sl h1 71 0 0 (vB (bI (bt (m_gi h 12 0 t) p)))) 70 0 0 0) := G.frm Fc
                have c49 : m_gi (m_si (m_sl h1 71 0 0 (vB (bI (bt (m_gi h 12 0 t) p)))) 70 0 0 0) 49 0 t = m_gi h 49 0 t := Fc.1 49 0 t rfl
                have b49 : bt (m_gi h 49 0 t) p = bt (m_gi h 12 0 t) p := by rw [rPa.1 t h30]
                refine ok_u (h1 := h1) (b := (bI (bt (m_gi h 12 0 t) p))) (h2 := h2) (L_parent_ret _ _ _ ?_) ?_ (F3.2.2.2.2.trans ?_) ((congrFun (congrFun (congrFun F3.2.1 71) 0) 0).trans gl_eq) F12.g1 F.g1 ?_ ?_ ?_
                · rw [cl]
                  have w3 : ∀ {x : Int32} {i : Nat} {g2 : am_H}, f_X10_with x (nI i) (bI b) g2 = m_ri g2 (wi x i b) := c_with (b := b)
                  simp (decide := true) only [f_X10_parent_75, f_X10_parent_106, f_X7_setParent, nz_0, nz_1, rz_bI, rz_0, rz_1, bI_eq0, bI_t, bI_f, bI_ri, bI_ex, bR_ra, bR_ex, bV_rt, bV_ex, bW_rt, bJ_ri, bIx_ri, bIx_ex, bVx_rt, bVx_ex, gi_ne, gi_eq, gi_sr, gi_sl, gi_th, gi_op, gr_si, gr_sl, gr_th, gr_op, gr_ne, gl_si, gl_sr, gl_th, gl_op, gl_eq, gi_al, gr_al, gl_al, nx_si, nx_sr, nx_sl, nx_th, nx_op, nx_al, nx_als, nc_si, nc_sr, nc_sl, nc_th, nc_op, nc_al, ns_si, ns_sr, ns_sl, ns_th, ns_op, ns_al, aR_2, sR_2, aI_3, sI_3, aI_4, sI_4, aI_5, sI_5, aI_6, sI_6, aI_7, sI_7, aI_8, sI_8, aI_9, sI_9, aI_10, sZ_10, aI_11, sI_11, aI_12, sI_12, aI_13, sI_13, aI_14, sC_14, gI_15, gR_15, pI_15, pR_15, pZ_15, ao_15, pC_15, aI_16, sI_16, aI_17, sI_17, aR_18, sR_18, aR_19, sR_19, aR_20, sR_20, gI_21, gR_21, pI_21, pR_21, pZ_21, ao_21, gI_22, gR_22, pI_22, pR_22, pZ_22, ao_22, gI_23, gR_23, pI_23, pR_23, pZ_23, ao_23, gI_24, gR_24, pI_24, pR_24, pZ_24, ao_24, aR_25, sR_25, gI_26, gR_26, pI_26, pR_26, pZ_26, ao_26, gI_27, gR_27, pI_27, pR_27, pZ_27, ao_27, gI_28, gR_28, pI_28, pR_28, pZ_28, ao_28, gI_29, gR_29, pI_29, pR_29, pZ_29, ao_29, gI_30, gR_30, pI_30, pR_30, pZ_30, ao_30, gI_69, gR_69, pI_69, pR_69, pZ_69, ao_69, pc_same H, pc_people H, pc_works H, pc_cols H, pc_tags H, pc_tape H, pc_sieve H, pc_gifts H, pc_coms H, pc_mean H, pc_par H, pc_abv H, pc_chars H, pc_scan H, pc_parts H, pc_items H, pc_nots H, pc_signs H, pc_recv H, pc_ways H, c_isParent H h30 p32, eqI, if_false, w3, h30, r1, r2, gr_si]
                · rw [rl rfl F12.sl]
                  have w := wi_r (m_gi h 49 0 t) p32 b
                  have fin : ∀ K : Int32, (m_gi h 49 0 t &&& (one p ^^^ (-1))) ||| K = wi (m_gi h 49 0 t) p b → f_X11_parent_141 (70, 0) (bI b) (bI (bt (m_gi h 12 0 t) p)) K (m_gi h 49 0 t &&& (one p ^^^ (-1))) (nI t) (some (49, 0)) (m_si (m_sl h1 71 0 0 (vB (bI (bt (m_gi h 12 0 t) p)))) 70 0 0 0) = m_ri h2 (bI (bt (m_gi h 12 0 t) p)) := fun K hK => by
                    rw [f_X11_parent_141, sI_49 h30, hK, if_neg (of_eq_false eqI), ao_70, r3, bV_rt, f_X11_parent_153, rz_bI]
                  have c1 : f_X11_parent_92 (70, 0) (nI t) (nI p) (bI b) (some (70, 0)) (m_si (m_sl h1 71 0 0 (vB (bI (bt (m_gi h 12 0 t) p)))) 70 0 0 0) = f_X11_parent_141 (70, 0) (bI b) (bI (bt (m_gi h 12 0 t) p)) (if b then one p else 0) (m_gi h 49 0 t &&& (one p ^^^ (-1))) (nI t) (some (49, 0)) (m_si (m_sl h1 71 0 0 (vB (bI (bt (m_gi h 12 0 t) p)))) 70 0 0 0) := by
                    simp (decide := true) only [f_X11_parent_92, f_X11_parent_93, ao_70, r_h0, si_si, bI_ri, n10, if_false, gR_70, pm_23 Gc, aI_49 h30, c49, r_has p32, b49, one_eq, bI_eq0]
                    cases b <;> rfl
                  rw [c1]
                  exact fin _ w
                · rfl
                · rw [F3.2.2.1]; show m_nc h1 ≤ _; rw [F2.2.2.1, F1.2.2.1]; exact Nat.le_add_right _ _
                · rw [F3.2.2.2.1]; show m_ns h1 ≤ _; rw [F2.2.2.2.1, F1.2.2.2.1]; exact Nat.le_add_right _ _
                · have z12 : ∀ j, m_gi h2 12 0 j = if j = t then wi (m_gi h 12 0 t) p b else m_gi h 12 0 j := fun j => by
                    rw [F3.1.1 12 0 j rfl]
                    show m_gi h1 12 0 j = _
                    rw [F2.1.1 12 0 j rfl, F1.1.1 12 0 j rfl, a12]
                  have z49 : ∀ j, m_gi h2 49 0 j = if j = t then wi (m_gi h 49 0 t) p b else m_gi h 49 0 j := fun j => by
                    rw [F3.1.1 49 0 j rfl, gi_upJ, Fc.1 49 0 j rfl]
                  have z47 : ∀ j, m_gi h2 47 0 j = m_gi h 47 0 j := fun j => F.1 47 0 j rfl
                  have z11 : ∀ j, m_gi h2 11 0 j = m_gi h 11 0 j := fun j => by
                    rw [F3.1.1 11 0 j rfl]
                    show m_gi h1 11 0 j = _
                    rw [F2.1.1 11 0 j rfl, F1'.1 11 0 j rfl]
                  have z48 : ∀ j, m_gi h2 48 0 j = m_gi h 48 0 j := fun j => F.1 48 0 j rfl
                  have z9 : ∀ j, j < W → m_gi h2 27 j 9 = bI (wtP h j) := fun j hj => by
                    rw [F3.1.1 27 j 9 rfl]
                    show m_gi h1 27 j 9 = _
                    rw [w1 j hj]
                    congr 1
                    unfold wtP
                    rw [F1'.1 42 0 j rfl, F1'.1 40 0 j rfl]
                  have z42 : ∀ j, m_gi h2 42 0 j = if j < W then bI (wtP h j) else m_gi h 42 0 j := fun j => by
                    rw [w2]
                    have q1 : wtP (m_si (m_si (m_sl h1 71 0 0 (vB (bI (bt (m_gi h 12 0 t) p)))) 70 0 0 0) 49 0 t (wi (m_gi h 49 0 t) p b)) j = wtP h j := by
                      unfold wtP
                      rw [Fd.1 42 0 j rfl, Fd.1 40 0 j rfl]
                    rw [q1, Fd.1 42 0 j rfl]
                  have agree : ∀ u, u < 30 → m_gi h2 12 0 u = m_gi h2 49 0 u := fun u hu => by rw [z12, z49, rPa.1 u hu, rPa.1 t h30]
                  have rPa2 : RPa Tn h2 := by
                    refine ⟨agree, fun u w hu hb => ?_, fun u w hu hw => ?_⟩
                    · rw [z47, z47]
                      rw [z49] at hb
                      by_cases e : u = t
                      · subst e
                        rw [if_pos rfl] at hb
                        have w32 : w < 32 := by
                          rcases Nat.lt_or_ge w 32 with q | q
                          · exact q
                          · rw [b_big q] at hb; cases hb
                        rw [bt_wi _ p32 _ w32] at hb
                        by_cases ew : w = p
                        · subst ew; exact ⟨ht, hp, k1, k2⟩
                        · rw [if_neg ew] at hb; exact rPa.2.1 u w hu hb
                      · rw [if_neg e] at hb; exact rPa.2.1 u w hu hb
                    · rw [F3.1.1 13 0 u rfl]
                      show bt (m_gi h1 13 0 u) w = true ↔ _
                      rw [F2.1.1 13 0 u rfl, u13 u w hu hw, ← tg_congr agree]
                      have : (fun a c => a < 30 ∧ bt (m_gi (m_si h 12 0 t (wi (m_gi h 12 0 t) p b)) 12 0 a) c = true) = (fun a c => a < 30 ∧ bt (m_gi h2 12 0 a) c = true) := by
                        funext a c
                        rw [z12, a12]
                      rw [this]
                  have rAc : ∀ u, u < 30 → bt (m_gi h2 13 0 u) u = false := fun u hu => by
                    cases hc : bt (m_gi h2 13 0 u) u
                    · rfl
                    · have g1 := (rPa2.2.2 u u hu (by omega)).mp hc
                      have g2 : Relation.TransGen (fun a b => a < 30 ∧ bt (m_gi h 49 0 a) b = true) u u ∨ (b = true ∧ ((u = t ∨ Relation.TransGen (fun a b => a < 30 ∧ bt (m_gi h 49 0 a) b = true) u t) ∧ (u = p ∨ Relation.TransGen (fun a b => a < 30 ∧ bt (m_gi h 49 0 a) b = true) p u))) := by
                        have w : ∀ a c, (a < 30 ∧ bt (m_gi h2 49 0 a) c = true) → (a < 30 ∧ bt (m_gi h 49 0 a) c = true) ∨ (b = true ∧ a = t ∧ c = p) := fun a c z => by
                          obtain ⟨z1, z2⟩ := z
                          rw [z49] at z2
                          by_cases e : a = t
                          · rw [if_pos e] at z2
                            have c32 : c < 32 := by
                              rcases Nat.lt_or_ge c 32 with q | q
                              · exact q
                              · rw [b_big q] at z2; cases z2
                            rw [bt_wi _ p32 _ c32] at z2
                            by_cases ec : c = p
                            · rw [if_pos ec] at z2; exact Or.inr ⟨z2, e, ec⟩
                            · rw [if_neg ec] at z2; subst e; exact Or.inl ⟨z1, z2⟩
                          · rw [if_neg e] at z2; exact Or.inl ⟨z1, z2⟩
                        cases hb : b
                        · left
                          exact tg_mono (fun a c z => (w a c z).elim id (fun y => by rw [hb] at y; cases y.1)) g1
                        · rcases ac_parent (t := t) (p := p) (fun a c z => (w a c z).imp id And.right) g1 with q | q
                          · exact Or.inl q
                          · exact Or.inr ⟨rfl, q⟩
                      rcases g2 with g2 | ⟨hb, g2, g3⟩
                      · rw [← rPa.2.2 u u hu (by omega), rIv.1 u hu] at g2; cases g2
                      · have g5 : bt (m_gi h 13 0 p) t = false := by
                          rcases cb with q | q
                          · rw [q] at hb; cases hb
                          · exact q
                        have g4 : Relation.TransGen (fun a b => a < 30 ∧ bt (m_gi h 49 0 a) b = true) p t := by
                          rcases g2 with rfl | g2
                          · rcases g3 with g3 | g3
                            · exact absurd g3 hne
                            · exact g3
                          · rcases g3 with rfl | g3
                            · exact g2
                            · exact Relation.TransGen.trans g3 g2
                        rw [← rPa.2.2 p t p30 t32, g5] at g4; cases g4
                  refine ⟨W, Cn, Tn, Sn, Qn, ⟨H.frm F, G.frm F, rDay.frm F, rBlk.frm F, rSam.frm F, N.frm F, rWa.frm F, rWc.frm F, rWp.frm F, rWl.frm F, rWo.frm F, rWt.frm F, rWf.frm F, ?_, rWs.frm F, rWk.frm F, rCo.frm F, ?_, rPa2, rTp.frm F, rSg.frm F, rCm.frm F, rSb.frm F, rDg.frm F, rIv.wait (fun k => F.1 40 0 k rfl) (fun k => F.1 41 0 k rfl) (fun k hk hw => by rw [z42, if_pos hk] at hw; exact wtP_0 hw) rAc⟩⟩
                  · refine ⟨fun j hj => by rw [z9 j hj, z42, if_pos hj], fun j hj => ?_, fun j a b => by rw [z42, if_neg (by omega)]; exact rWw.2.2 j a b⟩
                    rw [z42]
                    split
                    · exact nz_bI _
                    · exact rWw.2.1 j hj
                  · refine ⟨hT, (F.1 21 0 0 rfl).trans t1, (F.1 70 0 20 rfl).trans t2, fun u hu => ?_, fun u a b => by rw [z47]; exact rTg.2.2.2.2 u a b⟩
                    simp only [z11, z47, z48]; exact rTg.2.2.2.1 u hu
          · refine ok_ex R0 (c := 3) (b := 0) (by decide) (L_parent_x2 _ _ _ ?_) ?_
            · simp (decide := true) only [f_X10_parent_106, f_X10_parent_75, f_X10_parent_65, f_X10_parent, nz_0, nz_1, rz_bI, rz_0, rz_1, bI_eq0, bI_t, bI_f, bI_ri, bI_ex, bR_ra, bR_ex, bV_rt, bV_ex, bW_rt, bJ_ri, bIx_ri, bIx_ex, bVx_rt, bVx_ex, gi_ne, gi_eq, gi_sr, gi_sl, gi_th, gi_op, gr_si, gr_sl, gr_th, gr_op, gr_ne, gl_si, gl_sr, gl_th, gl_op, gl_eq, gi_al, gr_al, gl_al, nx_si, nx_sr, nx_sl, nx_th, nx_op, nx_al, nx_als, nc_si, nc_sr, nc_sl, nc_th, nc_op, nc_al, ns_si, ns_sr, ns_sl, ns_th, ns_op, ns_al, gi_neI, aR_2, sR_2, aI_3, sI_3, aI_4, sI_4, aI_5, sI_5, aI_6, sI_6, aI_7, sI_7, aI_8, sI_8, aI_9, sI_9, aI_10, sZ_10, aI_11, sI_11, aI_12, sI_12, aI_13, sI_13, aI_14, sC_14, gI_15, gR_15, pI_15, pR_15, pZ_15, ao_15, pC_15, aI_16, sI_16, aI_17, sI_17, aR_18, sR_18, aR_19, sR_19, aR_20, sR_20, gI_21, gR_21, pI_21, pR_21, pZ_21, ao_21, gI_22, gR_22, pI_22, pR_22, pZ_22, ao_22, gI_23, gR_23, pI_23, pR_23, pZ_23, ao_23, gI_24, gR_24, pI_24, pR_24, pZ_24, ao_24, aR_25, sR_25, gI_26, gR_26, pI_26, pR_26, pZ_26, ao_26, gI_27, gR_27, pI_27, pR_27, pZ_27, ao_27, gI_28, gR_28, pI_28, pR_28, pZ_28, ao_28, gI_29, gR_29, pI_29, pR_29, pZ_29, ao_29, gI_30, gR_30, pI_30, pR_30, pZ_30, ao_30, gI_69, gR_69, pI_69, pR_69, pZ_69, ao_69, pc_same H, pc_people H, pc_works H, pc_cols H, pc_tags H, pc_tape H, pc_sieve H, pc_gifts H, pc_coms H, pc_mean H, pc_par H, pc_abv H, pc_chars H, pc_scan H, pc_parts H, pc_items H, pc_nots H, pc_signs H, pc_recv H, pc_ways H, if_true, if_false, c_checkTag H t1 hT ht, c_checkTag H t1 hT hp, ne, c_kindOf H rTg ht, c_kindOf H rTg hp, k1, k2]
            · simp (decide := true) only [f_X11_parent_153, f_X11_parent_141, f_X11_parent_93, f_X11_parent_92, f_X11_parent_88, f_X11_parent_43, f_X11_parent_21, f_X11_parent_20, f_X11_parent, nz_0, nz_1, rz_bI, rz_0, rz_1, bI_eq0, bI_t, bI_f, bI_ri, bI_ex, bR_ra, bR_ex, bV_rt, bV_ex, bW_rt, bJ_ri, bIx_ri, bIx_ex, bVx_rt, bVx_ex, gi_ne, gi_eq, gi_sr, gi_sl, gi_th, gi_op, gr_si, gr_sl, gr_th, gr_op, gr_ne, gl_si, gl_sr, gl_th, gl_op, gl_eq, gi_al, gr_al, gl_al, nx_si, nx_sr, nx_sl, nx_th, nx_op, nx_al, nx_als, nc_si, nc_sr, nc_sl, nc_th, nc_op, nc_al, ns_si, ns_sr, ns_sl, ns_th, ns_op, ns_al, gi_neI, aI_31, sZ_31, aI_32, sI_32, aI_33, sI_33, aI_34, sI_34, aI_35, sI_35, aI_36, sI_36, aI_37, sI_37, aI_38, sZ_38, aI_39, sI_39, aI_40, sI_40, aI_41, sI_41, aI_42, sZ_42, aI_43, sZ_43, aI_44, sI_44, aI_45, sI_45, aI_46, sI_46, aI_47, sI_47, aI_48, sI_48, aI_49, sI_49, aI_50, sI_50, aI_51, sZ_51, aI_52, sZ_52, aI_53, sZ_53, aI_54, sI_54, aI_55, sI_55, aI_56, sI_56, aI_57, sI_57, aI_58, sZ_58, aI_59, sI_59, aI_60, sI_60, aI_61, sI_61, aI_62, sI_62, aI_63, sZ_63, aI_64, sZ_64, aI_65, sZ_65, aI_66, sI_66, aI_67, sI_67, aI_68, sZ_68, gI_70, gR_70, pI_70, pR_70, pZ_70, ao_70, aL_71, sL_71, pm_2 G, pm_3 G, pm_5 G, pm_6 G, pm_7 G, pm_8 G, pm_9 G, pm_10 G, pm_11 G, pm_12 G, pm_13 G, pm_14 G, pm_15 G, pm_16 G, pm_18 G, pm_19 G, pm_21 G, pm_22 G, pm_23 G, pm_25 G, pm_26 G, pm_27 G, pm_28 G, pm_31 G, pm_32 G, pm_33 G, pm_34 G, pm_35 G, pm_36 G, pm_38 G, pm_39 G, pm_40 G, pm_41 G, pm_42 G, pm_43 G, pm_44 G, pm_45 G, pm_46 G, r_isWork, r_isTag, r_isPerson, r_isFace, r_h0, r_h1, r_h2, r_h3, n10, n20, n30, n00, if_true, if_false, not_true_eq_false, not_false_eq_true, false_and, and_false, decide_false, decide_true, t2, ix1, ix2, ne, h30, p30, k1, k2, si_si]
        · refine ok_ex R0 (c := 3) (b := 0) (by decide) (L_parent_x2 _ _ _ ?_) ?_
          · simp (decide := true) only [f_X10_parent_106, f_X10_parent_75, f_X10_parent_65, f_X10_parent, nz_0, nz_1, rz_bI, rz_0, rz_1, bI_eq0, bI_t, bI_f, bI_ri, bI_ex, bR_ra, bR_ex, bV_rt, bV_ex, bW_rt, bJ_ri, bIx_ri, bIx_ex, bVx_rt, bVx_ex, gi_ne, gi_eq, gi_sr, gi_sl, gi_th, gi_op, gr_si, gr_sl, gr_th, gr_op, gr_ne, gl_si, gl_sr, gl_th, gl_op, gl_eq, gi_al, gr_al, gl_al, nx_si, nx_sr, nx_sl, nx_th, nx_op, nx_al, nx_als, nc_si, nc_sr, nc_sl, nc_th, nc_op, nc_al, ns_si, ns_sr, ns_sl, ns_th, ns_op, ns_al, gi_neI, aR_2, sR_2, aI_3, sI_3, aI_4, sI_4, aI_5, sI_5, aI_6, sI_6, aI_7, sI_7, aI_8, sI_8, aI_9, sI_9, aI_10, sZ_10, aI_11, sI_11, aI_12, sI_12, aI_13, sI_13, aI_14, sC_14, gI_15, gR_15, pI_15, pR_15, pZ_15, ao_15, pC_15, aI_16, sI_16, aI_17, sI_17, aR_18, sR_18, aR_19, sR_19, aR_20, sR_20, gI_21, gR_21, pI_21, pR_21, pZ_21, ao_21, gI_22, gR_22, pI_22, pR_22, pZ_22, ao_22, gI_23, gR_23, pI_23, pR_23, pZ_23, ao_23, gI_24, gR_24, pI_24, pR_24, pZ_24, ao_24, aR_25, sR_25, gI_26, gR_26, pI_26, pR_26, pZ_26, ao_26, gI_27, gR_27, pI_27, pR_27, pZ_27, ao_27, gI_28, gR_28, pI_28, pR_28, pZ_28, ao_28, gI_29, gR_29, pI_29, pR_29, pZ_29, ao_29, gI_30, gR_30, pI_30, pR_30, pZ_30, ao_30, gI_69, gR_69, pI_69, pR_69, pZ_69, ao_69, pc_same H, pc_people H, pc_works H, pc_cols H, pc_tags H, pc_tape H, pc_sieve H, pc_gifts H, pc_coms H, pc_mean H, pc_par H, pc_abv H, pc_chars H, pc_scan H, pc_parts H, pc_items H, pc_nots H, pc_signs H, pc_recv H, pc_ways H, if_true, if_false, c_checkTag H t1 hT ht, c_checkTag H t1 hT hp, ne, c_kindOf H rTg ht, c_kindOf H rTg hp, k1]
          · simp (decide := true) only [f_X11_parent_153, f_X11_parent_141, f_X11_parent_93, f_X11_parent_92, f_X11_parent_88, f_X11_parent_43, f_X11_parent_21, f_X11_parent_20, f_X11_parent, nz_0, nz_1, rz_bI, rz_0, rz_1, bI_eq0, bI_t, bI_f, bI_ri, bI_ex, bR_ra, bR_ex, bV_rt, bV_ex, bW_rt, bJ_ri, bIx_ri, bIx_ex, bVx_rt, bVx_ex, gi_ne, gi_eq, gi_sr, gi_sl, gi_th, gi_op, gr_si, gr_sl, gr_th, gr_op, gr_ne, gl_si, gl_sr, gl_th, gl_op, gl_eq, gi_al, gr_al, gl_al, nx_si, nx_sr, nx_sl, nx_th, nx_op, nx_al, nx_als, nc_si, nc_sr, nc_sl, nc_th, nc_op, nc_al, ns_si, ns_sr, ns_sl, ns_th, ns_op, ns_al, gi_neI, aI_31, sZ_31, aI_32, sI_32, aI_33, sI_33, aI_34, sI_34, aI_35, sI_35, aI_36, sI_36, aI_37, sI_37, aI_38, sZ_38, aI_39, sI_39, aI_40, sI_40, aI_41, sI_41, aI_42, sZ_42, aI_43, sZ_43, aI_44, sI_44, aI_45, sI_45, aI_46, sI_46, aI_47, sI_47, aI_48, sI_48, aI_49, sI_49, aI_50, sI_50, aI_51, sZ_51, aI_52, sZ_52, aI_53, sZ_53, aI_54, sI_54, aI_55, sI_55, aI_56, sI_56, aI_57, sI_57, aI_58, sZ_58, aI_59, sI_59, aI_60, sI_60, aI_61, sI_61, aI_62, sI_62, aI_63, sZ_63, aI_64, sZ_64, aI_65, sZ_65, aI_66, sI_66, aI_67, sI_67, aI_68, sZ_68, gI_70, gR_70, pI_70, pR_70, pZ_70, ao_70, aL_71, sL_71, pm_2 G, pm_3 G, pm_5 G, pm_6 G, pm_7 G, pm_8 G, pm_9 G, pm_10 G, pm_11 G, pm_12 G, pm_13 G, pm_14 G, pm_15 G, pm_16 G, pm_18 G, pm_19 G, pm_21 G, pm_22 G, pm_23 G, pm_25 G, pm_26 G, pm_27 G, pm_28 G, pm_31 G, pm_32 G, pm_33 G, pm_34 G, pm_35 G, pm_36 G, pm_38 G, pm_39 G, pm_40 G, pm_41 G, pm_42 G, pm_43 G, pm_44 G, pm_45 G, pm_46 G, r_isWork, r_isTag, r_isPerson, r_isFace, r_h0, r_h1, r_h2, r_h3, n10, n20, n30, n00, if_true, if_false, not_true_eq_false, not_false_eq_true, false_and, and_false, decide_false, decide_true, t2, ix1, ix2, ne, h30, p30, k1, si_si]
    · refine ok_ex R0 (c := 1) (b := 0) (by decide) (L_parent_x0 _ _ _ ?_) ?_
      · simp (decide := true) only [f_X10_parent_106, f_X10_parent_75, f_X10_parent_65, f_X10_parent, nz_0, nz_1, rz_bI, rz_0, rz_1, bI_eq0, bI_t, bI_f, bI_ri, bI_ex, bR_ra, bR_ex, bV_rt, bV_ex, bW_rt, bJ_ri, bIx_ri, bIx_ex, bVx_rt, bVx_ex, gi_ne, gi_eq, gi_sr, gi_sl, gi_th, gi_op, gr_si, gr_sl, gr_th, gr_op, gr_ne, gl_si, gl_sr, gl_th, gl_op, gl_eq, gi_al, gr_al, gl_al, nx_si, nx_sr, nx_sl, nx_th, nx_op, nx_al, nx_als, nc_si, nc_sr, nc_sl, nc_th, nc_op, nc_al, ns_si, ns_sr, ns_sl, ns_th, ns_op, ns_al, gi_neI, aR_2, sR_2, aI_3, sI_3, aI_4, sI_4, aI_5, sI_5, aI_6, sI_6, aI_7, sI_7, aI_8, sI_8, aI_9, sI_9, aI_10, sZ_10, aI_11, sI_11, aI_12, sI_12, aI_13, sI_13, aI_14, sC_14, gI_15, gR_15, pI_15, pR_15, pZ_15, ao_15, pC_15, aI_16, sI_16, aI_17, sI_17, aR_18, sR_18, aR_19, sR_19, aR_20, sR_20, gI_21, gR_21, pI_21, pR_21, pZ_21, ao_21, gI_22, gR_22, pI_22, pR_22, pZ_22, ao_22, gI_23, gR_23, pI_23, pR_23, pZ_23, ao_23, gI_24, gR_24, pI_24, pR_24, pZ_24, ao_24, aR_25, sR_25, gI_26, gR_26, pI_26, pR_26, pZ_26, ao_26, gI_27, gR_27, pI_27, pR_27, pZ_27, ao_27, gI_28, gR_28, pI_28, pR_28, pZ_28, ao_28, gI_29, gR_29, pI_29, pR_29, pZ_29, ao_29, gI_30, gR_30, pI_30, pR_30, pZ_30, ao_30, gI_69, gR_69, pI_69, pR_69, pZ_69, ao_69, pc_same H, pc_people H, pc_works H, pc_cols H, pc_tags H, pc_tape H, pc_sieve H, pc_gifts H, pc_coms H, pc_mean H, pc_par H, pc_abv H, pc_chars H, pc_scan H, pc_parts H, pc_items H, pc_nots H, pc_signs H, pc_recv H, pc_ways H, if_true, if_false, c_checkTag H t1 hT ht, c_checkTag_bad H t1 hy]
      · simp (decide := true) only [f_X11_parent_153, f_X11_parent_141, f_X11_parent_93, f_X11_parent_92, f_X11_parent_88, f_X11_parent_43, f_X11_parent_21, f_X11_parent_20, f_X11_parent, nz_0, nz_1, rz_bI, rz_0, rz_1, bI_eq0, bI_t, bI_f, bI_ri, bI_ex, bR_ra, bR_ex, bV_rt, bV_ex, bW_rt, bJ_ri, bIx_ri, bIx_ex, bVx_rt, bVx_ex, gi_ne, gi_eq, gi_sr, gi_sl, gi_th, gi_op, gr_si, gr_sl, gr_th, gr_op, gr_ne, gl_si, gl_sr, gl_th, gl_op, gl_eq, gi_al, gr_al, gl_al, nx_si, nx_sr, nx_sl, nx_th, nx_op, nx_al, nx_als, nc_si, nc_sr, nc_sl, nc_th, nc_op, nc_al, ns_si, ns_sr, ns_sl, ns_th, ns_op, ns_al, gi_neI, aI_31, sZ_31, aI_32, sI_32, aI_33, sI_33, aI_34, sI_34, aI_35, sI_35, aI_36, sI_36, aI_37, sI_37, aI_38, sZ_38, aI_39, sI_39, aI_40, sI_40, aI_41, sI_41, aI_42, sZ_42, aI_43, sZ_43, aI_44, sI_44, aI_45, sI_45, aI_46, sI_46, aI_47, sI_47, aI_48, sI_48, aI_49, sI_49, aI_50, sI_50, aI_51, sZ_51, aI_52, sZ_52, aI_53, sZ_53, aI_54, sI_54, aI_55, sI_55, aI_56, sI_56, aI_57, sI_57, aI_58, sZ_58, aI_59, sI_59, aI_60, sI_60, aI_61, sI_61, aI_62, sI_62, aI_63, sZ_63, aI_64, sZ_64, aI_65, sZ_65, aI_66, sI_66, aI_67, sI_67, aI_68, sZ_68, gI_70, gR_70, pI_70, pR_70, pZ_70, ao_70, aL_71, sL_71, pm_2 G, pm_3 G, pm_5 G, pm_6 G, pm_7 G, pm_8 G, pm_9 G, pm_10 G, pm_11 G, pm_12 G, pm_13 G, pm_14 G, pm_15 G, pm_16 G, pm_18 G, pm_19 G, pm_21 G, pm_22 G, pm_23 G, pm_25 G, pm_26 G, pm_27 G, pm_28 G, pm_31 G, pm_32 G, pm_33 G, pm_34 G, pm_35 G, pm_36 G, pm_38 G, pm_39 G, pm_40 G, pm_41 G, pm_42 G, pm_43 G, pm_44 G, pm_45 G, pm_46 G, r_isWork, r_isTag, r_isPerson, r_isFace, r_h0, r_h1, r_h2, r_h3, n10, n20, n30, n00, if_true, if_false, not_true_eq_false, not_false_eq_true, false_and, and_false, decide_false, decide_true, t2, isIx_ok (show Tn < 10000 by omega) ht, isIx_bad (show Tn < 10000 by omega) hy]
  · refine ok_ex R0 (c := 1) (b := 0) (by decide) (L_parent_x0 _ _ _ ?_) ?_
    · simp (decide := true) only [f_X10_parent_106, f_X10_parent_75, f_X10_parent_65, f_X10_parent, nz_0, nz_1, rz_bI, rz_0, rz_1, bI_eq0, bI_t, bI_f, bI_ri, bI_ex, bR_ra, bR_ex, bV_rt, bV_ex, bW_rt, bJ_ri, bIx_ri, bIx_ex, bVx_rt, bVx_ex, gi_ne, gi_eq, gi_sr, gi_sl, gi_th, gi_op, gr_si, gr_sl, gr_th, gr_op, gr_ne, gl_si, gl_sr, gl_th, gl_op, gl_eq, gi_al, gr_al, gl_al, nx_si, nx_sr, nx_sl, nx_th, nx_op, nx_al, nx_als, nc_si, nc_sr, nc_sl, nc_th, nc_op, nc_al, ns_si, ns_sr, ns_sl, ns_th, ns_op, ns_al, gi_neI, aR_2, sR_2, aI_3, sI_3, aI_4, sI_4, aI_5, sI_5, aI_6, sI_6, aI_7, sI_7, aI_8, sI_8, aI_9, sI_9, aI_10, sZ_10, aI_11, sI_11, aI_12, sI_12, aI_13, sI_13, aI_14, sC_14, gI_15, gR_15, pI_15, pR_15, pZ_15, ao_15, pC_15, aI_16, sI_16, aI_17, sI_17, aR_18, sR_18, aR_19, sR_19, aR_20, sR_20, gI_21, gR_21, pI_21, pR_21, pZ_21, ao_21, gI_22, gR_22, pI_22, pR_22, pZ_22, ao_22, gI_23, gR_23, pI_23, pR_23, pZ_23, ao_23, gI_24, gR_24, pI_24, pR_24, pZ_24, ao_24, aR_25, sR_25, gI_26, gR_26, pI_26, pR_26, pZ_26, ao_26, gI_27, gR_27, pI_27, pR_27, pZ_27, ao_27, gI_28, gR_28, pI_28, pR_28, pZ_28, ao_28, gI_29, gR_29, pI_29, pR_29, pZ_29, ao_29, gI_30, gR_30, pI_30, pR_30, pZ_30, ao_30, gI_69, gR_69, pI_69, pR_69, pZ_69, ao_69, pc_same H, pc_people H, pc_works H, pc_cols H, pc_tags H, pc_tape H, pc_sieve H, pc_gifts H, pc_coms H, pc_mean H, pc_par H, pc_abv H, pc_chars H, pc_scan H, pc_parts H, pc_items H, pc_nots H, pc_signs H, pc_recv H, pc_ways H, if_true, if_false, c_checkTag_bad H t1 hx]
    · simp (decide := true) only [f_X11_parent_153, f_X11_parent_141, f_X11_parent_93, f_X11_parent_92, f_X11_parent_88, f_X11_parent_43, f_X11_parent_21, f_X11_parent_20, f_X11_parent, nz_0, nz_1, rz_bI, rz_0, rz_1, bI_eq0, bI_t, bI_f, bI_ri, bI_ex, bR_ra, bR_ex, bV_rt, bV_ex, bW_rt, bJ_ri, bIx_ri, bIx_ex, bVx_rt, bVx_ex, gi_ne, gi_eq, gi_sr, gi_sl, gi_th, gi_op, gr_si, gr_sl, gr_th, gr_op, gr_ne, gl_si, gl_sr, gl_th, gl_op, gl_eq, gi_al, gr_al, gl_al, nx_si, nx_sr, nx_sl, nx_th, nx_op, nx_al, nx_als, nc_si, nc_sr, nc_sl, nc_th, nc_op, nc_al, ns_si, ns_sr, ns_sl, ns_th, ns_op, ns_al, gi_neI, aI_31, sZ_31, aI_32, sI_32, aI_33, sI_33, aI_34, sI_34, aI_35, sI_35, aI_36, sI_36, aI_37, sI_37, aI_38, sZ_38, aI_39, sI_39, aI_40, sI_40, aI_41, sI_41, aI_42, sZ_42, aI_43, sZ_43, aI_44, sI_44, aI_45, sI_45, aI_46, sI_46, aI_47, sI_47, aI_48, sI_48, aI_49, sI_49, aI_50, sI_50, aI_51, sZ_51, aI_52, sZ_52, aI_53, sZ_53, aI_54, sI_54, aI_55, sI_55, aI_56, sI_56, aI_57, sI_57, aI_58, sZ_58, aI_59, sI_59, aI_60, sI_60, aI_61, sI_61, aI_62, sI_62, aI_63, sZ_63, aI_64, sZ_64, aI_65, sZ_65, aI_66, sI_66, aI_67, sI_67, aI_68, sZ_68, gI_70, gR_70, pI_70, pR_70, pZ_70, ao_70, aL_71, sL_71, pm_2 G, pm_3 G, pm_5 G, pm_6 G, pm_7 G, pm_8 G, pm_9 G, pm_10 G, pm_11 G, pm_12 G, pm_13 G, pm_14 G, pm_15 G, pm_16 G, pm_18 G, pm_19 G, pm_21 G, pm_22 G, pm_23 G, pm_25 G, pm_26 G, pm_27 G, pm_28 G, pm_31 G, pm_32 G, pm_33 G, pm_34 G, pm_35 G, pm_36 G, pm_38 G, pm_39 G, pm_40 G, pm_41 G, pm_42 G, pm_43 G, pm_44 G, pm_45 G, pm_46 G, r_isWork, r_isTag, r_isPerson, r_isFace, r_h0, r_h1, r_h2, r_h3, n10, n20, n30, n00, if_true, if_false, not_true_eq_false, not_false_eq_true, false_and, and_false, decide_false, decide_true, t2, isIx_bad (show Tn < 10000 by omega) hx]
