theorem op_subscribe {W Cn Tn Sn Qn : Nat} {h : am_H} (R : RR W Cn Tn Sn Qn h) (x : Int32) (b : Bool) (y : Int32) : OpOK h (f_G_subscribe (some (69, 0)) x (bI b) y (some (71, 0)) h) (f_X11_subscribe (70, 0) x (bI b) y) vB := by
  have R0 := R
  obtain ⟨H, G, rDay, rBlk, rSam, N, rWa, rWc, rWp, rWl, rWo, rWt, rWf, rWw, rWs, rWk, rCo, rTg, rPa, rTp, rSg, rCm, rSb, rDg, rIv⟩ := R
  have hW := N.1
  obtain ⟨D, hD, d1, d2⟩ := id rDay
  have l21 : (nI D = (2001 : Int32)) = False := by
    show (nI D = nI 2001) = False
    rw [i_eq (by omega) (by omega)]; exact eq_false (by omega)
  rcases ix_cases x (n := 12) (by omega) with ⟨p, hp, rfl⟩ | hx
  · have ix := isIx_ok (show 12 < 10000 by omega) hp
    cases b with
    | true =>
      rcases ix_cases y (n := 12) (by omega) with ⟨q, hq, rfl⟩ | hy
      · have iy := isIx_ok (show 12 < 10000 by omega) hq
        have m : (12 : Int32) * nI p + nI q = nI (12 * p + q) := by
          show nI 12 * nI p + nI q = _
          rw [pk_mul, nI_add]
        have hi : 12 * p + q < 144 := by omega
        rcases rSb.2 p q hp hq with ⟨a1, a2⟩ | ⟨E, hE, a1, a2⟩
        · skip
          refine ok_u (h1 := (m_si h 6 p q (nI D))) (b := 1) (h2 := (m_si (m_si (m_sl (m_si h 6 p q (nI D)) 71 0 0 (vB 1)) 70 0 0 0) 67 0 (12 * p + q) (nI D))) (L_subscribe_ret _ _ _ ?_) ?_ rfl rfl rfl rfl (Nat.le_add_right _ _) (Nat.le_add_right _ _) ?_
          · simp (decide := true) only [f_X10_subscribe_87, f_X10_subscribe_77, f_X10_subscribe_62, f_X10_subscribe_45, f_X10_subscribe_20, f_X10_subscribe, nz_0, nz_1, rz_bI, rz_0, rz_1, bI_eq0, bI_t, bI_f, bI_ri, bI_ex, bR_ra, bR_ex, bV_rt, bV_ex, bW_rt, bJ_ri, bIx_ri, bIx_ex, bVx_rt, bVx_ex, gi_ne, gi_eq, gi_sr, gi_sl, gi_th, gi_op, gr_si, gr_sl, gr_th, gr_op, gr_ne, gl_si, gl_sr, gl_th, gl_op, gl_eq, gi_al, gr_al, gl_al, nx_si, nx_sr, nx_sl, nx_th, nx_op, nx_al, nx_als, nc_si, nc_sr, nc_sl, nc_th, nc_op, nc_al, ns_si, ns_sr, ns_sl, ns_th, ns_op, ns_al, gi_neI, aR_2, sR_2, aI_3, sI_3, aI_4, sI_4, aI_5, sI_5, aI_6, sI_6, aI_7, sI_7, aI_8, sI_8, aI_9, sI_9, aI_10, sZ_10, aI_11, sI_11, aI_12, sI_12, aI_13, sI_13, aI_14, sC_14, gI_15, gR_15, pI_15, pR_15, pZ_15, ao_15, pC_15, aI_16, sI_16, aI_17, sI_17, aR_18, sR_18, aR_19, sR_19, aR_20, sR_20, gI_21, gR_21, pI_21, pR_21, pZ_21, ao_21, gI_22, gR_22, pI_22, pR_22, pZ_22, ao_22, gI_23, gR_23, pI_23, pR_23, pZ_23, ao_23, gI_24, gR_24, pI_24, pR_24, pZ_24, ao_24, aR_25, sR_25, gI_26, gR_26, pI_26, pR_26, pZ_26, ao_26, gI_27, gR_27, pI_27, pR_27, pZ_27, ao_27, gI_28, gR_28, pI_28, pR_28, pZ_28, ao_28, gI_29, gR_29, pI_29, pR_29, pZ_29, ao_29, gI_30, gR_30, pI_30, pR_30, pZ_30, ao_30, gI_69, gR_69, pI_69, pR_69, pZ_69, ao_69, pc_same H, pc_people H, pc_works H, pc_cols H, pc_tags H, pc_tape H, pc_sieve H, pc_gifts H, pc_coms H, pc_mean H, pc_par H, pc_abv H, pc_chars H, pc_scan H, pc_parts H, pc_items H, pc_nots H, pc_signs H, pc_recv H, pc_ways H, if_true, if_false, c_checkPerson hp, c_checkPerson hq, n10, hp, hq, pc_per H hp, pc_pd H hp, a1, d1]
          · simp (decide := true) only [f_X11_subscribe_146, f_X11_subscribe_135, f_X11_subscribe_114, f_X11_subscribe_84, f_X11_subscribe_47, f_X11_subscribe_34, f_X11_subscribe_33, f_X11_subscribe_29, f_X11_subscribe, nz_0, nz_1, rz_bI, rz_0, rz_1, bI_eq0, bI_t, bI_f, bI_ri, bI_ex, bR_ra, bR_ex, bV_rt, bV_ex, bW_rt, bJ_ri, bIx_ri, bIx_ex, bVx_rt, bVx_ex, gi_ne, gi_eq, gi_sr, gi_sl, gi_th, gi_op, gr_si, gr_sl, gr_th, gr_op, gr_ne, gl_si, gl_sr, gl_th, gl_op, gl_eq, gi_al, gr_al, gl_al, nx_si, nx_sr, nx_sl, nx_th, nx_op, nx_al, nx_als, nc_si, nc_sr, nc_sl, nc_th, nc_op, nc_al, ns_si, ns_sr, ns_sl, ns_th, ns_op, ns_al, gi_neI, aI_31, sZ_31, aI_32, sI_32, aI_33, sI_33, aI_34, sI_34, aI_35, sI_35, aI_36, sI_36, aI_37, sI_37, aI_38, sZ_38, aI_39, sI_39, aI_40, sI_40, aI_41, sI_41, aI_42, sZ_42, aI_43, sZ_43, aI_44, sI_44, aI_45, sI_45, aI_46, sI_46, aI_47, sI_47, aI_48, sI_48, aI_49, sI_49, aI_50, sI_50, aI_51, sZ_51, aI_52, sZ_52, aI_53, sZ_53, aI_54, sI_54, aI_55, sI_55, aI_56, sI_56, aI_57, sI_57, aI_58, sZ_58, aI_59, sI_59, aI_60, sI_60, aI_61, sI_61, aI_62, sI_62, aI_63, sZ_63, aI_64, sZ_64, aI_65, sZ_65, aI_66, sI_66, aI_67, sI_67, aI_68, sZ_68, gI_70, gR_70, pI_70, pR_70, pZ_70, ao_70, aL_71, sL_71, pm_2 G, pm_3 G, pm_5 G, pm_6 G, pm_7 G, pm_8 G, pm_9 G, pm_10 G, pm_11 G, pm_12 G, pm_13 G, pm_14 G, pm_15 G, pm_16 G, pm_18 G, pm_19 G, pm_21 G, pm_22 G, pm_23 G, pm_25 G, pm_26 G, pm_27 G, pm_28 G, pm_31 G, pm_32 G, pm_33 G, pm_34 G, pm_35 G, pm_36 G, pm_38 G, pm_39 G, pm_40 G, pm_41 G, pm_42 G, pm_43 G, pm_44 G, pm_45 G, pm_46 G, r_isWork, r_isTag, r_isPerson, r_isFace, r_h0, r_h1, r_h2, r_h3, n10, n20, n30, n00, if_true, if_false, not_true_eq_false, not_false_eq_true, false_and, and_false, decide_false, decide_true, ix, iy, m, hi, a2, d2]
          · have F : Frm (pX [] [6, 67]) h (m_si (m_si (m_sl (m_si h 6 p q (nI D)) 71 0 0 (vB 1)) 70 0 0 0) 67 0 (12 * p + q) (nI D)) := (((((Frm.refl _ h).si rfl).sl).si rfl).si rfl)
            refine ⟨W, Cn, Tn, Sn, Qn, ⟨H.frm F, G.frm F, rDay.frm F, rBlk.frm F, rSam.frm F, N.frm F, rWa.frm F, rWc.frm F, rWp.frm F, rWl.frm F, rWo.frm F, rWt.frm F, rWf.frm F, rWw.frm F, rWs.frm F, rWk.frm F, rCo.frm F, rTg.frm F, rPa.frm F, rTp.frm F, rSg.frm F, rCm.frm F, ?_, rDg.frm F, rIv.frm F⟩⟩
            have e1 : ∀ i j, m_gi (m_si (m_si (m_sl (m_si h 6 p q (nI D)) 71 0 0 (vB 1)) 70 0 0 0) 67 0 (12 * p + q) (nI D)) 6 i j = if i = p ∧ j = q then nI D else m_gi h 6 i j := fun i j => by
              simp only [m_gi_si, gi_sl]; simp
            have e2 : ∀ j, m_gi (m_si (m_si (m_sl (m_si h 6 p q (nI D)) 71 0 0 (vB 1)) 70 0 0 0) 67 0 (12 * p + q) (nI D)) 67 0 j = if j = 12 * p + q then nI D else m_gi h 67 0 j := fun j => by
              simp only [m_gi_si, gi_sl]; simp
            have e3 : ∀ i j, m_gi (m_si (m_si (m_sl (m_si h 6 p q (nI D)) 71 0 0 (vB 1)) 70 0 0 0) 67 0 (12 * p + q) (nI D)) 5 i j = m_gi h 5 i j := fun i j => F.1 5 i j rfl
            have e4 : ∀ j, m_gi (m_si (m_si (m_sl (m_si h 6 p q (nI D)) 71 0 0 (vB 1)) 70 0 0 0) 67 0 (12 * p + q) (nI D)) 66 0 j = m_gi h 66 0 j := fun j => F.1 66 0 j rfl
            refine ⟨fun i j hi hj => by rw [e3, e4]; exact rSb.1 i j hi hj, fun i j hi hj => ?_⟩
            rw [e1, e2]
            by_cases e : i = p ∧ j = q
            · obtain ⟨rfl, rfl⟩ := e
              rw [if_pos ⟨rfl, rfl⟩, if_pos rfl]
              exact Or.inr ⟨D, hD, rfl, rfl⟩
            · rw [if_neg e, if_neg (by omega)]; exact rSb.2 i j hi hj
        · have l1 : (nI E = (2001 : Int32)) = False := by
            show (nI E = nI 2001) = False
            rw [i_eq (by omega) (by omega)]; exact eq_false (by omega)
          have l2 : (nI E = -1) = False := eq_false (nI_m1 (by omega))
          refine ok_q R0 (b := 0) (L_subscribe_ret _ _ _ ?_) ?_
          · simp (decide := true) only [f_X10_subscribe_87, f_X10_subscribe_77, f_X10_subscribe_62, f_X10_subscribe_45, f_X10_subscribe_20, f_X10_subscribe, nz_0, nz_1, rz_bI, rz_0, rz_1, bI_eq0, bI_t, bI_f, bI_ri, bI_ex, bR_ra, bR_ex, bV_rt, bV_ex, bW_rt, bJ_ri, bIx_ri, bIx_ex, bVx_rt, bVx_ex, gi_ne, gi_eq, gi_sr, gi_sl, gi_th, gi_op, gr_si, gr_sl, gr_th, gr_op, gr_ne, gl_si, gl_sr, gl_th, gl_op, gl_eq, gi_al, gr_al, gl_al, nx_si, nx_sr, nx_sl, nx_th, nx_op, nx_al, nx_als, nc_si, nc_sr, nc_sl, nc_th, nc_op, nc_al, ns_si, ns_sr, ns_sl, ns_th, ns_op, ns_al, gi_neI, aR_2, sR_2, aI_3, sI_3, aI_4, sI_4, aI_5, sI_5, aI_6, sI_6, aI_7, sI_7, aI_8, sI_8, aI_9, sI_9, aI_10, sZ_10, aI_11, sI_11, aI_12, sI_12, aI_13, sI_13, aI_14, sC_14, gI_15, gR_15, pI_15, pR_15, pZ_15, ao_15, pC_15, aI_16, sI_16, aI_17, sI_17, aR_18, sR_18, aR_19, sR_19, aR_20, sR_20, gI_21, gR_21, pI_21, pR_21, pZ_21, ao_21, gI_22, gR_22, pI_22, pR_22, pZ_22, ao_22, gI_23, gR_23, pI_23, pR_23, pZ_23, ao_23, gI_24, gR_24, pI_24, pR_24, pZ_24, ao_24, aR_25, sR_25, gI_26, gR_26, pI_26, pR_26, pZ_26, ao_26, gI_27, gR_27, pI_27, pR_27, pZ_27, ao_27, gI_28, gR_28, pI_28, pR_28, pZ_28, ao_28, gI_29, gR_29, pI_29, pR_29, pZ_29, ao_29, gI_30, gR_30, pI_30, pR_30, pZ_30, ao_30, gI_69, gR_69, pI_69, pR_69, pZ_69, ao_69, pc_same H, pc_people H, pc_works H, pc_cols H, pc_tags H, pc_tape H, pc_sieve H, pc_gifts H, pc_coms H, pc_mean H, pc_par H, pc_abv H, pc_chars H, pc_scan H, pc_parts H, pc_items H, pc_nots H, pc_signs H, pc_recv H, pc_ways H, if_true, if_false, c_checkPerson hp, c_checkPerson hq, n10, hp, hq, pc_per H hp, pc_pd H hp, a1, l1]
          · simp (decide := true) only [f_X11_subscribe_146, f_X11_subscribe_135, f_X11_subscribe_114, f_X11_subscribe_84, f_X11_subscribe_47, f_X11_subscribe_34, f_X11_subscribe_33, f_X11_subscribe_29, f_X11_subscribe, nz_0, nz_1, rz_bI, rz_0, rz_1, bI_eq0, bI_t, bI_f, bI_ri, bI_ex, bR_ra, bR_ex, bV_rt, bV_ex, bW_rt, bJ_ri, bIx_ri, bIx_ex, bVx_rt, bVx_ex, gi_ne, gi_eq, gi_sr, gi_sl, gi_th, gi_op, gr_si, gr_sl, gr_th, gr_op, gr_ne, gl_si, gl_sr, gl_th, gl_op, gl_eq, gi_al, gr_al, gl_al, nx_si, nx_sr, nx_sl, nx_th, nx_op, nx_al, nx_als, nc_si, nc_sr, nc_sl, nc_th, nc_op, nc_al, ns_si, ns_sr, ns_sl, ns_th, ns_op, ns_al, gi_neI, aI_31, sZ_31, aI_32, sI_32, aI_33, sI_33, aI_34, sI_34, aI_35, sI_35, aI_36, sI_36, aI_37, sI_37, aI_38, sZ_38, aI_39, sI_39, aI_40, sI_40, aI_41, sI_41, aI_42, sZ_42, aI_43, sZ_43, aI_44, sI_44, aI_45, sI_45, aI_46, sI_46, aI_47, sI_47, aI_48, sI_48, aI_49, sI_49, aI_50, sI_50, aI_51, sZ_51, aI_52, sZ_52, aI_53, sZ_53, aI_54, sI_54, aI_55, sI_55, aI_56, sI_56, aI_57, sI_57, aI_58, sZ_58, aI_59, sI_59, aI_60, sI_60, aI_61, sI_61, aI_62, sI_62, aI_63, sZ_63, aI_64, sZ_64, aI_65, sZ_65, aI_66, sI_66, aI_67, sI_67, aI_68, sZ_68, gI_70, gR_70, pI_70, pR_70, pZ_70, ao_70, aL_71, sL_71, pm_2 G, pm_3 G, pm_5 G, pm_6 G, pm_7 G, pm_8 G, pm_9 G, pm_10 G, pm_11 G, pm_12 G, pm_13 G, pm_14 G, pm_15 G, pm_16 G, pm_18 G, pm_19 G, pm_21 G, pm_22 G, pm_23 G, pm_25 G, pm_26 G, pm_27 G, pm_28 G, pm_31 G, pm_32 G, pm_33 G, pm_34 G, pm_35 G, pm_36 G, pm_38 G, pm_39 G, pm_40 G, pm_41 G, pm_42 G, pm_43 G, pm_44 G, pm_45 G, pm_46 G, r_isWork, r_isTag, r_isPerson, r_isFace, r_h0, r_h1, r_h2, r_h3, n10, n20, n30, n00, if_true, if_false, not_true_eq_false, not_false_eq_true, false_and, and_false, decide_false, decide_true, ix, iy, m, hi, a2, l2]
      · refine ok_ex R0 (c := 1) (b := 0) (by decide) (L_subscribe_x0 _ _ _ ?_) ?_
        · simp (decide := true) only [f_X10_subscribe_87, f_X10_subscribe_77, f_X10_subscribe_62, f_X10_subscribe_45, f_X10_subscribe_20, f_X10_subscribe, nz_0, nz_1, rz_bI, rz_0, rz_1, bI_eq0, bI_t, bI_f, bI_ri, bI_ex, bR_ra, bR_ex, bV_rt, bV_ex, bW_rt, bJ_ri, bIx_ri, bIx_ex, bVx_rt, bVx_ex, gi_ne, gi_eq, gi_sr, gi_sl, gi_th, gi_op, gr_si, gr_sl, gr_th, gr_op, gr_ne, gl_si, gl_sr, gl_th, gl_op, gl_eq, gi_al, gr_al, gl_al, nx_si, nx_sr, nx_sl, nx_th, nx_op, nx_al, nx_als, nc_si, nc_sr, nc_sl, nc_th, nc_op, nc_al, ns_si, ns_sr, ns_sl, ns_th, ns_op, ns_al, gi_neI, aR_2, sR_2, aI_3, sI_3, aI_4, sI_4, aI_5, sI_5, aI_6, sI_6, aI_7, sI_7, aI_8, sI_8, aI_9, sI_9, aI_10, sZ_10, aI_11, sI_11, aI_12, sI_12, aI_13, sI_13, aI_14, sC_14, gI_15, gR_15, pI_15, pR_15, pZ_15, ao_15, pC_15, aI_16, sI_16, aI_17, sI_17, aR_18, sR_18, aR_19, sR_19, aR_20, sR_20, gI_21, gR_21, pI_21, pR_21, pZ_21, ao_21, gI_22, gR_22, pI_22, pR_22, pZ_22, ao_22, gI_23, gR_23, pI_23, pR_23, pZ_23, ao_23, gI_24, gR_24, pI_24, pR_24, pZ_24, ao_24, aR_25, sR_25, gI_26, gR_26, pI_26, pR_26, pZ_26, ao_26, gI_27, gR_27, pI_27, pR_27, pZ_27, ao_27, gI_28, gR_28, pI_28, pR_28, pZ_28, ao_28, gI_29, gR_29, pI_29, pR_29, pZ_29, ao_29, gI_30, gR_30, pI_30, pR_30, pZ_30, ao_30, gI_69, gR_69, pI_69, pR_69, pZ_69, ao_69, pc_same H, pc_people H, pc_works H, pc_cols H, pc_tags H, pc_tape H, pc_sieve H, pc_gifts H, pc_coms H, pc_mean H, pc_par H, pc_abv H, pc_chars H, pc_scan H, pc_parts H, pc_items H, pc_nots H, pc_signs H, pc_recv H, pc_ways H, if_true, if_false, c_checkPerson hp, c_checkPerson_bad hy, n10]
        · simp (decide := true) only [f_X11_subscribe_146, f_X11_subscribe_135, f_X11_subscribe_114, f_X11_subscribe_84, f_X11_subscribe_47, f_X11_subscribe_34, f_X11_subscribe_33, f_X11_subscribe_29, f_X11_subscribe, nz_0, nz_1, rz_bI, rz_0, rz_1, bI_eq0, bI_t, bI_f, bI_ri, bI_ex, bR_ra, bR_ex, bV_rt, bV_ex, bW_rt, bJ_ri, bIx_ri, bIx_ex, bVx_rt, bVx_ex, gi_ne, gi_eq, gi_sr, gi_sl, gi_th, gi_op, gr_si, gr_sl, gr_th, gr_op, gr_ne, gl_si, gl_sr, gl_th, gl_op, gl_eq, gi_al, gr_al, gl_al, nx_si, nx_sr, nx_sl, nx_th, nx_op, nx_al, nx_als, nc_si, nc_sr, nc_sl, nc_th, nc_op, nc_al, ns_si, ns_sr, ns_sl, ns_th, ns_op, ns_al, gi_neI, aI_31, sZ_31, aI_32, sI_32, aI_33, sI_33, aI_34, sI_34, aI_35, sI_35, aI_36, sI_36, aI_37, sI_37, aI_38, sZ_38, aI_39, sI_39, aI_40, sI_40, aI_41, sI_41, aI_42, sZ_42, aI_43, sZ_43, aI_44, sI_44, aI_45, sI_45, aI_46, sI_46, aI_47, sI_47, aI_48, sI_48, aI_49, sI_49, aI_50, sI_50, aI_51, sZ_51, aI_52, sZ_52, aI_53, sZ_53, aI_54, sI_54, aI_55, sI_55, aI_56, sI_56, aI_57, sI_57, aI_58, sZ_58, aI_59, sI_59, aI_60, sI_60, aI_61, sI_61, aI_62, sI_62, aI_63, sZ_63, aI_64, sZ_64, aI_65, sZ_65, aI_66, sI_66, aI_67, sI_67, aI_68, sZ_68, gI_70, gR_70, pI_70, pR_70, pZ_70, ao_70, aL_71, sL_71, pm_2 G, pm_3 G, pm_5 G, pm_6 G, pm_7 G, pm_8 G, pm_9 G, pm_10 G, pm_11 G, pm_12 G, pm_13 G, pm_14 G, pm_15 G, pm_16 G, pm_18 G, pm_19 G, pm_21 G, pm_22 G, pm_23 G, pm_25 G, pm_26 G, pm_27 G, pm_28 G, pm_31 G, pm_32 G, pm_33 G, pm_34 G, pm_35 G, pm_36 G, pm_38 G, pm_39 G, pm_40 G, pm_41 G, pm_42 G, pm_43 G, pm_44 G, pm_45 G, pm_46 G, r_isWork, r_isTag, r_isPerson, r_isFace, r_h0, r_h1, r_h2, r_h3, n10, n20, n30, n00, if_true, if_false, not_true_eq_false, not_false_eq_true, false_and, and_false, decide_false, decide_true, ix, isIx_bad (show 12 < 10000 by omega) hy]
    | false =>
      rcases ix_cases y (n := W) (by omega) with ⟨q, hq, rfl⟩ | hy
      · have iy := isIx_ok (show W < 10000 by omega) hq
        have h20 : q < 20 := by omega
        have m : (20 : Int32) * nI p + nI q = nI (20 * p + q) := by
          show nI 20 * nI p + nI q = _
          rw [pk_mul, nI_add]
        have hi : 20 * p + q < 240 := by omega
        rcases rSb.1 p q hp h20 with ⟨a1, a2⟩ | ⟨E, hE, a1, a2⟩
        · skip
          refine ok_u (h1 := (m_si h 5 p q (nI D))) (b := 1) (h2 := (m_si (m_si (m_sl (m_si h 5 p q (nI D)) 71 0 0 (vB 1)) 70 0 0 0) 66 0 (20 * p + q) (nI D))) (L_subscribe_ret _ _ _ ?_) ?_ rfl rfl rfl rfl (Nat.le_add_right _ _) (Nat.le_add_right _ _) ?_
          · simp (decide := true) only [f_X10_subscribe_87, f_X10_subscribe_77, f_X10_subscribe_62, f_X10_subscribe_45, f_X10_subscribe_20, f_X10_subscribe, nz_0, nz_1, rz_bI, rz_0, rz_1, bI_eq0, bI_t, bI_f, bI_ri, bI_ex, bR_ra, bR_ex, bV_rt, bV_ex, bW_rt, bJ_ri, bIx_ri, bIx_ex, bVx_rt, bVx_ex, gi_ne, gi_eq, gi_sr, gi_sl, gi_th, gi_op, gr_si, gr_sl, gr_th, gr_op, gr_ne, gl_si, gl_sr, gl_th, gl_op, gl_eq, gi_al, gr_al, gl_al, nx_si, nx_sr, nx_sl, nx_th, nx_op, nx_al, nx_als, nc_si, nc_sr, nc_sl, nc_th, nc_op, nc_al, ns_si, ns_sr, ns_sl, ns_th, ns_op, ns_al, gi_neI, aR_2, sR_2, aI_3, sI_3, aI_4, sI_4, aI_5, sI_5, aI_6, sI_6, aI_7, sI_7, aI_8, sI_8, aI_9, sI_9, aI_10, sZ_10, aI_11, sI_11, aI_12, sI_12, aI_13, sI_13, aI_14, sC_14, gI_15, gR_15, pI_15, pR_15, pZ_15, ao_15, pC_15, aI_16, sI_16, aI_17, sI_17, aR_18, sR_18, aR_19, sR_19, aR_20, sR_20, gI_21, gR_21, pI_21, pR_21, pZ_21, ao_21, gI_22, gR_22, pI_22, pR_22, pZ_22, ao_22, gI_23, gR_23, pI_23, pR_23, pZ_23, ao_23, gI_24, gR_24, pI_24, pR_24, pZ_24, ao_24, aR_25, sR_25, gI_26, gR_26, pI_26, pR_26, pZ_26, ao_26, gI_27, gR_27, pI_27, pR_27, pZ_27, ao_27, gI_28, gR_28, pI_28, pR_28, pZ_28, ao_28, gI_29, gR_29, pI_29, pR_29, pZ_29, ao_29, gI_30, gR_30, pI_30, pR_30, pZ_30, ao_30, gI_69, gR_69, pI_69, pR_69, pZ_69, ao_69, pc_same H, pc_people H, pc_works H, pc_cols H, pc_tags H, pc_tape H, pc_sieve H, pc_gifts H, pc_coms H, pc_mean H, pc_par H, pc_abv H, pc_chars H, pc_scan H, pc_parts H, pc_items H, pc_nots H, pc_signs H, pc_recv H, pc_ways H, if_true, if_false, c_checkPerson hp, c_checkWork N hq, n10, hp, h20, pc_per H hp, pc_wd H hp, a1, d1]
          · simp (decide := true) only [f_X11_subscribe_146, f_X11_subscribe_135, f_X11_subscribe_114, f_X11_subscribe_84, f_X11_subscribe_47, f_X11_subscribe_34, f_X11_subscribe_33, f_X11_subscribe_29, f_X11_subscribe, nz_0, nz_1, rz_bI, rz_0, rz_1, bI_eq0, bI_t, bI_f, bI_ri, bI_ex, bR_ra, bR_ex, bV_rt, bV_ex, bW_rt, bJ_ri, bIx_ri, bIx_ex, bVx_rt, bVx_ex, gi_ne, gi_eq, gi_sr, gi_sl, gi_th, gi_op, gr_si, gr_sl, gr_th, gr_op, gr_ne, gl_si, gl_sr, gl_th, gl_op, gl_eq, gi_al, gr_al, gl_al, nx_si, nx_sr, nx_sl, nx_th, nx_op, nx_al, nx_als, nc_si, nc_sr, nc_sl, nc_th, nc_op, nc_al, ns_si, ns_sr, ns_sl, ns_th, ns_op, ns_al, gi_neI, aI_31, sZ_31, aI_32, sI_32, aI_33, sI_33, aI_34, sI_34, aI_35, sI_35, aI_36, sI_36, aI_37, sI_37, aI_38, sZ_38, aI_39, sI_39, aI_40, sI_40, aI_41, sI_41, aI_42, sZ_42, aI_43, sZ_43, aI_44, sI_44, aI_45, sI_45, aI_46, sI_46, aI_47, sI_47, aI_48, sI_48, aI_49, sI_49, aI_50, sI_50, aI_51, sZ_51, aI_52, sZ_52, aI_53, sZ_53, aI_54, sI_54, aI_55, sI_55, aI_56, sI_56, aI_57, sI_57, aI_58, sZ_58, aI_59, sI_59, aI_60, sI_60, aI_61, sI_61, aI_62, sI_62, aI_63, sZ_63, aI_64, sZ_64, aI_65, sZ_65, aI_66, sI_66, aI_67, sI_67, aI_68, sZ_68, gI_70, gR_70, pI_70, pR_70, pZ_70, ao_70, aL_71, sL_71, pm_2 G, pm_3 G, pm_5 G, pm_6 G, pm_7 G, pm_8 G, pm_9 G, pm_10 G, pm_11 G, pm_12 G, pm_13 G, pm_14 G, pm_15 G, pm_16 G, pm_18 G, pm_19 G, pm_21 G, pm_22 G, pm_23 G, pm_25 G, pm_26 G, pm_27 G, pm_28 G, pm_31 G, pm_32 G, pm_33 G, pm_34 G, pm_35 G, pm_36 G, pm_38 G, pm_39 G, pm_40 G, pm_41 G, pm_42 G, pm_43 G, pm_44 G, pm_45 G, pm_46 G, r_isWork, r_isTag, r_isPerson, r_isFace, r_h0, r_h1, r_h2, r_h3, n10, n20, n30, n00, if_true, if_false, not_true_eq_false, not_false_eq_true, false_and, and_false, decide_false, decide_true, ix, N.2.2.1, iy, m, hi, a2, d2]
          · have F : Frm (pX [] [5, 66]) h (m_si (m_si (m_sl (m_si h 5 p q (nI D)) 71 0 0 (vB 1)) 70 0 0 0) 66 0 (20 * p + q) (nI D)) := (((((Frm.refl _ h).si rfl).sl).si rfl).si rfl)
            refine ⟨W, Cn, Tn, Sn, Qn, ⟨H.frm F, G.frm F, rDay.frm F, rBlk.frm F, rSam.frm F, N.frm F, rWa.frm F, rWc.frm F, rWp.frm F, rWl.frm F, rWo.frm F, rWt.frm F, rWf.frm F, rWw.frm F, rWs.frm F, rWk.frm F, rCo.frm F, rTg.frm F, rPa.frm F, rTp.frm F, rSg.frm F, rCm.frm F, ?_, rDg.frm F, rIv.frm F⟩⟩
            have e1 : ∀ i j, m_gi (m_si (m_si (m_sl (m_si h 5 p q (nI D)) 71 0 0 (vB 1)) 70 0 0 0) 66 0 (20 * p + q) (nI D)) 5 i j = if i = p ∧ j = q then nI D else m_gi h 5 i j := fun i j => by
              simp only [m_gi_si, gi_sl]; simp
            have e2 : ∀ j, m_gi (m_si (m_si (m_sl (m_si h 5 p q (nI D)) 71 0 0 (vB 1)) 70 0 0 0) 66 0 (20 * p + q) (nI D)) 66 0 j = if j = 20 * p + q then nI D else m_gi h 66 0 j := fun j => by
              simp only [m_gi_si, gi_sl]; simp
            have e3 : ∀ i j, m_gi (m_si (m_si (m_sl (m_si h 5 p q (nI D)) 71 0 0 (vB 1)) 70 0 0 0) 66 0 (20 * p + q) (nI D)) 6 i j = m_gi h 6 i j := fun i j => F.1 6 i j rfl
            have e4 : ∀ j, m_gi (m_si (m_si (m_sl (m_si h 5 p q (nI D)) 71 0 0 (vB 1)) 70 0 0 0) 66 0 (20 * p + q) (nI D)) 67 0 j = m_gi h 67 0 j := fun j => F.1 67 0 j rfl
            refine ⟨fun i j hi hj => ?_, fun i j hi hj => by rw [e3, e4]; exact rSb.2 i j hi hj⟩
            rw [e1, e2]
            by_cases e : i = p ∧ j = q
            · obtain ⟨rfl, rfl⟩ := e
              rw [if_pos ⟨rfl, rfl⟩, if_pos rfl]
              exact Or.inr ⟨D, hD, rfl, rfl⟩
            · rw [if_neg e, if_neg (by omega)]; exact rSb.1 i j hi hj
        · have l1 : (nI E = (2001 : Int32)) = False := by
            show (nI E = nI 2001) = False
            rw [i_eq (by omega) (by omega)]; exact eq_false (by omega)
          have l2 : (nI E = -1) = False := eq_false (nI_m1 (by omega))
          refine ok_q R0 (b := 0) (L_subscribe_ret _ _ _ ?_) ?_
          · simp (decide := true) only [f_X10_subscribe_87, f_X10_subscribe_77, f_X10_subscribe_62, f_X10_subscribe_45, f_X10_subscribe_20, f_X10_subscribe, nz_0, nz_1, rz_bI, rz_0, rz_1, bI_eq0, bI_t, bI_f, bI_ri, bI_ex, bR_ra, bR_ex, bV_rt, bV_ex, bW_rt, bJ_ri, bIx_ri, bIx_ex, bVx_rt, bVx_ex, gi_ne, gi_eq, gi_sr, gi_sl, gi_th, gi_op, gr_si, gr_sl, gr_th, gr_op, gr_ne, gl_si, gl_sr, gl_th, gl_op, gl_eq, gi_al, gr_al, gl_al, nx_si, nx_sr, nx_sl, nx_th, nx_op, nx_al, nx_als, nc_si, nc_sr, nc_sl, nc_th, nc_op, nc_al, ns_si, ns_sr, ns_sl, ns_th, ns_op, ns_al, gi_neI, aR_2, sR_2, aI_3, sI_3, aI_4, sI_4, aI_5, sI_5, aI_6, sI_6, aI_7, sI_7, aI_8, sI_8, aI_9, sI_9, aI_10, sZ_10, aI_11, sI_11, aI_12, sI_12, aI_13, sI_13, aI_14, sC_14, gI_15, gR_15, pI_15, pR_15, pZ_15, ao_15, pC_15, aI_16, sI_16, aI_17, sI_17, aR_18, sR_18, aR_19, sR_19, aR_20, sR_20, gI_21, gR_21, pI_21, pR_21, pZ_21, ao_21, gI_22, gR_22, pI_22, pR_22, pZ_22, ao_22, gI_23, gR_23, pI_23, pR_23, pZ_23, ao_23, gI_24, gR_24, pI_24, pR_24, pZ_24, ao_24, aR_25, sR_25, gI_26, gR_26, pI_26, pR_26, pZ_26, ao_26, gI_27, gR_27, pI_27, pR_27, pZ_27, ao_27, gI_28, gR_28, pI_28, pR_28, pZ_28, ao_28, gI_29, gR_29, pI_29, pR_29, pZ_29, ao_29, gI_30, gR_30, pI_30, pR_30, pZ_30, ao_30, gI_69, gR_69, pI_69, pR_69, pZ_69, ao_69, pc_same H, pc_people H, pc_works H, pc_cols H, pc_tags H, pc_tape H, pc_sieve H, pc_gifts H, pc_coms H, pc_mean H, pc_par H, pc_abv H, pc_chars H, pc_scan H, pc_parts H, pc_items H, pc_nots H, pc_signs H, pc_recv H, pc_ways H, if_true, if_false, c_checkPerson hp, c_checkWork N hq, n10, hp, h20, pc_per H hp, pc_wd H hp, a1, l1]
          · simp (decide := true) only [f_X11_subscribe_146, f_X11_subscribe_135, f_X11_subscribe_114, f_X11_subscribe_84, f_X11_subscribe_47, f_X11_subscribe_34, f_X11_subscribe_33, f_X11_subscribe_29, f_X11_subscribe, nz_0, nz_1, rz_bI, rz_0, rz_1, bI_eq0, bI_t, bI_f, bI_ri, bI_ex, bR_ra, bR_ex, bV_rt, bV_ex, bW_rt, bJ_ri, bIx_ri, bIx_ex, bVx_rt, bVx_ex, gi_ne, gi_eq, gi_sr, gi_sl, gi_th, gi_op, gr_si, gr_sl, gr_th, gr_op, gr_ne, gl_si, gl_sr, gl_th, gl_op, gl_eq, gi_al, gr_al, gl_al, nx_si, nx_sr, nx_sl, nx_th, nx_op, nx_al, nx_als, nc_si, nc_sr, nc_sl, nc_th, nc_op, nc_al, ns_si, ns_sr, ns_sl, ns_th, ns_op, ns_al, gi_neI, aI_31, sZ_31, aI_32, sI_32, aI_33, sI_33, aI_34, sI_34, aI_35, sI_35, aI_36, sI_36, aI_37, sI_37, aI_38, sZ_38, aI_39, sI_39, aI_40, sI_40, aI_41, sI_41, aI_42, sZ_42, aI_43, sZ_43, aI_44, sI_44, aI_45, sI_45, aI_46, sI_46, aI_47, sI_47, aI_48, sI_48, aI_49, sI_49, aI_50, sI_50, aI_51, sZ_51, aI_52, sZ_52, aI_53, sZ_53, aI_54, sI_54, aI_55, sI_55, aI_56, sI_56, aI_57, sI_57, aI_58, sZ_58, aI_59, sI_59, aI_60, sI_60, aI_61, sI_61, aI_62, sI_62, aI_63, sZ_63, aI_64, sZ_64, aI_65, sZ_65, aI_66, sI_66, aI_67, sI_67, aI_68, sZ_68, gI_70, gR_70, pI_70, pR_70, pZ_70, ao_70, aL_71, sL_71, pm_2 G, pm_3 G, pm_5 G, pm_6 G, pm_7 G, pm_8 G, pm_9 G, pm_10 G, pm_11 G, pm_12 G, pm_13 G, pm_14 G, pm_15 G, pm_16 G, pm_18 G, pm_19 G, pm_21 G, pm_22 G, pm_23 G, pm_25 G, pm_26 G, pm_27 G, pm_28 G, pm_31 G, pm_32 G, pm_33 G, pm_34 G, pm_35 G, pm_36 G, pm_38 G, pm_39 G, pm_40 G, pm_41 G, pm_42 G, pm_43 G, pm_44 G, pm_45 G, pm_46 G, r_isWork, r_isTag, r_isPerson, r_isFace, r_h0, r_h1, r_h2, r_h3, n10, n20, n30, n00, if_true, if_false, not_true_eq_false, not_false_eq_true, false_and, and_false, decide_false, decide_true, ix, N.2.2.1, iy, m, hi, a2, l2]
      · refine ok_ex R0 (c := 1) (b := 0) (by decide) (L_subscribe_x0 _ _ _ ?_) ?_
        · simp (decide := true) only [f_X10_subscribe_87, f_X10_subscribe_77, f_X10_subscribe_62, f_X10_subscribe_45, f_X10_subscribe_20, f_X10_subscribe, nz_0, nz_1, rz_bI, rz_0, rz_1, bI_eq0, bI_t, bI_f, bI_ri, bI_ex, bR_ra, bR_ex, bV_rt, bV_ex, bW_rt, bJ_ri, bIx_ri, bIx_ex, bVx_rt, bVx_ex, gi_ne, gi_eq, gi_sr, gi_sl, gi_th, gi_op, gr_si, gr_sl, gr_th, gr_op, gr_ne, gl_si, gl_sr, gl_th, gl_op, gl_eq, gi_al, gr_al, gl_al, nx_si, nx_sr, nx_sl, nx_th, nx_op, nx_al, nx_als, nc_si, nc_sr, nc_sl, nc_th, nc_op, nc_al, ns_si, ns_sr, ns_sl, ns_th, ns_op, ns_al, gi_neI, aR_2, sR_2, aI_3, sI_3, aI_4, sI_4, aI_5, sI_5, aI_6, sI_6, aI_7, sI_7, aI_8, sI_8, aI_9, sI_9, aI_10, sZ_10, aI_11, sI_11, aI_12, sI_12, aI_13, sI_13, aI_14, sC_14, gI_15, gR_15, pI_15, pR_15, pZ_15, ao_15, pC_15, aI_16, sI_16, aI_17, sI_17, aR_18, sR_18, aR_19, sR_19, aR_20, sR_20, gI_21, gR_21, pI_21, pR_21, pZ_21, ao_21, gI_22, gR_22, pI_22, pR_22, pZ_22, ao_22, gI_23, gR_23, pI_23, pR_23, pZ_23, ao_23, gI_24, gR_24, pI_24, pR_24, pZ_24, ao_24, aR_25, sR_25, gI_26, gR_26, pI_26, pR_26, pZ_26, ao_26, gI_27, gR_27, pI_27, pR_27, pZ_27, ao_27, gI_28, gR_28, pI_28, pR_28, pZ_28, ao_28, gI_29, gR_29, pI_29, pR_29, pZ_29, ao_29, gI_30, gR_30, pI_30, pR_30, pZ_30, ao_30, gI_69, gR_69, pI_69, pR_69, pZ_69, ao_69, pc_same H, pc_people H, pc_works H, pc_cols H, pc_tags H, pc_tape H, pc_sieve H, pc_gifts H, pc_coms H, pc_mean H, pc_par H, pc_abv H, pc_chars H, pc_scan H, pc_parts H, pc_items H, pc_nots H, pc_signs H, pc_recv H, pc_ways H, if_true, if_false, c_checkPerson hp, c_checkWork_bad N hy]
        · simp (decide := true) only [f_X11_subscribe_146, f_X11_subscribe_135, f_X11_subscribe_114, f_X11_subscribe_84, f_X11_subscribe_47, f_X11_subscribe_34, f_X11_subscribe_33, f_X11_subscribe_29, f_X11_subscribe, nz_0, nz_1, rz_bI, rz_0, rz_1, bI_eq0, bI_t, bI_f, bI_ri, bI_ex, bR_ra, bR_ex, bV_rt, bV_ex, bW_rt, bJ_ri, bIx_ri, bIx_ex, bVx_rt, bVx_ex, gi_ne, gi_eq, gi_sr, gi_sl, gi_th, gi_op, gr_si, gr_sl, gr_th, gr_op, gr_ne, gl_si, gl_sr, gl_th, gl_op, gl_eq, gi_al, gr_al, gl_al, nx_si, nx_sr, nx_sl, nx_th, nx_op, nx_al, nx_als, nc_si, nc_sr, nc_sl, nc_th, nc_op, nc_al, ns_si, ns_sr, ns_sl, ns_th, ns_op, ns_al, gi_neI, aI_31, sZ_31, aI_32, sI_32, aI_33, sI_33, aI_34, sI_34, aI_35, sI_35, aI_36, sI_36, aI_37, sI_37, aI_38, sZ_38, aI_39, sI_39, aI_40, sI_40, aI_41, sI_41, aI_42, sZ_42, aI_43, sZ_43, aI_44, sI_44, aI_45, sI_45, aI_46, sI_46, aI_47, sI_47, aI_48, sI_48, aI_49, sI_49, aI_50, sI_50, aI_51, sZ_51, aI_52, sZ_52, aI_53, sZ_53, aI_54, sI_54, aI_55, sI_55, aI_56, sI_56, aI_57, sI_57, aI_58, sZ_58, aI_59, sI_59, aI_60, sI_60, aI_61, sI_61, aI_62, sI_62, aI_63, sZ_63, aI_64, sZ_64, aI_65, sZ_65, aI_66, sI_66, aI_67, sI_67, aI_68, sZ_68, gI_70, gR_70, pI_70, pR_70, pZ_70, ao_70, aL_71, sL_71, pm_2 G, pm_3 G, pm_5 G, pm_6 G, pm_7 G, pm_8 G, pm_9 G, pm_10 G, pm_11 G, pm_12 G, pm_13 G, pm_14 G, pm_15 G, pm_16 G, pm_18 G, pm_19 G, pm_21 G, pm_22 G, pm_23 G, pm_25 G, pm_26 G, pm_27 G, pm_28 G, pm_31 G, pm_32 G, pm_33 G, pm_34 G, pm_35 G, pm_36 G, pm_38 G, pm_39 G, pm_40 G, pm_41 G, pm_42 G, pm_43 G, pm_44 G, pm_45 G, pm_46 G, r_isWork, r_isTag, r_isPerson, r_isFace, r_h0, r_h1, r_h2, r_h3, n10, n20, n30, n00, if_true, if_false, not_true_eq_false, not_false_eq_true, false_and, and_false, decide_false, decide_true, ix, N.2.2.1, isIx_bad (show W < 10000 by omega) hy]
  · refine ok_ex R0 (c := 1) (b := 0) (by decide) (L_subscribe_x0 _ _ _ ?_) ?_
    · simp (decide := true) only [f_X10_subscribe_87, f_X10_subscribe_77, f_X10_subscribe_62, f_X10_subscribe_45, f_X10_subscribe_20, f_X10_subscribe, nz_0, nz_1, rz_bI, rz_0, rz_1, bI_eq0, bI_t, bI_f, bI_ri, bI_ex, bR_ra, bR_ex, bV_rt, bV_ex, bW_rt, bJ_ri, bIx_ri, bIx_ex, bVx_rt, bVx_ex, gi_ne, gi_eq, gi_sr, gi_sl, gi_th, gi_op, gr_si, gr_sl, gr_th, gr_op, gr_ne, gl_si, gl_sr, gl_th, gl_op, gl_eq, gi_al, gr_al, gl_al, nx_si, nx_sr, nx_sl, nx_th, nx_op, nx_al, nx_als, nc_si, nc_sr, nc_sl, nc_th, nc_op, nc_al, ns_si, ns_sr, ns_sl, ns_th, ns_op, ns_al, gi_neI, aR_2, sR_2, aI_3, sI_3, aI_4, sI_4, aI_5, sI_5, aI_6, sI_6, aI_7, sI_7, aI_8, sI_8, aI_9, sI_9, aI_10, sZ_10, aI_11, sI_11, aI_12, sI_12, aI_13, sI_13, aI_14, sC_14, gI_15, gR_15, pI_15, pR_15, pZ_15, ao_15, pC_15, aI_16, sI_16, aI_17, sI_17, aR_18, sR_18, aR_19, sR_19, aR_20, sR_20, gI_21, gR_21, pI_21, pR_21, pZ_21, ao_21, gI_22, gR_22, pI_22, pR_22, pZ_22, ao_22, gI_23, gR_23, pI_23, pR_23, pZ_23, ao_23, gI_24, gR_24, pI_24, pR_24, pZ_24, ao_24, aR_25, sR_25, gI_26, gR_26, pI_26, pR_26, pZ_26, ao_26, gI_27, gR_27, pI_27, pR_27, pZ_27, ao_27, gI_28, gR_28, pI_28, pR_28, pZ_28, ao_28, gI_29, gR_29, pI_29, pR_29, pZ_29, ao_29, gI_30, gR_30, pI_30, pR_30, pZ_30, ao_30, gI_69, gR_69, pI_69, pR_69, pZ_69, ao_69, pc_same H, pc_people H, pc_works H, pc_cols H, pc_tags H, pc_tape H, pc_sieve H, pc_gifts H, pc_coms H, pc_mean H, pc_par H, pc_abv H, pc_chars H, pc_scan H, pc_parts H, pc_items H, pc_nots H, pc_signs H, pc_recv H, pc_ways H, if_true, if_false, c_checkPerson_bad hx]
    · simp (decide := true) only [f_X11_subscribe_146, f_X11_subscribe_135, f_X11_subscribe_114, f_X11_subscribe_84, f_X11_subscribe_47, f_X11_subscribe_34, f_X11_subscribe_33, f_X11_subscribe_29, f_X11_subscribe, nz_0, nz_1, rz_bI, rz_0, rz_1, bI_eq0, bI_t, bI_f, bI_ri, bI_ex, bR_ra, bR_ex, bV_rt, bV_ex, bW_rt, bJ_ri, bIx_ri, bIx_ex, bVx_rt, bVx_ex, gi_ne, gi_eq, gi_sr, gi_sl, gi_th, gi_op, gr_si, gr_sl, gr_th, gr_op, gr_ne, gl_si, gl_sr, gl_th, gl_op, gl_eq, gi_al, gr_al, gl_al, nx_si, nx_sr, nx_sl, nx_th, nx_op, nx_al, nx_als, nc_si, nc_sr, nc_sl, nc_th, nc_op, nc_al, ns_si, ns_sr, ns_sl, ns_th, ns_op, ns_al, gi_neI, aI_31, sZ_31, aI_32, sI_32, aI_33, sI_33, aI_34, sI_34, aI_35, sI_35, aI_36, sI_36, aI_37, sI_37, aI_38, sZ_38, aI_39, sI_39, aI_40, sI_40, aI_41, sI_41, aI_42, sZ_42, aI_43, sZ_43, aI_44, sI_44, aI_45, sI_45, aI_46, sI_46, aI_47, sI_47, aI_48, sI_48, aI_49, sI_49, aI_50, sI_50, aI_51, sZ_51, aI_52, sZ_52, aI_53, sZ_53, aI_54, sI_54, aI_55, sI_55, aI_56, sI_56, aI_57, sI_57, aI_58, sZ_58, aI_59, sI_59, aI_60, sI_60, aI_61, sI_61, aI_62, sI_62, aI_63, sZ_63, aI_64, sZ_64, aI_65, sZ_65, aI_66, sI_66, aI_67, sI_67, aI_68, sZ_68, gI_70, gR_70, pI_70, pR_70, pZ_70, ao_70, aL_71, sL_71, pm_2 G, pm_3 G, pm_5 G, pm_6 G, pm_7 G, pm_8 G, pm_9 G, pm_10 G, pm_11 G, pm_12 G, pm_13 G, pm_14 G, pm_15 G, pm_16 G, pm_18 G, pm_19 G, pm_21 G, pm_22 G, pm_23 G, pm_25 G, pm_26 G, pm_27 G, pm_28 G, pm_31 G, pm_32 G, pm_33 G, pm_34 G, pm_35 G, pm_36 G, pm_38 G, pm_39 G, pm_40 G, pm_41 G, pm_42 G, pm_43 G, pm_44 G, pm_45 G, pm_46 G, r_isWork, r_isTag, r_isPerson, r_isFace, r_h0, r_h1, r_h2, r_h3, n10, n20, n30, n00, if_true, if_false, not_true_eq_false, not_false_eq_true, false_and, and_false, decide_false, decide_true, isIx_bad (show 12 < 10000 by omega) hx]
/-! ## faces that are the same -/
section Same
variable {W : Nat} {h : am_H}
theorem c_same37 (H : ShC h) (x3 J : Int32) : ∀ (n k : Nat) (g : am_H), k ≤ 32 → 32 < k + n → Lp (pX [] [17]) h g → (∀ j, m_gi g 17 0 j = if j < k ∧ bt J j = true then J else m_gi h 17 0 j) →
    ∃ g', f_X10_same_37 n (69, 0) x3 J (nI k) g = m_ri g' (if x3 = 0 then 1 else 0) ∧ Lp (pX [] [17]) h g' ∧ ∀ j, m_gi g' 17 0 j = if j < 32 ∧ bt J j = true then J else m_gi h 17 0 j
  | 0, k, g, h1, h2, _, _ => by omega
  | n + 1, k, g, h1, h2, F, i1 => by
    have H' : ShC g := H.frm F.1
    have l : ((32 : Int32) ≤ nI k) = (32 ≤ k) := i_le (a := 32) (by omega) (by omega)
    rw [f_X10_same_37]
    simp only [l, f_X10_same_78, rz_0, rz_1]
    by_cases hk : 32 ≤ k
    · rw [if_pos hk]
      refine ⟨g, ?_, F, fun j => ?_⟩
      · split <;> rfl
      · rw [i1 j, show k = 32 by omega]
    · rw [if_neg hk]
      have hk2 : k < 32 := by omega
      simp only [c_has hk2, bI_ri, bI_eq0, gR_69, pc_same H', sI_17 hk2, f_X10_same_63, nI_1]
      cases hb : bt J k
      · rw [if_pos rfl]
        refine c_same37 H x3 J n (k + 1) g (by omega) (by omega) F (fun j => ?_)
        rw [i1 j]
        by_cases e : j = k
        · subst e; rw [hb]; simp
        · have : (j < k + 1) = (j < k) := propext (by omega)
          simp only [this]
      · rw [if_neg (by decide)]
        refine c_same37 H x3 J n (k + 1) _ (by omega) (by omega) (F.si (s := 17) (k := 0) (j := k) rfl) (fun j => ?_)
        rw [gi_upJ]
        by_cases e : j = k
        · subst e; rw [if_pos rfl, if_pos ⟨by omega, hb⟩]
        · rw [if_neg e, i1 j]
          have : (j < k + 1) = (j < k) := propext (by omega)
          simp only [this]
theorem r_same46 (G : ShM h) (a b : Int32) : ∀ (n k : Nat) (g : am_H), k ≤ 32 → 32 < k + n → Lp (pX [] [32]) h g → (∀ j, m_gi g 32 0 j = if j < k ∧ m_gi h 32 0 j = b then a else m_gi h 32 0 j) →
    ∃ g', f_X11_same_46 n (70, 0) a b (nI k) g = m_ri g' (if a = b then 0 else 1) ∧ Lp (pX [] [32]) h g' ∧ ∀ j, m_gi g' 32 0 j = if j < 32 ∧ m_gi h 32 0 j = b then a else m_gi h 32 0 j
  | 0, k, g, h1, h2, _, _ => by omega
  | n + 1, k, g, h1, h2, F, i1 => by
    have G' : ShM g := G.frm F.1
    have l : ((32 : Int32) ≤ nI k) = (32 ≤ k) := i_le (a := 32) (by omega) (by omega)
    rw [f_X11_same_46]
    simp only [l, f_X11_same_100, rz_0, rz_1]
    by_cases hk : 32 ≤ k
    · rw [if_pos hk]
      refine ⟨g, ?_, F, fun j => ?_⟩
      · split <;> rfl
      · rw [i1 j, show k = 32 by omega]
    · rw [if_neg hk]
      have hk2 : k < 32 := by omega
      have x : m_gi g 32 0 k = m_gi h 32 0 k := by rw [i1, if_neg (fun z => by omega)]
      have step : ∀ v : Int32, v = (if m_gi h 32 0 k = b then a else m_gi h 32 0 k) → ∃ g', f_X11_same_46 n (70, 0) a b (nI (k + 1)) (m_si g 32 0 k v) = m_ri g' (if a = b then 0 else 1) ∧ Lp (pX [] [32]) h g' ∧ ∀ j, m_gi g' 32 0 j = if j < 32 ∧ m_gi h 32 0 j = b then a else m_gi h 32 0 j := fun v hv => by
        refine r_same46 G a b n (k + 1) _ (by omega) (by omega) (F.si (s := 32) (k := 0) (j := k) rfl) (fun j => ?_)
        rw [gi_upJ]
        by_cases e : j = k
        · subst e
          rw [if_pos rfl, hv]
          have : (j < j + 1) = True := eq_true (by omega)
          simp only [this, true_and]
        · rw [if_neg e, i1 j]
          have : (j < k + 1) = (j < k) := propext (by omega)
          simp only [this]
      simp only [gR_70, pm_3 G', aI_32 hk2, x, f_X11_same_82, sI_32 hk2, nI_1]
      by_cases e : m_gi h 32 0 k = b
      · rw [if_pos e]; exact step _ (by rw [if_pos e])
      · rw [if_neg e]; exact step _ (by rw [if_neg e])
theorem c_same5 (H : ShC h) (x3 J : Int32) : ∃ g', f_X10_same_37 5000 (69, 0) x3 J 0 h = m_ri g' (if x3 = 0 then 1 else 0) ∧ Lp (pX [] [17]) h g' ∧ ∀ j, m_gi g' 17 0 j = if j < 32 ∧ bt J j = true then J else m_gi h 17 0 j := by
  obtain ⟨g, r, q⟩ := c_same37 H x3 J 5000 0 h (by omega) (by omega) (Lp.refl _ _) (fun j => by rw [if_neg (fun z => by omega)])
  rw [nI_0] at r
  exact ⟨g, r, q⟩
theorem r_same5 (G : ShM h) (a b : Int32) : ∃ g', f_X11_same_46 5000 (70, 0) a b 0 h = m_ri g' (if a = b then 0 else 1) ∧ Lp (pX [] [32]) h g' ∧ ∀ j, m_gi g' 32 0 j = if j < 32 ∧ m_gi h 32 0 j = b then a else m_gi h 32 0 j := by
  obtain ⟨g, r, q⟩ := r_same46 G a b 5000 0 h (by omega) (by omega) (Lp.refl _ _) (fun j => by rw [if_neg (fun z => by omega)])
  rw [nI_0] at r
  exact ⟨g, r, q⟩
theorem c_same_f (H : ShC h) {f o : Nat} (hf : f < 32) (ho : o < 32) {g : am_H} {v : Int32} (r : f_X10_same_37 5000 (69, 0) (bI (bt (m_gi h 17 0 f) o)) (m_gi h 17 0 f ||| m_gi h 17 0 o) 0 h = m_ri g v) : f_X10_same (69, 0) (nI f) (nI o) h = m_ri g v := by
  rw [f_X10_same, c_checkFace hf, bV_rt, c_checkFace ho, bV_rt, gR_69, pc_same H, aI_17 hf, c_has ho, bI_ri, gR_69, pc_same H, aI_17 hf, gR_69, pc_same H, aI_17 ho]
  exact r
theorem r_same_f (G : ShM h) {f o : Nat} (hf : f < 32) (ho : o < 32) {g : am_H} {v : Int32} (r : f_X11_same_46 5000 (70, 0) (m_gi h 32 0 f) (m_gi h 32 0 o) 0 (m_si h 70 0 0 0) = m_ri g v) : f_X11_same (70, 0) (nI f) (nI o) h = m_ri g v := by
  rw [f_X11_same, r_isFace, isIx_ok (show 32 < 10000 by omega) hf, bI_ri, bI_t, if_neg (by decide), r_isFace, isIx_ok (show 32 < 10000 by omega) ho, bI_ri, bI_t, if_neg (by decide), f_X11_same_20, ao_70, r_h0, bI_ri, if_neg (by decide), gR_70, gr_si, pm_3 G, aI_32 hf, gR_70, gr_si, pm_3 G, aI_32 ho, gi_ne (by decide)]
  exact r
theorem r_same_x1 {x y : Int32} (hx : x < 0 ∨ nI 32 ≤ x) : f_X11_same (70, 0) x y h = m_ri (m_si h 70 0 0 1) 0 := by
  rw [f_X11_same, r_isFace, isIx_bad (show 32 < 10000 by omega) hx, bI_ri, bI_f, if_pos rfl, f_X11_same_19, f_X11_same_20, ao_70, r_h1, bI_ri, if_pos rfl, rz_0]
theorem r_same_x2 {f : Nat} {y : Int32} (hf : f < 32) (hy : y < 0 ∨ nI 32 ≤ y) : f_X11_same (70, 0) (nI f) y h = m_ri (m_si h 70 0 0 1) 0 := by
  rw [f_X11_same, r_isFace, isIx_ok (show 32 < 10000 by omega) hf, bI_ri, bI_t, if_neg (by decide), r_isFace, isIx_bad (show 32 < 10000 by omega) hy, bI_ri, bI_f, if_pos rfl, f_X11_same_19, f_X11_same_20, ao_70, r_h1, bI_ri, if_pos rfl, rz_0]
end Same
theorem op_same {W Cn Tn Sn Qn : Nat} {h : am_H} (R : RR W Cn Tn Sn Qn h) (x y : Int32) : OpOK h (f_G_same (some (69, 0)) x y (some (71, 0)) h) (f_X11_same (70, 0) x y) vB := by
  have R0 := R
  obtain ⟨H, G, rDay, rBlk, rSam, N, rWa, rWc, rWp, rWl, rWo, rWt, rWf, rWw, rWs, rWk, rCo, rTg, rPa, rTp, rSg, rCm, rSb, rDg, rIv⟩ := R
  rcases ix_cases x (n := 32) (by omega) with ⟨f, hf, rfl⟩ | hx
  · have ix := isIx_ok (show 32 < 10000 by omega) hf
    rcases ix_cases y (n := 32) (by omega) with ⟨o, ho, rfl⟩ | hy
    · have iy := isIx_ok (show 32 < 10000 by omega) ho
      have bo := rSam.2 f o hf ho
      obtain ⟨h1, r1, F1, u1⟩ := c_same5 H (bI (bt (m_gi h 17 0 f) o)) (m_gi h 17 0 f ||| m_gi h 17 0 o)
      have ev : (if bI (bt (m_gi h 17 0 f) o) = 0 then (1 : Int32) else 0) = (if m_gi h 32 0 f = m_gi h 32 0 o then 0 else 1) := by
        rw [bo]
        by_cases e : m_gi h 32 0 f = m_gi h 32 0 o
        · rw [if_pos e, decide_eq_true e]; rfl
        · rw [if_neg e, decide_eq_false e]; rfl
      replace r1 := r1.trans (congrArg (m_ri h1) ev)
      have Fs : Frm (pX [] [17]) h (m_sl h1 71 0 0 (vB (if m_gi h 32 0 f = m_gi h 32 0 o then 0 else 1))) := F1.1.sl
      have Fc : Frm (pX [] [17]) h (m_si (m_sl h1 71 0 0 (vB (if m_gi h 32 0 f = m_gi h 32 0 o then 0 else 1))) 70 0 0 0) := F1.1.sl.si rfl
      have G' : ShM (m_si (m_sl h1 71 0 0 (vB (if m_gi h 32 0 f = m_gi h 32 0 o then 0 else 1))) 70 0 0 0) := G.frm Fc
      have Gs : ShM (m_sl h1 71 0 0 (vB (if m_gi h 32 0 f = m_gi h 32 0 o then 0 else 1))) := G.frm Fs
      have cf : m_gi (m_sl h1 71 0 0 (vB (if m_gi h 32 0 f = m_gi h 32 0 o then 0 else 1))) 32 0 f = m_gi h 32 0 f := Fs.1 32 0 f rfl
      have co : m_gi (m_sl h1 71 0 0 (vB (if m_gi h 32 0 f = m_gi h 32 0 o then 0 else 1))) 32 0 o = m_gi h 32 0 o := Fs.1 32 0 o rfl
      have c32 : ∀ j, m_gi (m_si (m_sl h1 71 0 0 (vB (if m_gi h 32 0 f = m_gi h 32 0 o then 0 else 1))) 70 0 0 0) 32 0 j = m_gi h 32 0 j := fun j => Fc.1 32 0 j rfl
      obtain ⟨h2, r2, F2, u2⟩ := r_same5 (h := (m_si (m_sl h1 71 0 0 (vB (if m_gi h 32 0 f = m_gi h 32 0 o then 0 else 1))) 70 0 0 0)) G' (m_gi (m_sl h1 71 0 0 (vB (if m_gi h 32 0 f = m_gi h 32 0 o then 0 else 1))) 32 0 f) (m_gi (m_sl h1 71 0 0 (vB (if m_gi h 32 0 f = m_gi h 32 0 o then 0 else 1))) 32 0 o)
      have F : Frm (pX [] [17, 32]) h h2 := Fc.up.trans F2.1.up
      refine ok_u (h1 := h1) (b := (if m_gi h 32 0 f = m_gi h 32 0 o then 0 else 1)) (h2 := h2) (L_same_ret _ _ ?_) ?_ (F2.2.2.2.2.trans ?_) ((congrFun (congrFun (congrFun F2.2.1 71) 0) 0).trans gl_eq) F1.1.g1 F.g1 ?_ ?_ ?_
      · exact c_same_f H hf ho r1
      · exact r_same_f Gs hf ho (r2.trans (by simp only [cf, co]))
      · rfl
      · rw [F2.2.2.1]; show m_nc h1 ≤ _; rw [F1.2.2.1]; exact Nat.le_add_right _ _
      · rw [F2.2.2.2.1]; show m_ns h1 ≤ _; rw [F1.2.2.2.1]; exact Nat.le_add_right _ _
      · clear r1 r2
        have z17 : ∀ j, m_gi h2 17 0 j = if j < 32 ∧ bt (m_gi h 17 0 f ||| m_gi h 17 0 o) j = true then (m_gi h 17 0 f ||| m_gi h 17 0 o) else m_gi h 17 0 j := fun j => by
          rw [F2.1.1 17 0 j rfl]
          exact u1 j
        have z32 : ∀ j, m_gi h2 32 0 j = if j < 32 ∧ m_gi h 32 0 j = m_gi h 32 0 o then m_gi h 32 0 f else m_gi h 32 0 j := fun j => by
          rw [u2, c32, cf, co]
        have bJ : ∀ j, j < 32 → (bt (m_gi h 17 0 f ||| m_gi h 17 0 o) j = true ↔ m_gi h 32 0 f = m_gi h 32 0 j ∨ m_gi h 32 0 o = m_gi h 32 0 j) := fun j hj => by
          rw [b_or, Bool.or_eq_true, rSam.2 f j hf hj, rSam.2 o j ho hj, decide_eq_true_eq, decide_eq_true_eq]
        refine ⟨W, Cn, Tn, Sn, Qn, ⟨H.frm F, G.frm F, rDay.frm F, rBlk.frm F, ?_, N.frm F, rWa.frm F, rWc.frm F, rWp.frm F, rWl.frm F, rWo.frm F, rWt.frm F, rWf.frm F, rWw.frm F, rWs.frm F, rWk.frm F, rCo.frm F, rTg.frm F, rPa.frm F, rTp.frm F, rSg.frm F, rCm.frm F, rSb.frm F, rDg.frm F, rIv.frm F⟩⟩
        refine ⟨fun j hj => ?_, fun j g hj hg => ?_⟩
        · rw [z32]
          split
          · exact rSam.1 f hf
          · exact rSam.1 j hj
        · rw [z17, z32, z32]
          simp only [hj, hg, true_and]
          rw [Bool.eq_iff_iff, decide_eq_true_eq]
          by_cases e : bt (m_gi h 17 0 f ||| m_gi h 17 0 o) j = true
          · rw [if_pos e, bJ g hg]
            have := (bJ j hj).mp e
            by_cases e1 : m_gi h 32 0 j = m_gi h 32 0 o <;> by_cases e2 : m_gi h 32 0 g = m_gi h 32 0 o <;> simp only [e1, e2, if_true, if_false] <;> grind
          · rw [if_neg e, rSam.2 j g hj hg, decide_eq_true_eq]
            have n1 : ¬ m_gi h 32 0 f = m_gi h 32 0 j := fun z => e ((bJ j hj).mpr (Or.inl z))
            have n2 : ¬ m_gi h 32 0 j = m_gi h 32 0 o := fun z => e ((bJ j hj).mpr (Or.inr z.symm))
            by_cases e2 : m_gi h 32 0 g = m_gi h 32 0 o <;> simp only [n2, e2, if_true, if_false] <;> grind
    · refine ok_ex R0 (c := 1) (b := 0) (by decide) (L_same_x0 _ _ ?_) ?_
      · simp (decide := true) only [f_X10_same_78, f_X10_same_63, f_X10_same, nz_0, nz_1, rz_bI, rz_0, rz_1, bI_eq0, bI_t, bI_f, bI_ri, bI_ex, bR_ra, bR_ex, bV_rt, bV_ex, bW_rt, bJ_ri, bIx_ri, bIx_ex, bVx_rt, bVx_ex, gi_ne, gi_eq, gi_sr, gi_sl, gi_th, gi_op, gr_si, gr_sl, gr_th, gr_op, gr_ne, gl_si, gl_sr, gl_th, gl_op, gl_eq, gi_al, gr_al, gl_al, nx_si, nx_sr, nx_sl, nx_th, nx_op, nx_al, nx_als, nc_si, nc_sr, nc_sl, nc_th, nc_op, nc_al, ns_si, ns_sr, ns_sl, ns_th, ns_op, ns_al, gi_neI, aR_2, sR_2, aI_3, sI_3, aI_4, sI_4, aI_5, sI_5, aI_6, sI_6, aI_7, sI_7, aI_8, sI_8, aI_9, sI_9, aI_10, sZ_10, aI_11, sI_11, aI_12, sI_12, aI_13, sI_13, aI_14, sC_14, gI_15, gR_15, pI_15, pR_15, pZ_15, ao_15, pC_15, aI_16, sI_16, aI_17, sI_17, aR_18, sR_18, aR_19, sR_19, aR_20, sR_20, gI_21, gR_21, pI_21, pR_21, pZ_21, ao_21, gI_22, gR_22, pI_22, pR_22, pZ_22, ao_22, gI_23, gR_23, pI_23, pR_23, pZ_23, ao_23, gI_24, gR_24, pI_24, pR_24, pZ_24, ao_24, aR_25, sR_25, gI_26, gR_26, pI_26, pR_26, pZ_26, ao_26, gI_27, gR_27, pI_27, pR_27, pZ_27, ao_27, gI_28, gR_28, pI_28, pR_28, pZ_28, ao_28, gI_29, gR_29, pI_29, pR_29, pZ_29, ao_29, gI_30, gR_30, pI_30, pR_30, pZ_30, ao_30, gI_69, gR_69, pI_69, pR_69, pZ_69, ao_69, pc_same H, pc_people H, pc_works H, pc_cols H, pc_tags H, pc_tape H, pc_sieve H, pc_gifts H, pc_coms H, pc_mean H, pc_par H, pc_abv H, pc_chars H, pc_scan H, pc_parts H, pc_items H, pc_nots H, pc_signs H, pc_recv H, pc_ways H, if_true, if_false, c_checkFace hf, c_checkFace_bad hy]
      · exact r_same_x2 hf hy
  · refine ok_ex R0 (c := 1) (b := 0) (by decide) (L_same_x0 _ _ ?_) ?_
    · simp (decide := true) only [f_X10_same_78, f_X10_same_63, f_X10_same, nz_0, nz_1, rz_bI, rz_0, rz_1, bI_eq0, bI_t, bI_f, bI_ri, bI_ex, bR_ra, bR_ex, bV_rt, bV_ex, bW_rt, bJ_ri, bIx_ri, bIx_ex, bVx_rt, bVx_ex, gi_ne, gi_eq, gi_sr, gi_sl, gi_th, gi_op, gr_si, gr_sl, gr_th, gr_op, gr_ne, gl_si, gl_sr, gl_th, gl_op, gl_eq, gi_al, gr_al, gl_al, nx_si, nx_sr, nx_sl, nx_th, nx_op, nx_al, nx_als, nc_si, nc_sr, nc_sl, nc_th, nc_op, nc_al, ns_si, ns_sr, ns_sl, ns_th, ns_op, ns_al, gi_neI, aR_2, sR_2, aI_3, sI_3, aI_4, sI_4, aI_5, sI_5, aI_6, sI_6, aI_7, sI_7, aI_8, sI_8, aI_9, sI_9, aI_10, sZ_10, aI_11, sI_11, aI_12, sI_12, aI_13, sI_13, aI_14, sC_14, gI_15, gR_15, pI_15, pR_15, pZ_15, ao_15, pC_15, aI_16, sI_16, aI_17, sI_17, aR_18, sR_18, aR_19, sR_19, aR_20, sR_20, gI_21, gR_21, pI_21, pR_21, pZ_21, ao_21, gI_22, gR_22, pI_22, pR_22, pZ_22, ao_22, gI_23, gR_23, pI_23, pR_23, pZ_23, ao_23, gI_24, gR_24, pI_24, pR_24, pZ_24, ao_24, aR_25, sR_25, gI_26, gR_26, pI_26, pR_26, pZ_26, ao_26, gI_27, gR_27, pI_27, pR_27, pZ_27, ao_27, gI_28, gR_28, pI_28, pR_28, pZ_28, ao_28, gI_29, gR_29, pI_29, pR_29, pZ_29, ao_29, gI_30, gR_30, pI_30, pR_30, pZ_30, ao_30, gI_69, gR_69, pI_69, pR_69, pZ_69, ao_69, pc_same H, pc_people H, pc_works H, pc_cols H, pc_tags H, pc_tape H, pc_sieve H, pc_gifts H, pc_coms H, pc_mean H, pc_par H, pc_abv H, pc_chars H, pc_scan H, pc_parts H, pc_items H, pc_nots H, pc_signs H, pc_recv H, pc_ways H, if_true, if_false, c_checkFace_bad hx]
    · exact r_same_x1 hx
