/-! ## kudos -/
set_option maxRecDepth 20000 in
theorem low_bits : ∀ k, k < 32 → ∀ j, j < 32 → bt (one k - 1) j = decide (j < k) := by decide +kernel
def cl (h : am_H) (f : Nat) : Nat := (m_gi h 32 0 f).toNatClampNeg
/-- the classes of the first n faces that are in s -/
def gvS (h : am_H) (s : Int32) : Nat → Int32
  | 0 => 0
  | n + 1 => gvS h s n ||| (if bt s n then one (cl h n) else 0)
theorem gvS_eq {g h : am_H} (e : m_gi g 32 = m_gi h 32) (s : Int32) : ∀ n, gvS g s n = gvS h s n
  | 0 => rfl
  | n + 1 => by rw [gvS, gvS, gvS_eq e s n, cl, cl, e]
section Kudos
variable {W Cn : Nat} {h : am_H}
theorem cl_of (S : RSam h) {f : Nat} (hf : f < 32) : cl h f < 32 ∧ m_gi h 32 0 f = nI (cl h f) := by
  obtain ⟨c, hc, e⟩ := S.1 f hf
  unfold cl
  rw [e, nI_clamp (by omega)]
  exact ⟨hc, rfl⟩
theorem cl_eq (S : RSam h) {f g : Nat} (hf : f < 32) (hg : g < 32) : (m_gi h 32 0 f = m_gi h 32 0 g) = (cl h f = cl h g) := by
  obtain ⟨a1, a2⟩ := cl_of S hf
  obtain ⟨b1, b2⟩ := cl_of S hg
  rw [a2, b2, i_eq (by omega) (by omega)]
theorem bt_gvS (S : RSam h) (s : Int32) {c : Nat} (hc : c < 32) : ∀ {n : Nat}, n ≤ 32 → (bt (gvS h s n) c = true ↔ ∃ f, f < n ∧ bt s f = true ∧ cl h f = c)
  | 0, _ => by
    rw [gvS, b_0]
    exact ⟨fun z => (by cases z), fun ⟨f, hf, _⟩ => absurd hf (by omega)⟩
  | n + 1, hn => by
    rw [gvS, b_or, Bool.or_eq_true, bt_gvS S s hc (by omega)]
    constructor
    · rintro (⟨f, a, b, d⟩ | z)
      · exact ⟨f, by omega, b, d⟩
      · cases hb : bt s n
        · rw [hb] at z; simp [b_0] at z
        · rw [hb] at z
          simp only [if_true, bt_one (cl_of S (show n < 32 by omega)).1 hc, decide_eq_true_eq] at z
          exact ⟨n, by omega, hb, z.symm⟩
    · rintro ⟨f, a, b, d⟩
      by_cases e : f = n
      · subst e
        right
        rw [b, if_pos rfl, bt_one (cl_of S (show f < 32 by omega)).1 hc, decide_eq_true_eq]
        exact d.symm
      · exact Or.inl ⟨f, by omega, b, d⟩
theorem first_iff (S : RSam h) (s : Int32) {k : Nat} (hk : k < 32) : ((s &&& m_gi h 17 0 k) &&& (one k - 1) = 0) ↔ bt (gvS h s k) (cl h k) = false := by
  constructor
  · intro z
    cases hb : bt (gvS h s k) (cl h k)
    · rfl
    · obtain ⟨f, a, b, d⟩ := (bt_gvS S s (cl_of S hk).1 (by omega)).mp hb
      have := congrArg (fun y => bt y f) z
      simp only [b_and, b_0, b, low_bits k hk f (by omega), decide_eq_true a, Bool.true_and, Bool.and_true] at this
      rw [S.2 k f hk (by omega), decide_eq_true (show m_gi h 32 0 k = m_gi h 32 0 f by rw [cl_eq S hk (by omega)]; exact d.symm)] at this
      cases this
  · intro z
    apply b_ext
    intro f hf
    rw [b_and, b_and, b_0, low_bits k hk f hf, S.2 k f hk hf]
    cases hb : bt s f
    · rfl
    · by_cases e : f < k
      · have : ¬ m_gi h 32 0 k = m_gi h 32 0 f := fun q => by
          rw [cl_eq S hk hf] at q
          rw [(bt_gvS S s (cl_of S hk).1 (by omega)).mpr ⟨f, e, hb, q.symm⟩] at z
          cases z
        rw [decide_eq_false this]; rfl
      · rw [decide_eq_false e, Bool.and_false]
theorem any_iff (S : RSam h) (s : Int32) {k : Nat} (hk : k < 32) : (s &&& m_gi h 17 0 k = 0) ↔ bt (gvS h s 32) (cl h k) = false := by
  constructor
  · intro z
    cases hb : bt (gvS h s 32) (cl h k)
    · rfl
    · obtain ⟨f, a, b, d⟩ := (bt_gvS S s (cl_of S hk).1 (by omega)).mp hb
      have := congrArg (fun y => bt y f) z
      simp only [b_and, b_0, b, Bool.true_and] at this
      rw [S.2 k f hk (by omega), decide_eq_true (show m_gi h 32 0 k = m_gi h 32 0 f by rw [cl_eq S hk (by omega)]; exact d.symm)] at this
      cases this
  · intro z
    apply b_ext
    intro f hf
    rw [b_and, b_0, S.2 k f hk hf]
    cases hb : bt s f
    · rfl
    · have : ¬ m_gi h 32 0 k = m_gi h 32 0 f := fun q => by
        rw [cl_eq S hk hf] at q
        rw [(bt_gvS S s (cl_of S hk).1 (by omega)).mpr ⟨f, hf, hb, q.symm⟩] at z
        cases z
      rw [decide_eq_false this]; rfl
theorem c_ck4 (H : ShC h) (S : RSam h) {w : Nat} {s : Int32} (e : m_gi h 27 w 11 = s) : ∀ (n k : Nat), k ≤ 32 → 32 < k + n → f_X10_countKudos_4 n (69, 0) (some (27, w)) (nI (pcn (gvS h s k) 32)) (nI k) h = m_ri h (nI (pcn (gvS h s 32) 32))
  | 0, k, h1, h2 => by omega
  | n + 1, k, h1, h2 => by
    have l : ((32 : Int32) ≤ nI k) = (32 ≤ k) := i_le (a := 32) (by omega) (by omega)
    rw [f_X10_countKudos_4]
    simp only [l]
    by_cases hk : 32 ≤ k
    · rw [if_pos hk, show k = 32 by omega]
    · rw [if_neg hk]
      have hk2 : k < 32 := by omega
      have ih := c_ck4 H S e n (k + 1) (by omega) (by omega)
      simp only [gI_27, e, c_has hk2, bI_ri, bI_eq0, gR_69, pc_same H, aI_17 hk2, f_X10_countKudos_48, nI_1, one_eq]
      have pa := pcn_add (s := gvS h s k) (cl_of S hk2).1 32 (Nat.le_refl _)
      rw [decide_eq_true (cl_of S hk2).1, Bool.true_and] at pa
      cases hb : bt s k
      · rw [if_pos rfl]
        rw [gvS, hb] at ih
        simpa [or_0] using ih
      · rw [if_neg (by decide)]
        rw [gvS, hb, if_pos rfl, pa] at ih
        by_cases hf : (s &&& m_gi h 17 0 k) &&& (one k - 1) = 0
        · rw [if_pos hf]
          rw [(first_iff S s hk2).mp hf] at ih
          simpa using ih
        · rw [if_neg hf]
          have : bt (gvS h s k) (cl h k) = true := by
            cases q : bt (gvS h s k) (cl h k)
            · exact absurd ((first_iff S s hk2).mpr q) hf
            · rfl
          rw [this] at ih
          simpa using ih
theorem c_countKudos (H : ShC h) (S : RSam h) {w : Nat} {s : Int32} (e : m_gi h 27 w 11 = s) : f_X10_countKudos (69, 0) (some (27, w)) h = m_ri h (nI (pcn (gvS h s 32) 32)) := by
  have := c_ck4 H S e 5000 0 (by omega) (by omega)
  rw [gvS, pcn_0, nI_0] at this
  rw [f_X10_countKudos]
  exact this
theorem r_gave4 (G : ShM h) (S : RSam h) {w : Nat} (hw : w < 20) : ∀ (n k : Nat), k ≤ 32 → 32 < k + n → f_X11_gave_4 n (70, 0) (nI w) (gvS h (m_gi h 44 0 w) k) (nI k) h = m_ri h (gvS h (m_gi h 44 0 w) 32)
  | 0, k, h1, h2 => by omega
  | n + 1, k, h1, h2 => by
    have l : ((32 : Int32) ≤ nI k) = (32 ≤ k) := i_le (a := 32) (by omega) (by omega)
    rw [f_X11_gave_4]
    simp only [l]
    by_cases hk : 32 ≤ k
    · rw [if_pos hk, show k = 32 by omega]
    · rw [if_neg hk]
      have hk2 : k < 32 := by omega
      have ih := r_gave4 G S hw n (k + 1) (by omega) (by omega)
      rw [gvS] at ih
      simp only [gR_70, pm_16 G, aI_44 hw, r_has hk2, bI_ri, bI_eq0, pm_3 G, aI_32 hk2, (cl_of S hk2).2, f_X11_gave_36, nI_1, one_eq]
      cases hb : bt (m_gi h 44 0 w) k
      · rw [hb] at ih; simpa using ih
      · rw [hb] at ih; simpa using ih
theorem r_gave (G : ShM h) (S : RSam h) {w : Nat} (hw : w < 20) : f_X11_gave (70, 0) (nI w) h = m_ri h (gvS h (m_gi h 44 0 w) 32) := by
  have := r_gave4 G S hw 5000 0 (by omega) (by omega)
  rw [gvS, nI_0] at this
  rw [f_X11_gave]
  exact this
end Kudos
theorem op_liked {W Cn Tn Sn Qn : Nat} {h : am_H} (R : RR W Cn Tn Sn Qn h) (x : Int32) : OpOK h (f_G_liked (some (69, 0)) x (some (71, 0)) h) (f_X11_liked (70, 0) x) vI := by
  have R0 := R
  obtain ⟨H, G, rDay, rBlk, rSam, N, rWa, rWc, rWp, rWl, rWo, rWt, rWf, rWw, rWs, rWk, rCo, rTg, rPa, rTp, rSg, rCm, rSb, rDg, rIv⟩ := R
  have hW := N.1
  rcases ix_cases x (n := W) (by omega) with ⟨w, hw, rfl⟩ | hx
  · have h20 : w < 20 := by omega
    refine ok_q R0 (b := (nI (pcn (gvS h (m_gi h 44 0 w) 32) 32))) (L_liked_ret _ ?_) ?_
    · simp only [f_X10_liked, ao_69, c_workAt H N hw, bR_ra, c_countKudos H rSam (rWk.1 w hw), bI_ri]
    · skip
      have R2 : RR W Cn Tn Sn Qn (m_si (m_sl h 71 0 0 (vI (nI (pcn (gvS h (m_gi h 44 0 w) 32) 32)))) 70 0 0 0) := rr_eqv ((Frm.refl _ h).sl.si rfl) R0
      have e := r_gave R2.G R2.rSam h20
      have es : gvS (m_si (m_sl h 71 0 0 (vI (nI (pcn (gvS h (m_gi h 44 0 w) 32) 32)))) 70 0 0 0) (m_gi (m_si (m_sl h 71 0 0 (vI (nI (pcn (gvS h (m_gi h 44 0 w) 32) 32)))) 70 0 0 0) 44 0 w) 32 = gvS h (m_gi h 44 0 w) 32 := gvS_eq rfl _ _
      rw [es] at e
      simp (decide := true) only [f_X11_liked_32, f_X11_liked_14, f_X11_liked, nz_0, nz_1, rz_bI, rz_0, rz_1, bI_eq0, bI_t, bI_f, bI_ri, bI_ex, bR_ra, bR_ex, bV_rt, bV_ex, bW_rt, bJ_ri, bIx_ri, bIx_ex, bVx_rt, bVx_ex, gi_ne, gi_eq, gi_sr, gi_sl, gi_th, gi_op, gr_si, gr_sl, gr_th, gr_op, gr_ne, gl_si, gl_sr, gl_th, gl_op, gl_eq, gi_al, gr_al, gl_al, nx_si, nx_sr, nx_sl, nx_th, nx_op, nx_al, nx_als, nc_si, nc_sr, nc_sl, nc_th, nc_op, nc_al, ns_si, ns_sr, ns_sl, ns_th, ns_op, ns_al, gi_neI, aI_31, sZ_31, aI_32, sI_32, aI_33, sI_33, aI_34, sI_34, aI_35, sI_35, aI_36, sI_36, aI_37, sI_37, aI_38, sZ_38, aI_39, sI_39, aI_40, sI_40, aI_41, sI_41, aI_42, sZ_42, aI_43, sZ_43, aI_44, sI_44, aI_45, sI_45, aI_46, sI_46, aI_47, sI_47, aI_48, sI_48, aI_49, sI_49, aI_50, sI_50, aI_51, sZ_51, aI_52, sZ_52, aI_53, sZ_53, aI_54, sI_54, aI_55, sI_55, aI_56, sI_56, aI_57, sI_57, aI_58, sZ_58, aI_59, sI_59, aI_60, sI_60, aI_61, sI_61, aI_62, sI_62, aI_63, sZ_63, aI_64, sZ_64, aI_65, sZ_65, aI_66, sI_66, aI_67, sI_67, aI_68, sZ_68, gI_70, gR_70, pI_70, pR_70, pZ_70, ao_70, aL_71, sL_71, pm_2 G, pm_3 G, pm_5 G, pm_6 G, pm_7 G, pm_8 G, pm_9 G, pm_10 G, pm_11 G, pm_12 G, pm_13 G, pm_14 G, pm_15 G, pm_16 G, pm_18 G, pm_19 G, pm_21 G, pm_22 G, pm_23 G, pm_25 G, pm_26 G, pm_27 G, pm_28 G, pm_31 G, pm_32 G, pm_33 G, pm_34 G, pm_35 G, pm_36 G, pm_38 G, pm_39 G, pm_40 G, pm_41 G, pm_42 G, pm_43 G, pm_44 G, pm_45 G, pm_46 G, r_isWork, r_isTag, r_isPerson, r_isFace, r_h0, r_h1, r_h2, r_h3, n10, n20, n30, n00, if_true, if_false, not_true_eq_false, not_false_eq_true, false_and, and_false, decide_false, decide_true, N.2.2.1, isIx_ok (show W < 10000 by omega) hw, e, r_bits]
  · refine ok_ex R0 (c := 1) (b := 0) (by decide) (L_liked_x0 _ ?_) ?_
    · simp only [f_X10_liked, ao_69, c_workAt_bad N hx, bR_ex]
    · simp (decide := true) only [f_X11_liked_32, f_X11_liked_14, f_X11_liked, nz_0, nz_1, rz_bI, rz_0, rz_1, bI_eq0, bI_t, bI_f, bI_ri, bI_ex, bR_ra, bR_ex, bV_rt, bV_ex, bW_rt, bJ_ri, bIx_ri, bIx_ex, bVx_rt, bVx_ex, gi_ne, gi_eq, gi_sr, gi_sl, gi_th, gi_op, gr_si, gr_sl, gr_th, gr_op, gr_ne, gl_si, gl_sr, gl_th, gl_op, gl_eq, gi_al, gr_al, gl_al, nx_si, nx_sr, nx_sl, nx_th, nx_op, nx_al, nx_als, nc_si, nc_sr, nc_sl, nc_th, nc_op, nc_al, ns_si, ns_sr, ns_sl, ns_th, ns_op, ns_al, gi_neI, aI_31, sZ_31, aI_32, sI_32, aI_33, sI_33, aI_34, sI_34, aI_35, sI_35, aI_36, sI_36, aI_37, sI_37, aI_38, sZ_38, aI_39, sI_39, aI_40, sI_40, aI_41, sI_41, aI_42, sZ_42, aI_43, sZ_43, aI_44, sI_44, aI_45, sI_45, aI_46, sI_46, aI_47, sI_47, aI_48, sI_48, aI_49, sI_49, aI_50, sI_50, aI_51, sZ_51, aI_52, sZ_52, aI_53, sZ_53, aI_54, sI_54, aI_55, sI_55, aI_56, sI_56, aI_57, sI_57, aI_58, sZ_58, aI_59, sI_59, aI_60, sI_60, aI_61, sI_61, aI_62, sI_62, aI_63, sZ_63, aI_64, sZ_64, aI_65, sZ_65, aI_66, sI_66, aI_67, sI_67, aI_68, sZ_68, gI_70, gR_70, pI_70, pR_70, pZ_70, ao_70, aL_71, sL_71, pm_2 G, pm_3 G, pm_5 G, pm_6 G, pm_7 G, pm_8 G, pm_9 G, pm_10 G, pm_11 G, pm_12 G, pm_13 G, pm_14 G, pm_15 G, pm_16 G, pm_18 G, pm_19 G, pm_21 G, pm_22 G, pm_23 G, pm_25 G, pm_26 G, pm_27 G, pm_28 G, pm_31 G, pm_32 G, pm_33 G, pm_34 G, pm_35 G, pm_36 G, pm_38 G, pm_39 G, pm_40 G, pm_41 G, pm_42 G, pm_43 G, pm_44 G, pm_45 G, pm_46 G, r_isWork, r_isTag, r_isPerson, r_isFace, r_h0, r_h1, r_h2, r_h3, n10, n20, n30, n00, if_true, if_false, not_true_eq_false, not_false_eq_true, false_and, and_false, decide_false, decide_true, N.2.2.1, isIx_bad (show W < 10000 by omega) hx]
theorem op_kudos {W Cn Tn Sn Qn : Nat} {h : am_H} (R : RR W Cn Tn Sn Qn h) (x y : Int32) : OpOK h (f_G_kudos (some (69, 0)) x y (some (71, 0)) h) (f_X11_kudos (70, 0) x y) vI := by
  have R0 := R
  obtain ⟨H, G, rDay, rBlk, rSam, N, rWa, rWc, rWp, rWl, rWo, rWt, rWf, rWw, rWs, rWk, rCo, rTg, rPa, rTp, rSg, rCm, rSb, rDg, rIv⟩ := R
  have hW := N.1
  obtain ⟨D, hD, d1, d2⟩ := id rDay
  have e69 := d1.trans d2.symm
  rcases ix_cases x (n := W) (by omega) with ⟨w, hw, rfl⟩ | hx
  · have ix := isIx_ok (show W < 10000 by omega) hw
    rcases ix_cases y (n := 32) (by omega) with ⟨f, hf, rfl⟩ | hy
    · have iy := isIx_ok (show 32 < 10000 by omega) hf
      have h20 : w < 20 := by omega
      have clf := cl_of rSam hf
      have cs : (m_gi h 44 0 w &&& m_gi h 17 0 f = 0) = (bt (gvS h (m_gi h 44 0 w) 32) (cl h f) = false) := propext (any_iff rSam _ hf)
      have cS := c_isSeenBy rWa rWp rWl rWo rCo hw hf
      have cO := c_isOwnedBy rWa hw hf
      have sx : ∀ g, Frm (pX [] []) h g → f_X11_isSeen (70, 0) (nI f) (nI w) g = m_ri g (bI (seenP g f w)) := fun g F => r_isSeen (G.frm F) (rWa.frm F) (rWo.frm F) (rCo.frm F) hw h20 hf
      have ox : ∀ g, Frm (pX [] []) h g → f_X11_isOwner (70, 0) (nI f) (nI w) g = m_ri g (bI (ownP g f w)) := fun g F => r_isOwner (G.frm F) (rWa.frm F) hw h20 hf
      have Fe : Frm (pX [] []) h (m_op (m_th h)) := (Frm.refl _ h).th.op rfl
      have se := sx _ Fe
      have oe := ox _ Fe
      have ge := r_gave (G.frm Fe) (rSam.frm Fe) h20
      rw [show seenP (m_op (m_th h)) f w = seenP h f w from rfl] at se
      rw [show ownP (m_op (m_th h)) f w = ownP h f w from rfl] at oe
      rw [show gvS (m_op (m_th h)) (m_gi (m_op (m_th h)) 44 0 w) 32 = gvS h (m_gi h 44 0 w) 32 from gvS_eq (g := m_op (m_th h)) (h := h) rfl _ _] at ge
      cases b1 : seenP h f w
      · refine ok_ex R0 (c := 2) (b := 0) (by decide) (L_kudos_x2 _ _ ?_) ?_
        · simp (decide := true) only [f_X10_kudos_44, f_X10_kudos, nz_0, nz_1, rz_bI, rz_0, rz_1, bI_eq0, bI_t, bI_f, bI_ri, bI_ex, bR_ra, bR_ex, bV_rt, bV_ex, bW_rt, bJ_ri, bIx_ri, bIx_ex, bVx_rt, bVx_ex, gi_ne, gi_eq, gi_sr, gi_sl, gi_th, gi_op, gr_si, gr_sl, gr_th, gr_op, gr_ne, gl_si, gl_sr, gl_th, gl_op, gl_eq, gi_al, gr_al, gl_al, nx_si, nx_sr, nx_sl, nx_th, nx_op, nx_al, nx_als, nc_si, nc_sr, nc_sl, nc_th, nc_op, nc_al, ns_si, ns_sr, ns_sl, ns_th, ns_op, ns_al, gi_neI, aR_2, sR_2, aI_3, sI_3, aI_4, sI_4, aI_5, sI_5, aI_6, sI_6, aI_7, sI_7, aI_8, sI_8, aI_9, sI_9, aI_10, sZ_10, aI_11, sI_11, aI_12, sI_12, aI_13, sI_13, aI_14, sC_14, gI_15, gR_15, pI_15, pR_15, pZ_15, ao_15, pC_15, aI_16, sI_16, aI_17, sI_17, aR_18, sR_18, aR_19, sR_19, aR_20, sR_20, gI_21, gR_21, pI_21, pR_21, pZ_21, ao_21, gI_22, gR_22, pI_22, pR_22, pZ_22, ao_22, gI_23, gR_23, pI_23, pR_23, pZ_23, ao_23, gI_24, gR_24, pI_24, pR_24, pZ_24, ao_24, aR_25, sR_25, gI_26, gR_26, pI_26, pR_26, pZ_26, ao_26, gI_27, gR_27, pI_27, pR_27, pZ_27, ao_27, gI_28, gR_28, pI_28, pR_28, pZ_28, ao_28, gI_29, gR_29, pI_29, pR_29, pZ_29, ao_29, gI_30, gR_30, pI_30, pR_30, pZ_30, ao_30, gI_69, gR_69, pI_69, pR_69, pZ_69, ao_69, pc_same H, pc_people H, pc_works H, pc_cols H, pc_tags H, pc_tape H, pc_sieve H, pc_gifts H, pc_coms H, pc_mean H, pc_par H, pc_abv H, pc_chars H, pc_scan H, pc_parts H, pc_items H, pc_nots H, pc_signs H, pc_recv H, pc_ways H, if_true, if_false, c_workAt H N hw, c_checkFace hf, e69, cS, b1]
        · simp (decide := true) only [f_X11_kudos_86, f_X11_kudos_65, f_X11_kudos_64, f_X11_kudos_20, f_X11_kudos_19, f_X11_kudos, nz_0, nz_1, rz_bI, rz_0, rz_1, bI_eq0, bI_t, bI_f, bI_ri, bI_ex, bR_ra, bR_ex, bV_rt, bV_ex, bW_rt, bJ_ri, bIx_ri, bIx_ex, bVx_rt, bVx_ex, gi_ne, gi_eq, gi_sr, gi_sl, gi_th, gi_op, gr_si, gr_sl, gr_th, gr_op, gr_ne, gl_si, gl_sr, gl_th, gl_op, gl_eq, gi_al, gr_al, gl_al, nx_si, nx_sr, nx_sl, nx_th, nx_op, nx_al, nx_als, nc_si, nc_sr, nc_sl, nc_th, nc_op, nc_al, ns_si, ns_sr, ns_sl, ns_th, ns_op, ns_al, gi_neI, aI_31, sZ_31, aI_32, sI_32, aI_33, sI_33, aI_34, sI_34, aI_35, sI_35, aI_36, sI_36, aI_37, sI_37, aI_38, sZ_38, aI_39, sI_39, aI_40, sI_40, aI_41, sI_41, aI_42, sZ_42, aI_43, sZ_43, aI_44, sI_44, aI_45, sI_45, aI_46, sI_46, aI_47, sI_47, aI_48, sI_48, aI_49, sI_49, aI_50, sI_50, aI_51, sZ_51, aI_52, sZ_52, aI_53, sZ_53, aI_54, sI_54, aI_55, sI_55, aI_56, sI_56, aI_57, sI_57, aI_58, sZ_58, aI_59, sI_59, aI_60, sI_60, aI_61, sI_61, aI_62, sI_62, aI_63, sZ_63, aI_64, sZ_64, aI_65, sZ_65, aI_66, sI_66, aI_67, sI_67, aI_68, sZ_68, gI_70, gR_70, pI_70, pR_70, pZ_70, ao_70, aL_71, sL_71, pm_2 G, pm_3 G, pm_5 G, pm_6 G, pm_7 G, pm_8 G, pm_9 G, pm_10 G, pm_11 G, pm_12 G, pm_13 G, pm_14 G, pm_15 G, pm_16 G, pm_18 G, pm_19 G, pm_21 G, pm_22 G, pm_23 G, pm_25 G, pm_26 G, pm_27 G, pm_28 G, pm_31 G, pm_32 G, pm_33 G, pm_34 G, pm_35 G, pm_36 G, pm_38 G, pm_39 G, pm_40 G, pm_41 G, pm_42 G, pm_43 G, pm_44 G, pm_45 G, pm_46 G, r_isWork, r_isTag, r_isPerson, r_isFace, r_h0, r_h1, r_h2, r_h3, n10, n20, n30, n00, if_true, if_false, not_true_eq_false, not_false_eq_true, false_and, and_false, decide_false, decide_true, N.2.2.1, ix, iy, se, b1]
      · cases b2 : ownP h f w
        · cases b3 : bt (gvS h (m_gi h 44 0 w) 32) (cl h f)
          · skip
            have w1 : ∀ {x : Int32} {i : Nat} {g2 : am_H}, f_X10_with x (nI i) 1 g2 = m_ri g2 (wi x i true) := c_with (b := true)
            have F1 : Frm (pX [(27, 11)] []) h (m_si h 27 w 11 (wi (m_gi h 44 0 w) f true)) := ((Frm.refl _ h).si rfl)
            have Fc : Frm (pX [(27, 11)] []) h (m_sl (m_si h 27 w 11 (wi (m_gi h 44 0 w) f true)) 71 0 0 (vI (nI (pcn (gvS h (wi (m_gi h 44 0 w) f true) 32) 32)))) := (((Frm.refl _ h).si rfl).sl)
            have F : Frm (pX [(27, 11)] [44]) h (m_si (m_si (m_sl (m_si h 27 w 11 (wi (m_gi h 44 0 w) f true)) 71 0 0 (vI (nI (pcn (gvS h (wi (m_gi h 44 0 w) f true) 32) 32)))) 70 0 0 0) 44 0 w (wi (m_gi h 44 0 w) f true)) := (((((Frm.refl _ h).si rfl).sl).si rfl).si rfl)
            have k1 := c_countKudos (h := (m_si h 27 w 11 (wi (m_gi h 44 0 w) f true))) (H.frm F1) (rSam.frm F1) (w := w) (s := (wi (m_gi h 44 0 w) f true)) gi_eq
            rw [gvS_eq (g := (m_si h 27 w 11 (wi (m_gi h 44 0 w) f true))) (h := h) rfl] at k1
            have sc := r_isSeen (h := (m_sl (m_si h 27 w 11 (wi (m_gi h 44 0 w) f true)) 71 0 0 (vI (nI (pcn (gvS h (wi (m_gi h 44 0 w) f true) 32) 32))))) (G.frm Fc) (rWa.frm Fc) (rWo.frm Fc) (rCo.frm Fc) hw h20 hf
            have oc := r_isOwner (h := (m_sl (m_si h 27 w 11 (wi (m_gi h 44 0 w) f true)) 71 0 0 (vI (nI (pcn (gvS h (wi (m_gi h 44 0 w) f true) 32) 32))))) (G.frm Fc) (rWa.frm Fc) hw h20 hf
            have gc := r_gave (h := (m_sl (m_si h 27 w 11 (wi (m_gi h 44 0 w) f true)) 71 0 0 (vI (nI (pcn (gvS h (wi (m_gi h 44 0 w) f true) 32) 32))))) (G.frm Fc) (rSam.frm Fc) h20
            have g2 := r_gave (h := (m_si (m_si (m_sl (m_si h 27 w 11 (wi (m_gi h 44 0 w) f true)) 71 0 0 (vI (nI (pcn (gvS h (wi (m_gi h 44 0 w) f true) 32) 32)))) 70 0 0 0) 44 0 w (wi (m_gi h 44 0 w) f true))) (G.frm F) (rSam.frm F) h20
            rw [show seenP (m_sl (m_si h 27 w 11 (wi (m_gi h 44 0 w) f true)) 71 0 0 (vI (nI (pcn (gvS h (wi (m_gi h 44 0 w) f true) 32) 32)))) f w = seenP h f w from rfl] at sc
            rw [show ownP (m_sl (m_si h 27 w 11 (wi (m_gi h 44 0 w) f true)) 71 0 0 (vI (nI (pcn (gvS h (wi (m_gi h 44 0 w) f true) 32) 32)))) f w = ownP h f w from rfl] at oc
            rw [gvS_eq (g := (m_sl (m_si h 27 w 11 (wi (m_gi h 44 0 w) f true)) 71 0 0 (vI (nI (pcn (gvS h (wi (m_gi h 44 0 w) f true) 32) 32))))) (h := h) rfl, show m_gi (m_sl (m_si h 27 w 11 (wi (m_gi h 44 0 w) f true)) 71 0 0 (vI (nI (pcn (gvS h (wi (m_gi h 44 0 w) f true) 32) 32)))) 44 0 w = m_gi h 44 0 w from rfl] at gc
            rw [gvS_eq (g := (m_si (m_si (m_sl (m_si h 27 w 11 (wi (m_gi h 44 0 w) f true)) 71 0 0 (vI (nI (pcn (gvS h (wi (m_gi h 44 0 w) f true) 32) 32)))) 70 0 0 0) 44 0 w (wi (m_gi h 44 0 w) f true))) (h := h) rfl, gi_eq] at g2
            refine ok_u (hv := fun _ => nI_ne21 (by have := pcn_le (gvS h (wi (m_gi h 44 0 w) f true) 32) 32; omega)) (h1 := (m_si h 27 w 11 (wi (m_gi h 44 0 w) f true))) (b := (nI (pcn (gvS h (wi (m_gi h 44 0 w) f true) 32) 32))) (h2 := (m_si (m_si (m_sl (m_si h 27 w 11 (wi (m_gi h 44 0 w) f true)) 71 0 0 (vI (nI (pcn (gvS h (wi (m_gi h 44 0 w) f true) 32) 32)))) 70 0 0 0) 44 0 w (wi (m_gi h 44 0 w) f true))) (L_kudos_ret _ _ ?_) ?_ rfl rfl rfl rfl (Nat.le_add_right _ _) (Nat.le_add_right _ _) ?_
            · simp (decide := true) only [f_X10_kudos_44, f_X10_kudos, nz_0, nz_1, rz_bI, rz_0, rz_1, bI_eq0, bI_t, bI_f, bI_ri, bI_ex, bR_ra, bR_ex, bV_rt, bV_ex, bW_rt, bJ_ri, bIx_ri, bIx_ex, bVx_rt, bVx_ex, gi_ne, gi_eq, gi_sr, gi_sl, gi_th, gi_op, gr_si, gr_sl, gr_th, gr_op, gr_ne, gl_si, gl_sr, gl_th, gl_op, gl_eq, gi_al, gr_al, gl_al, nx_si, nx_sr, nx_sl, nx_th, nx_op, nx_al, nx_als, nc_si, nc_sr, nc_sl, nc_th, nc_op, nc_al, ns_si, ns_sr, ns_sl, ns_th, ns_op, ns_al, gi_neI, aR_2, sR_2, aI_3, sI_3, aI_4, sI_4, aI_5, sI_5, aI_6, sI_6, aI_7, sI_7, aI_8, sI_8, aI_9, sI_9, aI_10, sZ_10, aI_11, sI_11, aI_12, sI_12, aI_13, sI_13, aI_14, sC_14, gI_15, gR_15, pI_15, pR_15, pZ_15, ao_15, pC_15, aI_16, sI_16, aI_17, sI_17, aR_18, sR_18, aR_19, sR_19, aR_20, sR_20, gI_21, gR_21, pI_21, pR_21, pZ_21, ao_21, gI_22, gR_22, pI_22, pR_22, pZ_22, ao_22, gI_23, gR_23, pI_23, pR_23, pZ_23, ao_23, gI_24, gR_24, pI_24, pR_24, pZ_24, ao_24, aR_25, sR_25, gI_26, gR_26, pI_26, pR_26, pZ_26, ao_26, gI_27, gR_27, pI_27, pR_27, pZ_27, ao_27, gI_28, gR_28, pI_28, pR_28, pZ_28, ao_28, gI_29, gR_29, pI_29, pR_29, pZ_29, ao_29, gI_30, gR_30, pI_30, pR_30, pZ_30, ao_30, gI_69, gR_69, pI_69, pR_69, pZ_69, ao_69, pc_same H, pc_people H, pc_works H, pc_cols H, pc_tags H, pc_tape H, pc_sieve H, pc_gifts H, pc_coms H, pc_mean H, pc_par H, pc_abv H, pc_chars H, pc_scan H, pc_parts H, pc_items H, pc_nots H, pc_signs H, pc_recv H, pc_ways H, if_true, if_false, c_workAt H N hw, c_checkFace hf, e69, cS, b1, cO, b2, rWk.1 w hw, hf, cs, b3, w1, k1]
            · simp (decide := true) only [f_X11_kudos_86, f_X11_kudos_65, f_X11_kudos_64, f_X11_kudos_20, f_X11_kudos_19, f_X11_kudos, nz_0, nz_1, rz_bI, rz_0, rz_1, bI_eq0, bI_t, bI_f, bI_ri, bI_ex, bR_ra, bR_ex, bV_rt, bV_ex, bW_rt, bJ_ri, bIx_ri, bIx_ex, bVx_rt, bVx_ex, gi_ne, gi_eq, gi_sr, gi_sl, gi_th, gi_op, gr_si, gr_sl, gr_th, gr_op, gr_ne, gl_si, gl_sr, gl_th, gl_op, gl_eq, gi_al, gr_al, gl_al, nx_si, nx_sr, nx_sl, nx_th, nx_op, nx_al, nx_als, nc_si, nc_sr, nc_sl, nc_th, nc_op, nc_al, ns_si, ns_sr, ns_sl, ns_th, ns_op, ns_al, gi_neI, aI_31, sZ_31, aI_32, sI_32, aI_33, sI_33, aI_34, sI_34, aI_35, sI_35, aI_36, sI_36, aI_37, sI_37, aI_38, sZ_38, aI_39, sI_39, aI_40, sI_40, aI_41, sI_41, aI_42, sZ_42, aI_43, sZ_43, aI_44, sI_44, aI_45, sI_45, aI_46, sI_46, aI_47, sI_47, aI_48, sI_48, aI_49, sI_49, aI_50, sI_50, aI_51, sZ_51, aI_52, sZ_52, aI_53, sZ_53, aI_54, sI_54, aI_55, sI_55, aI_56, sI_56, aI_57, sI_57, aI_58, sZ_58, aI_59, sI_59, aI_60, sI_60, aI_61, sI_61, aI_62, sI_62, aI_63, sZ_63, aI_64, sZ_64, aI_65, sZ_65, aI_66, sI_66, aI_67, sI_67, aI_68, sZ_68, gI_70, gR_70, pI_70, pR_70, pZ_70, ao_70, aL_71, sL_71, pm_2 G, pm_3 G, pm_5 G, pm_6 G, pm_7 G, pm_8 G, pm_9 G, pm_10 G, pm_11 G, pm_12 G, pm_13 G, pm_14 G, pm_15 G, pm_16 G, pm_18 G, pm_19 G, pm_21 G, pm_22 G, pm_23 G, pm_25 G, pm_26 G, pm_27 G, pm_28 G, pm_31 G, pm_32 G, pm_33 G, pm_34 G, pm_35 G, pm_36 G, pm_38 G, pm_39 G, pm_40 G, pm_41 G, pm_42 G, pm_43 G, pm_44 G, pm_45 G, pm_46 G, r_isWork, r_isTag, r_isPerson, r_isFace, r_h0, r_h1, r_h2, r_h3, n10, n20, n30, n00, if_true, if_false, not_true_eq_false, not_false_eq_true, false_and, and_false, decide_false, decide_true, N.2.2.1, ix, iy, sc, b1, oc, b2, gc, hf, clf.2, r_has clf.1, b3, h20, one_eq, wi_t, g2, r_bits]
            · refine ⟨W, Cn, Tn, Sn, Qn, ⟨H.frm F, G.frm F, rDay.frm F, rBlk.frm F, rSam.frm F, N.frm F, rWa.frm F, rWc.frm F, rWp.frm F, rWl.frm F, rWo.frm F, rWt.frm F, rWf.frm F, rWw.frm F, rWs.frm F, ?_, rCo.frm F, rTg.frm F, rPa.frm F, rTp.frm F, rSg.frm F, rCm.frm F, rSb.frm F, rDg.frm F, rIv.frm F⟩⟩
              have e1 : ∀ j, m_gi (m_si (m_si (m_sl (m_si h 27 w 11 (wi (m_gi h 44 0 w) f true)) 71 0 0 (vI (nI (pcn (gvS h (wi (m_gi h 44 0 w) f true) 32) 32)))) 70 0 0 0) 44 0 w (wi (m_gi h 44 0 w) f true)) 27 j 11 = if j = w then (wi (m_gi h 44 0 w) f true) else m_gi h 27 j 11 := fun j => by
                simp only [m_gi_si, gi_sl]; simp
              have e2 : ∀ j, m_gi (m_si (m_si (m_sl (m_si h 27 w 11 (wi (m_gi h 44 0 w) f true)) 71 0 0 (vI (nI (pcn (gvS h (wi (m_gi h 44 0 w) f true) 32) 32)))) 70 0 0 0) 44 0 w (wi (m_gi h 44 0 w) f true)) 44 0 j = if j = w then (wi (m_gi h 44 0 w) f true) else m_gi h 44 0 j := fun j => by
                simp only [m_gi_si, gi_sl]; simp
              exact ⟨fun j hj => by rw [e1, e2, rWk.1 j hj], fun j a c => by rw [e2, if_neg (by omega)]; exact rWk.2 j a c⟩
          · refine ok_ex R0 (c := 2) (b := 0) (by decide) (L_kudos_x2 _ _ ?_) ?_
            · simp (decide := true) only [f_X10_kudos_44, f_X10_kudos, nz_0, nz_1, rz_bI, rz_0, rz_1, bI_eq0, bI_t, bI_f, bI_ri, bI_ex, bR_ra, bR_ex, bV_rt, bV_ex, bW_rt, bJ_ri, bIx_ri, bIx_ex, bVx_rt, bVx_ex, gi_ne, gi_eq, gi_sr, gi_sl, gi_th, gi_op, gr_si, gr_sl, gr_th, gr_op, gr_ne, gl_si, gl_sr, gl_th, gl_op, gl_eq, gi_al, gr_al, gl_al, nx_si, nx_sr, nx_sl, nx_th, nx_op, nx_al, nx_als, nc_si, nc_sr, nc_sl, nc_th, nc_op, nc_al, ns_si, ns_sr, ns_sl, ns_th, ns_op, ns_al, gi_neI, aR_2, sR_2, aI_3, sI_3, aI_4, sI_4, aI_5, sI_5, aI_6, sI_6, aI_7, sI_7, aI_8, sI_8, aI_9, sI_9, aI_10, sZ_10, aI_11, sI_11, aI_12, sI_12, aI_13, sI_13, aI_14, sC_14, gI_15, gR_15, pI_15, pR_15, pZ_15, ao_15, pC_15, aI_16, sI_16, aI_17, sI_17, aR_18, sR_18, aR_19, sR_19, aR_20, sR_20, gI_21, gR_21, pI_21, pR_21, pZ_21, ao_21, gI_22, gR_22, pI_22, pR_22, pZ_22, ao_22, gI_23, gR_23, pI_23, pR_23, pZ_23, ao_23, gI_24, gR_24, pI_24, pR_24, pZ_24, ao_24, aR_25, sR_25, gI_26, gR_26, pI_26, pR_26, pZ_26, ao_26, gI_27, gR_27, pI_27, pR_27, pZ_27, ao_27, gI_28, gR_28, pI_28, pR_28, pZ_28, ao_28, gI_29, gR_29, pI_29, pR_29, pZ_29, ao_29, gI_30, gR_30, pI_30, pR_30, pZ_30, ao_30, gI_69, gR_69, pI_69, pR_69, pZ_69, ao_69, pc_same H, pc_people H, pc_works H, pc_cols H, pc_tags H, pc_tape H, pc_sieve H, pc_gifts H, pc_coms H, pc_mean H, pc_par H, pc_abv H, pc_chars H, pc_scan H, pc_parts H, pc_items H, pc_nots H, pc_signs H, pc_recv H, pc_ways H, if_true, if_false, c_workAt H N hw, c_checkFace hf, e69, cS, b1, cO, b2, rWk.1 w hw, hf, cs, b3]
            · simp (decide := true) only [f_X11_kudos_86, f_X11_kudos_65, f_X11_kudos_64, f_X11_kudos_20, f_X11_kudos_19, f_X11_kudos, nz_0, nz_1, rz_bI, rz_0, rz_1, bI_eq0, bI_t, bI_f, bI_ri, bI_ex, bR_ra, bR_ex, bV_rt, bV_ex, bW_rt, bJ_ri, bIx_ri, bIx_ex, bVx_rt, bVx_ex, gi_ne, gi_eq, gi_sr, gi_sl, gi_th, gi_op, gr_si, gr_sl, gr_th, gr_op, gr_ne, gl_si, gl_sr, gl_th, gl_op, gl_eq, gi_al, gr_al, gl_al, nx_si, nx_sr, nx_sl, nx_th, nx_op, nx_al, nx_als, nc_si, nc_sr, nc_sl, nc_th, nc_op, nc_al, ns_si, ns_sr, ns_sl, ns_th, ns_op, ns_al, gi_neI, aI_31, sZ_31, aI_32, sI_32, aI_33, sI_33, aI_34, sI_34, aI_35, sI_35, aI_36, sI_36, aI_37, sI_37, aI_38, sZ_38, aI_39, sI_39, aI_40, sI_40, aI_41, sI_41, aI_42, sZ_42, aI_43, sZ_43, aI_44, sI_44, aI_45, sI_45, aI_46, sI_46, aI_47, sI_47, aI_48, sI_48, aI_49, sI_49, aI_50, sI_50, aI_51, sZ_51, aI_52, sZ_52, aI_53, sZ_53, aI_54, sI_54, aI_55, sI_55, aI_56, sI_56, aI_57, sI_57, aI_58, sZ_58, aI_59, sI_59, aI_60, sI_60, aI_61, sI_61, aI_62, sI_62, aI_63, sZ_63, aI_64, sZ_64, aI_65, sZ_65, aI_66, sI_66, aI_67, sI_67, aI_68, sZ_68, gI_70, gR_70, pI_70, pR_70, pZ_70, ao_70, aL_71, sL_71, pm_2 G, pm_3 G, pm_5 G, pm_6 G, pm_7 G, pm_8 G, pm_9 G, pm_10 G, pm_11 G, pm_12 G, pm_13 G, pm_14 G, pm_15 G, pm_16 G, pm_18 G, pm_19 G, pm_21 G, pm_22 G, pm_23 G, pm_25 G, pm_26 G, pm_27 G, pm_28 G, pm_31 G, pm_32 G, pm_33 G, pm_34 G, pm_35 G, pm_36 G, pm_38 G, pm_39 G, pm_40 G, pm_41 G, pm_42 G, pm_43 G, pm_44 G, pm_45 G, pm_46 G, r_isWork, r_isTag, r_isPerson, r_isFace, r_h0, r_h1, r_h2, r_h3, n10, n20, n30, n00, if_true, if_false, not_true_eq_false, not_false_eq_true, false_and, and_false, decide_false, decide_true, N.2.2.1, ix, iy, se, b1, oe, b2, ge, hf, clf.2, r_has clf.1, b3]
        · refine ok_ex R0 (c := 2) (b := 0) (by decide) (L_kudos_x2 _ _ ?_) ?_
          · simp (decide := true) only [f_X10_kudos_44, f_X10_kudos, nz_0, nz_1, rz_bI, rz_0, rz_1, bI_eq0, bI_t, bI_f, bI_ri, bI_ex, bR_ra, bR_ex, bV_rt, bV_ex, bW_rt, bJ_ri, bIx_ri, bIx_ex, bVx_rt, bVx_ex, gi_ne, gi_eq, gi_sr, gi_sl, gi_th, gi_op, gr_si, gr_sl, gr_th, gr_op, gr_ne, gl_si, gl_sr, gl_th, gl_op, gl_eq, gi_al, gr_al, gl_al, nx_si, nx_sr, nx_sl, nx_th, nx_op, nx_al, nx_als, nc_si, nc_sr, nc_sl, nc_th, nc_op, nc_al, ns_si, ns_sr, ns_sl, ns_th, ns_op, ns_al, gi_neI, aR_2, sR_2, aI_3, sI_3, aI_4, sI_4, aI_5, sI_5, aI_6, sI_6, aI_7, sI_7, aI_8, sI_8, aI_9, sI_9, aI_10, sZ_10, aI_11, sI_11, aI_12, sI_12, aI_13, sI_13, aI_14, sC_14, gI_15, gR_15, pI_15, pR_15, pZ_15, ao_15, pC_15, aI_16, sI_16, aI_17, sI_17, aR_18, sR_18, aR_19, sR_19, aR_20, sR_20, gI_21, gR_21, pI_21, pR_21, pZ_21, ao_21, gI_22, gR_22, pI_22, pR_22, pZ_22, ao_22, gI_23, gR_23, pI_23, pR_23, pZ_23, ao_23, gI_24, gR_24, pI_24, pR_24, pZ_24, ao_24, aR_25, sR_25, gI_26, gR_26, pI_26, pR_26, pZ_26, ao_26, gI_27, gR_27, pI_27, pR_27, pZ_27, ao_27, gI_28, gR_28, pI_28, pR_28, pZ_28, ao_28, gI_29, gR_29, pI_29, pR_29, pZ_29, ao_29, gI_30, gR_30, pI_30, pR_30, pZ_30, ao_30, gI_69, gR_69, pI_69, pR_69, pZ_69, ao_69, pc_same H, pc_people H, pc_works H, pc_cols H, pc_tags H, pc_tape H, pc_sieve H, pc_gifts H, pc_coms H, pc_mean H, pc_par H, pc_abv H, pc_chars H, pc_scan H, pc_parts H, pc_items H, pc_nots H, pc_signs H, pc_recv H, pc_ways H, if_true, if_false, c_workAt H N hw, c_checkFace hf, e69, cS, b1, cO, b2]
          · simp (decide := true) only [f_X11_kudos_86, f_X11_kudos_65, f_X11_kudos_64, f_X11_kudos_20, f_X11_kudos_19, f_X11_kudos, nz_0, nz_1, rz_bI, rz_0, rz_1, bI_eq0, bI_t, bI_f, bI_ri, bI_ex, bR_ra, bR_ex, bV_rt, bV_ex, bW_rt, bJ_ri, bIx_ri, bIx_ex, bVx_rt, bVx_ex, gi_ne, gi_eq, gi_sr, gi_sl, gi_th, gi_op, gr_si, gr_sl, gr_th, gr_op, gr_ne, gl_si, gl_sr, gl_th, gl_op, gl_eq, gi_al, gr_al, gl_al, nx_si, nx_sr, nx_sl, nx_th, nx_op, nx_al, nx_als, nc_si, nc_sr, nc_sl, nc_th, nc_op, nc_al, ns_si, ns_sr, ns_sl, ns_th, ns_op, ns_al, gi_neI, aI_31, sZ_31, aI_32, sI_32, aI_33, sI_33, aI_34, sI_34, aI_35, sI_35, aI_36, sI_36, aI_37, sI_37, aI_38, sZ_38, aI_39, sI_39, aI_40, sI_40, aI_41, sI_41, aI_42, sZ_42, aI_43, sZ_43, aI_44, sI_44, aI_45, sI_45, aI_46, sI_46, aI_47, sI_47, aI_48, sI_48, aI_49, sI_49, aI_50, sI_50, aI_51, sZ_51, aI_52, sZ_52, aI_53, sZ_53, aI_54, sI_54, aI_55, sI_55, aI_56, sI_56, aI_57, sI_57, aI_58, sZ_58, aI_59, sI_59, aI_60, sI_60, aI_61, sI_61, aI_62, sI_62, aI_63, sZ_63, aI_64, sZ_64, aI_65, sZ_65, aI_66, sI_66, aI_67, sI_67, aI_68, sZ_68, gI_70, gR_70, pI_70, pR_70, pZ_70, ao_70, aL_71, sL_71, pm_2 G, pm_3 G, pm_5 G, pm_6 G, pm_7 G, pm_8 G, pm_9 G, pm_10 G, pm_11 G, pm_12 G, pm_13 G, pm_14 G, pm_15 G, pm_16 G, pm_18 G, pm_19 G, pm_21 G, pm_22 G, pm_23 G, pm_25 G, pm_26 G, pm_27 G, pm_28 G, pm_31 G, pm_32 G, pm_33 G, pm_34 G, pm_35 G, pm_36 G, pm_38 G, pm_39 G, pm_40 G, pm_41 G, pm_42 G, pm_43 G, pm_44 G, pm_45 G, pm_46 G, r_isWork, r_isTag, r_isPerson, r_isFace, r_h0, r_h1, r_h2, r_h3, n10, n20, n30, n00, if_true, if_false, not_true_eq_false, not_false_eq_true, false_and, and_false, decide_false, decide_true, N.2.2.1, ix, iy, se, b1, oe, b2]
    · refine ok_ex R0 (c := 1) (b := 0) (by decide) (L_kudos_x0 _ _ ?_) ?_
      · simp (decide := true) only [f_X10_kudos_44, f_X10_kudos, nz_0, nz_1, rz_bI, rz_0, rz_1, bI_eq0, bI_t, bI_f, bI_ri, bI_ex, bR_ra, bR_ex, bV_rt, bV_ex, bW_rt, bJ_ri, bIx_ri, bIx_ex, bVx_rt, bVx_ex, gi_ne, gi_eq, gi_sr, gi_sl, gi_th, gi_op, gr_si, gr_sl, gr_th, gr_op, gr_ne, gl_si, gl_sr, gl_th, gl_op, gl_eq, gi_al, gr_al, gl_al, nx_si, nx_sr, nx_sl, nx_th, nx_op, nx_al, nx_als, nc_si, nc_sr, nc_sl, nc_th, nc_op, nc_al, ns_si, ns_sr, ns_sl, ns_th, ns_op, ns_al, gi_neI, aR_2, sR_2, aI_3, sI_3, aI_4, sI_4, aI_5, sI_5, aI_6, sI_6, aI_7, sI_7, aI_8, sI_8, aI_9, sI_9, aI_10, sZ_10, aI_11, sI_11, aI_12, sI_12, aI_13, sI_13, aI_14, sC_14, gI_15, gR_15, pI_15, pR_15, pZ_15, ao_15, pC_15, aI_16, sI_16, aI_17, sI_17, aR_18, sR_18, aR_19, sR_19, aR_20, sR_20, gI_21, gR_21, pI_21, pR_21, pZ_21, ao_21, gI_22, gR_22, pI_22, pR_22, pZ_22, ao_22, gI_23, gR_23, pI_23, pR_23, pZ_23, ao_23, gI_24, gR_24, pI_24, pR_24, pZ_24, ao_24, aR_25, sR_25, gI_26, gR_26, pI_26, pR_26, pZ_26, ao_26, gI_27, gR_27, pI_27, pR_27, pZ_27, ao_27, gI_28, gR_28, pI_28, pR_28, pZ_28, ao_28, gI_29, gR_29, pI_29, pR_29, pZ_29, ao_29, gI_30, gR_30, pI_30, pR_30, pZ_30, ao_30, gI_69, gR_69, pI_69, pR_69, pZ_69, ao_69, pc_same H, pc_people H, pc_works H, pc_cols H, pc_tags H, pc_tape H, pc_sieve H, pc_gifts H, pc_coms H, pc_mean H, pc_par H, pc_abv H, pc_chars H, pc_scan H, pc_parts H, pc_items H, pc_nots H, pc_signs H, pc_recv H, pc_ways H, if_true, if_false, c_workAt H N hw, c_checkFace_bad hy]
      · simp (decide := true) only [f_X11_kudos_86, f_X11_kudos_65, f_X11_kudos_64, f_X11_kudos_20, f_X11_kudos_19, f_X11_kudos, nz_0, nz_1, rz_bI, rz_0, rz_1, bI_eq0, bI_t, bI_f, bI_ri, bI_ex, bR_ra, bR_ex, bV_rt, bV_ex, bW_rt, bJ_ri, bIx_ri, bIx_ex, bVx_rt, bVx_ex, gi_ne, gi_eq, gi_sr, gi_sl, gi_th, gi_op, gr_si, gr_sl, gr_th, gr_op, gr_ne, gl_si, gl_sr, gl_th, gl_op, gl_eq, gi_al, gr_al, gl_al, nx_si, nx_sr, nx_sl, nx_th, nx_op, nx_al, nx_als, nc_si, nc_sr, nc_sl, nc_th, nc_op, nc_al, ns_si, ns_sr, ns_sl, ns_th, ns_op, ns_al, gi_neI, aI_31, sZ_31, aI_32, sI_32, aI_33, sI_33, aI_34, sI_34, aI_35, sI_35, aI_36, sI_36, aI_37, sI_37, aI_38, sZ_38, aI_39, sI_39, aI_40, sI_40, aI_41, sI_41, aI_42, sZ_42, aI_43, sZ_43, aI_44, sI_44, aI_45, sI_45, aI_46, sI_46, aI_47, sI_47, aI_48, sI_48, aI_49, sI_49, aI_50, sI_50, aI_51, sZ_51, aI_52, sZ_52, aI_53, sZ_53, aI_54, sI_54, aI_55, sI_55, aI_56, sI_56, aI_57, sI_57, aI_58, sZ_58, aI_59, sI_59, aI_60, sI_60, aI_61, sI_61, aI_62, sI_62, aI_63, sZ_63, aI_64, sZ_64, aI_65, sZ_65, aI_66, sI_66, aI_67, sI_67, aI_68, sZ_68, gI_70, gR_70, pI_70, pR_70, pZ_70, ao_70, aL_71, sL_71, pm_2 G, pm_3 G, pm_5 G, pm_6 G, pm_7 G, pm_8 G, pm_9 G, pm_10 G, pm_11 G, pm_12 G, pm_13 G, pm_14 G, pm_15 G, pm_16 G, pm_18 G, pm_19 G, pm_21 G, pm_22 G, pm_23 G, pm_25 G, pm_26 G, pm_27 G, pm_28 G, pm_31 G, pm_32 G, pm_33 G, pm_34 G, pm_35 G, pm_36 G, pm_38 G, pm_39 G, pm_40 G, pm_41 G, pm_42 G, pm_43 G, pm_44 G, pm_45 G, pm_46 G, r_isWork, r_isTag, r_isPerson, r_isFace, r_h0, r_h1, r_h2, r_h3, n10, n20, n30, n00, if_true, if_false, not_true_eq_false, not_false_eq_true, false_and, and_false, decide_false, decide_true, N.2.2.1, ix, isIx_bad (show 32 < 10000 by omega) hy]
  · refine ok_ex R0 (c := 1) (b := 0) (by decide) (L_kudos_x0 _ _ ?_) ?_
    · simp (decide := true) only [f_X10_kudos_44, f_X10_kudos, nz_0, nz_1, rz_bI, rz_0, rz_1, bI_eq0, bI_t, bI_f, bI_ri, bI_ex, bR_ra, bR_ex, bV_rt, bV_ex, bW_rt, bJ_ri, bIx_ri, bIx_ex, bVx_rt, bVx_ex, gi_ne, gi_eq, gi_sr, gi_sl, gi_th, gi_op, gr_si, gr_sl, gr_th, gr_op, gr_ne, gl_si, gl_sr, gl_th, gl_op, gl_eq, gi_al, gr_al, gl_al, nx_si, nx_sr, nx_sl, nx_th, nx_op, nx_al, nx_als, nc_si, nc_sr, nc_sl, nc_th, nc_op, nc_al, ns_si, ns_sr, ns_sl, ns_th, ns_op, ns_al, gi_neI, aR_2, sR_2, aI_3, sI_3, aI_4, sI_4, aI_5, sI_5, aI_6, sI_6, aI_7, sI_7, aI_8, sI_8, aI_9, sI_9, aI_10, sZ_10, aI_11, sI_11, aI_12, sI_12, aI_13, sI_13, aI_14, sC_14, gI_15, gR_15, pI_15, pR_15, pZ_15, ao_15, pC_15, aI_16, sI_16, aI_17, sI_17, aR_18, sR_18, aR_19, sR_19, aR_20, sR_20, gI_21, gR_21, pI_21, pR_21, pZ_21, ao_21, gI_22, gR_22, pI_22, pR_22, pZ_22, ao_22, gI_23, gR_23, pI_23, pR_23, pZ_23, ao_23, gI_24, gR_24, pI_24, pR_24, pZ_24, ao_24, aR_25, sR_25, gI_26, gR_26, pI_26, pR_26, pZ_26, ao_26, gI_27, gR_27, pI_27, pR_27, pZ_27, ao_27, gI_28, gR_28, pI_28, pR_28, pZ_28, ao_28, gI_29, gR_29, pI_29, pR_29, pZ_29, ao_29, gI_30, gR_30, pI_30, pR_30, pZ_30, ao_30, gI_69, gR_69, pI_69, pR_69, pZ_69, ao_69, pc_same H, pc_people H, pc_works H, pc_cols H, pc_tags H, pc_tape H, pc_sieve H, pc_gifts H, pc_coms H, pc_mean H, pc_par H, pc_abv H, pc_chars H, pc_scan H, pc_parts H, pc_items H, pc_nots H, pc_signs H, pc_recv H, pc_ways H, if_true, if_false, c_workAt_bad N hx]
    · simp (decide := true) only [f_X11_kudos_86, f_X11_kudos_65, f_X11_kudos_64, f_X11_kudos_20, f_X11_kudos_19, f_X11_kudos, nz_0, nz_1, rz_bI, rz_0, rz_1, bI_eq0, bI_t, bI_f, bI_ri, bI_ex, bR_ra, bR_ex, bV_rt, bV_ex, bW_rt, bJ_ri, bIx_ri, bIx_ex, bVx_rt, bVx_ex, gi_ne, gi_eq, gi_sr, gi_sl, gi_th, gi_op, gr_si, gr_sl, gr_th, gr_op, gr_ne, gl_si, gl_sr, gl_th, gl_op, gl_eq, gi_al, gr_al, gl_al, nx_si, nx_sr, nx_sl, nx_th, nx_op, nx_al, nx_als, nc_si, nc_sr, nc_sl, nc_th, nc_op, nc_al, ns_si, ns_sr, ns_sl, ns_th, ns_op, ns_al, gi_neI, aI_31, sZ_31, aI_32, sI_32, aI_33, sI_33, aI_34, sI_34, aI_35, sI_35, aI_36, sI_36, aI_37, sI_37, aI_38, sZ_38, aI_39, sI_39, aI_40, sI_40, aI_41, sI_41, aI_42, sZ_42, aI_43, sZ_43, aI_44, sI_44, aI_45, sI_45, aI_46, sI_46, aI_47, sI_47, aI_48, sI_48, aI_49, sI_49, aI_50, sI_50, aI_51, sZ_51, aI_52, sZ_52, aI_53, sZ_53, aI_54, sI_54, aI_55, sI_55, aI_56, sI_56, aI_57, sI_57, aI_58, sZ_58, aI_59, sI_59, aI_60, sI_60, aI_61, sI_61, aI_62, sI_62, aI_63, sZ_63, aI_64, sZ_64, aI_65, sZ_65, aI_66, sI_66, aI_67, sI_67, aI_68, sZ_68, gI_70, gR_70, pI_70, pR_70, pZ_70, ao_70, aL_71, sL_71, pm_2 G, pm_3 G, pm_5 G, pm_6 G, pm_7 G, pm_8 G, pm_9 G, pm_10 G, pm_11 G, pm_12 G, pm_13 G, pm_14 G, pm_15 G, pm_16 G, pm_18 G, pm_19 G, pm_21 G, pm_22 G, pm_23 G, pm_25 G, pm_26 G, pm_27 G, pm_28 G, pm_31 G, pm_32 G, pm_33 G, pm_34 G, pm_35 G, pm_36 G, pm_38 G, pm_39 G, pm_40 G, pm_41 G, pm_42 G, pm_43 G, pm_44 G, pm_45 G, pm_46 G, r_isWork, r_isTag, r_isPerson, r_isFace, r_h0, r_h1, r_h2, r_h3, n10, n20, n30, n00, if_true, if_false, not_true_eq_false, not_false_eq_true, false_and, and_false, decide_false, decide_true, N.2.2.1, isIx_bad (show W < 10000 by omega) hx]
