/-! ## the law's first loop: four tags and four works -/
theorem c_tg {g : am_H} (H : ShC g) {j : Nat} (hj : j < 30) (e : m_gi g 21 0 0 = nI j) : ∃ g1, f_X10_tag (69, 0) g = m_ri g1 (nI j) ∧ m_gi g1 21 0 0 = nI (j + 1) ∧ m_gi g1 69 0 4 = m_gi g 69 0 4 := by
  have q : m_gi (m_si g 11 0 j (-1)) 21 0 0 = nI j := by rw [gi_ne (by decide)]; exact e
  have q2 : m_gi (m_si (m_si g 11 0 j (-1)) 21 0 0 (nI (j + 1))) 21 0 0 = nI (j + 1) := gi_eq
  refine ⟨m_si (m_si g 11 0 j (-1)) 21 0 0 (nI (j + 1)), ?_, q2, by rw [gi_ne (by decide), gi_ne (by decide)]⟩
  rw [f_X10_tag, gR_69, pc_tags H, gI_21, e, if_pos (show nI j < (30 : Int32) from nI_lt (b := 30) hj (by omega)), gR_69, pc_tags H, ao_21, f_X7_add, gR_21, pc_mean H, gI_21, e, sI_11 hj, gI_21, q, pI_21, nI_1, gI_21, q2, nI_pred, bI_ri]
theorem c_wk {g : am_H} (H : ShC g) {j k : Nat} (hj : j < 20) (hk : k < 4) (e : m_gi g 69 0 4 = nI j) : ∃ g1, f_X10_work (69, 0) (nI k) (nI k) g = m_ri g1 (nI j) ∧ m_gi g1 69 0 4 = nI (j + 1) ∧ m_gi g1 21 0 0 = m_gi g 21 0 0 := by
  rw [f_X10_work, c_checkPerson (by omega), bV_rt, if_neg (nI_pos (show k < 2 ^ 31 by omega)), if_pos (show nI k ≤ (3 : Int32) from nI_le (b := 3) (by omega) (by omega)), gI_69, e, if_pos (show nI j < (20 : Int32) from nI_lt (b := 20) hj (by omega)), gR_69, pc_works H, gI_69, e, new_eq, f_X9_init, new_eq, pR_27, pI_27, pI_27, pI_27, bW_rt, sR_19 hj, gI_69]
  have q : m_gi (m_sr (m_si (m_si (m_si (m_sr (m_al (m_al g 27 12) 16 8) 27 (m_nx g 27) 2 (some (16, m_nx (m_al g 27 12) 16))) 27 (m_nx g 27) 4 (-1)) 27 (m_nx g 27) 1 ((1 : Int32) <<< (nI k &&& 31))) 27 (m_nx g 27) 0 (nI k)) 19 0 j (some (27, m_nx g 27))) 69 0 4 = nI j := by
    rw [gi_sr, gi_ne (by decide), gi_ne (by decide), gi_ne (by decide), gi_sr, gi_al (by decide), gi_al (by decide)]; exact e
  have q3 : m_gi (m_sr (m_si (m_si (m_si (m_sr (m_al (m_al g 27 12) 16 8) 27 (m_nx g 27) 2 (some (16, m_nx (m_al g 27 12) 16))) 27 (m_nx g 27) 4 (-1)) 27 (m_nx g 27) 1 ((1 : Int32) <<< (nI k &&& 31))) 27 (m_nx g 27) 0 (nI k)) 19 0 j (some (27, m_nx g 27))) 21 0 0 = m_gi g 21 0 0 := by
    rw [gi_sr, gi_ne (by decide), gi_ne (by decide), gi_ne (by decide), gi_sr, gi_al (by decide), gi_al (by decide)]
  rw [q, pI_69, nI_1, gI_69, gi_eq, nI_pred]
  exact ⟨_, rfl, gi_eq, by rw [gi_ne (by decide)]; exact q3⟩
theorem sti_v {b : Bool} {d d' : Nat → Nat} {g h g1 : am_H} {rc r mr : am_R} {mf : am_H → am_R} {v : Int32} (I : StI b d g h rc r mr mf vI) (hc : eqQA Sc (rhoS b) d' g h rc r) (e : rc = m_ri g1 v) : ∃ h' g', r = m_ri h' v ∧ PostC b g h g' h' 1 ∧ Tr mf id g g' v ∧ CL g1 g' ∧ ∀ s, s ∈ [16, 27, 28, 29, 30] → m_nx g' s = m_nx g s + d s := by
  rcases I with ⟨h', g', y, x, g2, w, b', a1, a2, a3, ⟨a4, a5, a6⟩, a7, a8, a9, a10, a11⟩ | ⟨h', g', x, g2, k, b', a1, a2, a3, a4, a5, a6⟩
  · rw [e] at a2; cases a2
    exact ⟨h', g', a1, PostC.of a3, ⟨x, g2, some (.inl b'), a4, a5, a6, by rw [if_pos a7]; exact vI_inj a8⟩, a10, a11⟩
  · exfalso
    rcases hc with ⟨z, -⟩ | ⟨hs, hb, o, o', d1, d2, d3, d4, d5⟩
    · rw [e] at z; cases z
    · rw [e] at d1; cases d1
      rw [a1] at d2
      cases d2
      exact d4.elim
def Ct (k : Nat) (j : Nat) (g : am_H) : Prop := m_gi g 21 0 0 = nI k ∧ m_gi g 69 0 4 = nI j
theorem Ct.cl {k j : Nat} {g1 g' : am_H} (c : CL g1 g') (h1 : m_gi g1 21 0 0 = nI k) (h2 : m_gi g1 69 0 4 = nI j) : Ct k j g' := ⟨(c 21 0 0 rfl).1.trans h1, (c 69 0 4 rfl).1.trans h2⟩
theorem RRx.H {g : am_H} (R : RRx g) : ShC g := by
  obtain ⟨W, Cn, Tn, Sn, Qn, R⟩ := R
  exact R.H
theorem tw_tag {go gp h : am_H} {k j : Nat} (T : Tw go gp h) (hk : k < 30) (c1 : Ct k j go) (c2 : Ct k j gp) : ∃ h1 h2 go' gp', f_X10_tag (69, 0) h = m_ri h1 (nI k) ∧ f_X10_tag (72, 0) h1 = m_ri h2 (nI k) ∧ Tw go' gp' h2 ∧ Ct (k + 1) j go' ∧ Ct (k + 1) j gp' ∧ Cost h h2 2 := by
  obtain ⟨y1, a1, a2, a3⟩ := c_tg T.1.1.2.2.2.H hk c1.1
  obtain ⟨h1, go', b1, b2, b3, b4, b5⟩ := sti_v (st_tag T.1.1) (e_X10_tag (rhoS_ok false) T.1.1.1 (69, 0) rfl).toA a1
  have T1 := T.1.o b2
  obtain ⟨y2, d1, d2, d3⟩ := c_tg T1.2.1.2.2.2.H hk c2.1
  obtain ⟨h2, gp', e1, e2, e3, e4, e5⟩ := sti_v (st_tag T1.2.1) (e_X10_tag (rhoS_ok true) T1.2.1.1 (69, 0) rfl).toA d1
  rw [rho_f] at b1
  rw [rho_t] at e1
  exact ⟨h1, h2, go', gp', b1, e1, ⟨T1.p e2, (Tr.det (fun p q A => e_X11_tag id_ok A (70, 0) rfl) T.2 b3 e3).2⟩, Ct.cl b4 a2 (a3.trans c1.2), Ct.cl e4 d2 (d3.trans c2.2), b2.2.2.2.trans e2.2.2.2⟩
theorem tw_work {go gp h : am_H} {k j : Nat} (T : Tw go gp h) (hj : j < 20) (hk : k < 4) {t : Nat} (c1 : Ct t j go) (c2 : Ct t j gp) : ∃ h1 h2 go' gp', f_X10_work (69, 0) (nI k) (nI k) h = m_ri h1 (nI j) ∧ f_X10_work (72, 0) (nI k) (nI k) h1 = m_ri h2 (nI j) ∧ Tw go' gp' h2 ∧ Ct t (j + 1) go' ∧ Ct t (j + 1) gp' ∧ Cost h h2 2 := by
  obtain ⟨y1, a1, a2, a3⟩ := c_wk T.1.1.2.2.2.H hj hk c1.2
  have q1 := ea_X10_work T.1.1.1 (69, 0) rfl (nI k) (nI k) (Anx_f T (by decide)) (Anx_f T (by decide))
  obtain ⟨h1, go', b1, b2, b3, b4, b5⟩ := sti_v (st_work T.1.1 _ _ q1) q1 a1
  have T1 := T.1.o b2
  obtain ⟨y2, d1, d2, d3⟩ := c_wk T1.2.1.2.2.2.H hj hk c2.2
  have q2 := ea_X10_work T1.2.1.1 (69, 0) rfl (nI k) (nI k) (Anx_t T T1 (by decide) (b5 27 (by decide))) (Anx_t T T1 (by decide) (b5 16 (by decide)))
  obtain ⟨h2, gp', e1, e2, e3, e4, e5⟩ := sti_v (st_work T1.2.1 _ _ q2) q2 d1
  rw [rho_f] at b1
  rw [rho_t] at e1
  exact ⟨h1, h2, go', gp', b1, e1, ⟨T1.p e2, (Tr.det (fun p q A => e_X11_work id_ok A (70, 0) rfl (nI k) (nI k)) T.2 b3 e3).2⟩, Ct.cl b4 (a3.trans c1.1) a2, Ct.cl e4 (d3.trans c2.1) d2, b2.2.2.2.trans e2.2.2.2⟩
/-! ## the law's second loop, and its end -/
theorem dv_n {n : Int32} {r : am_R} (h : n ≠ 0) : m_dv n r = r := by
  unfold m_dv
  rw [show (!(n == 0)) = true by simp [h]]
  rfl
theorem cell_ok {x : Int32} (hx : ¬ x < 0) (h : am_H) : ∃ v, f_L_cell x h = m_ri h v := by
  unfold f_L_cell m_sln
  by_cases z : m_gi h 1 1 0 ≤ x
  · exact ⟨_, if_pos z⟩
  · refine ⟨m_gi h 1 0 x.toNatClampNeg, (if_neg z).trans ?_⟩
    unfold m_scr
    rw [decide_eq_true (show ¬ x < 0 ∧ x < m_gi h 1 1 0 from ⟨hx, Int32.not_le.mp z⟩)]
    rfl
theorem al_bI {N M : Nat} {h : am_H} {r : am_R} {K E : am_H → am_R} (A : AlR N h r) (k : ∀ go gp h', Tw go gp h' → AlR M h' (K h')) : AlR (N + M) h (m_bI r fun h1 v => if v = 0 then E h1 else K h1) := by
  obtain ⟨h', go, gp, a1, a2, a3⟩ := A
  rw [a1, bI_ri, if_neg (by decide)]
  exact AlR.step a3 (k go gp h' a2)
theorem law_258 {go gp h : am_H} (T : Tw go gp h) : AlR 502 h (f_L_law_258 (some (69, 0)) (some (72, 0)) 1 h) := by
  rw [f_L_law_258, if_neg (by decide)]
  refine al_bI (N := 500) (M := 2) (areAlike_ok 7 T) (fun go gp h T => ?_)
  obtain ⟨h', a1, a2⟩ := areTags_ok T.1.2.1
  rw [rho_t] at a1
  rw [a1, bI_ri, if_neg (by decide)]
  exact ⟨h', go, gp, rfl, ⟨T.1.p a2, T.2⟩, a2.2.2.2⟩
section LAW
variable {rc : Nat × Nat → Option (Nat × Nat) → Option (Nat × Nat) → Int32 → Int32 → am_H → am_R} {x4 : Int32} {M : Nat}
theorem law_246 (k : ∀ go gp h, Tw go gp h → AlR M h (rc (1, 0) (some (69, 0)) (some (72, 0)) 1 (x4 + 1) h)) {go gp h : am_H} (T : Tw go gp h) : AlR M h (f_L_law_246 rc (1, 0) (some (69, 0)) (some (72, 0)) x4 h) := k go gp h T
theorem law_225 (k : ∀ go gp h, Tw go gp h → AlR M h (rc (1, 0) (some (69, 0)) (some (72, 0)) 1 (x4 + 1) h)) (x5 : Int32) {go gp h : am_H} (T : Tw go gp h) : AlR (10 + M) h (f_L_law_225 rc (1, 0) (some (69, 0)) (some (72, 0)) x4 x5 h) := by
  rw [f_L_law_225, dv_n (by decide)]
  by_cases q : x4 - x4 / 25 * 25 = 5
  · rw [if_pos q]
    exact al_bI (areGiven_ok _ T) (fun go gp h T => law_246 k T)
  · rw [if_neg q]
    exact (law_246 k T).le (by omega)
theorem law_200 (k : ∀ go gp h, Tw go gp h → AlR M h (rc (1, 0) (some (69, 0)) (some (72, 0)) 1 (x4 + 1) h)) (x5 : Int32) {go gp h : am_H} (T : Tw go gp h) : AlR (1 + (10 + M)) h (f_L_law_200 rc (1, 0) (some (69, 0)) (some (72, 0)) x4 x5 h) := by
  rw [f_L_law_200, dv_n (by decide)]
  by_cases q : x4 - x4 / 16 * 16 = 7
  · rw [if_pos q]
    exact al_bI (areParted_ok _ T) (fun go gp h T => law_225 k x5 T)
  · rw [if_neg q]
    exact (law_225 k x5 T).le (by omega)
theorem law_184 (k : ∀ go gp h, Tw go gp h → AlR M h (rc (1, 0) (some (69, 0)) (some (72, 0)) 1 (x4 + 1) h)) (x5 : Int32) {go gp h : am_H} (T : Tw go gp h) : AlR (2 + (1 + (10 + M))) h (f_L_law_184 rc (1, 0) (some (69, 0)) (some (72, 0)) x4 x5 h) := by
  rw [f_L_law_184, dv_n (by decide)]
  by_cases q : x4 - x4 / 8 * 8 = 3
  · rw [if_pos q]
    obtain ⟨h', a1, a2⟩ := areTags_ok T.1.1
    rw [rho_f] at a1
    rw [a1, bI_ri, if_neg (by decide)]
    exact AlR.step a2.2.2.2 (law_200 k x5 ⟨T.1.o a2, T.2⟩)
  · rw [if_neg q]
    exact (law_200 k x5 T).le (by omega)
theorem law_154 (k : ∀ go gp h, Tw go gp h → AlR M h (rc (1, 0) (some (69, 0)) (some (72, 0)) 1 (x4 + 1) h)) (x5 : Int32) {go gp h : am_H} (T : Tw go gp h) : AlR (500 + (2 + (1 + (10 + M)))) h (f_L_law_149 rc (1, 0) (some (69, 0)) (some (72, 0)) x4 x5 h) := by
  rw [f_L_law_149, f_L_law_154, if_neg (by decide), dv_n (by decide)]
  by_cases q : x4 - x4 / 15 * 15 = 14
  · rw [if_pos q]
    exact al_bI (areAlike_ok _ T) (fun go gp h T => law_184 k x5 T)
  · rw [if_neg q]
    exact (law_184 k x5 T).le (by omega)
end LAW
theorem law_90 : ∀ (m n k : Nat) (go gp h : am_H), k + m = 150 → m < n → Tw go gp h → AlR (553 * m + 502) h (f_L_law_90 n (1, 0) (some (69, 0)) (some (72, 0)) 1 (nI k) h)
  | _, 0, _, _, _, _, _, hn, _ => by omega
  | 0, n + 1, k, go, gp, h, hk, hn, T => by
    rw [f_L_law_90, if_pos (show (150 : Int32) ≤ nI k from (nI_leI (a := 150) (b := k) (by omega) (by omega)).mpr (by omega))]
    exact law_258 T
  | m + 1, n + 1, k, go, gp, h, hk, hn, T => by
    rw [f_L_law_90, if_neg (fun z => by have := (nI_leI (a := 150) (b := k) (by omega) (by omega)).mp z; omega), if_neg (by decide), dv_n (by decide)]
    have em : nI k - nI k / (61 : Int32) * (61 : Int32) = nI (k % 61) := nI_mod (m := k) (k := 61) (by omega) (by decide) (by decide)
    rw [em]
    obtain ⟨v, ev⟩ := cell_ok (x := nI (k % 61)) (nI_pos (by omega)) h
    rw [ev, bI_ri, dv_n (by decide)]
    generalize v + (2153 : Int32) * (nI k / 61) = a
    have next : ∀ go gp h, Tw go gp h → AlR (553 * m + 502) h (f_L_law_90 n (1, 0) (some (69, 0)) (some (72, 0)) 1 (nI k + 1) h) := fun go gp h T => by
      rw [nI_1]
      exact law_90 m n (k + 1) go gp h (by omega) (by omega) T
    obtain ⟨h1, w, a1, a2, a3⟩ := act_ok a T
    rw [show f_L_act (some (69, 0)) a h = m_ri h1 w from a1, bI_ri]
    rcases a3 with ⟨z, go', T1⟩ | ⟨z, h2, go', gp', b1, T2, b3⟩
    · rw [if_pos z]
      exact (AlR.step a2 (law_154 next a T1)).le (by omega)
    · rw [if_neg z, show f_L_act (some (72, 0)) a h1 = m_ri h2 w from b1, bI_ri, if_pos rfl]
      exact (AlR.step a2 (AlR.step b3 (law_154 next a T2))).le (by omega)
theorem law_21 : ∀ (m n k : Nat) (go gp h : am_H), k + m = 4 → m < n → Tw go gp h → Ct k k go → Ct k k gp → AlR (4 * m + 90000) h (f_L_law_21 n (1, 0) (some (69, 0)) (some (72, 0)) 1 (nI k) h)
  | _, 0, _, _, _, _, _, hn, _, _, _ => by omega
  | 0, n + 1, k, go, gp, h, hk, hn, T, _, _ => by
    rw [f_L_law_21, if_pos (show (4 : Int32) ≤ nI k from (nI_leI (a := 4) (b := k) (by omega) (by omega)).mpr (by omega)), f_L_law_87]
    exact (law_90 150 5000 0 go gp h (by omega) (by omega) T).le (by omega)
  | m + 1, n + 1, k, go, gp, h, hk, hn, T, c1, c2 => by
    rw [f_L_law_21, if_neg (fun z => by have := (nI_leI (a := 4) (b := k) (by omega) (by omega)).mp z; omega), if_neg (by decide), ao_69]
    obtain ⟨h1, h2, go', gp', a1, a2, a3, a4, a5, a6⟩ := tw_tag T (show k < 30 by omega) c1 c2
    rw [a1, bI_ri, if_pos rfl, ao_72, a2, bI_ri, if_pos rfl, ao_69]
    obtain ⟨h3, h4, go2, gp2, b1, b2, b3, b4, b5, b6⟩ := tw_work (k := k) a3 (show k < 20 by omega) (by omega) a4 a5
    rw [b1, bI_ri, if_pos rfl, ao_72, b2, bI_ri, if_pos rfl, f_L_law_80, nI_1]
    exact (AlR.step a6 (AlR.step b6 (law_21 m n (k + 1) go2 gp2 h4 (by omega) (by omega) b3 b4 b5))).le (by omega)
/-- the law returns true, and stays within its room -/
theorem law_pure (n : Nat) (xs : Nat → Int32) : ∃ h', f_L_law (am_h0 n xs) = some (h', .inl (some (.inl 1))) ∧ m_nc h' ≤ 797181 ∧ m_ns h' ≤ 6710082 := by
  obtain ⟨hC, hD, g0, a1, a2, a3, a4, T, R, c1, c2⟩ := both_init n xs
  have cg : Ct 0 0 g0 := ⟨R.rTg.2.1, R.N.2.1⟩
  obtain ⟨h', go, gp, b1, b2, b3, b4⟩ := law_21 4 5000 0 g0 g0 hD (by omega) (by omega) T cg cg
  refine ⟨h', ?_, by omega, by omega⟩
  rw [f_L_law, new_eq, a2, a1, bW_rt, new_eq, a3, a4, bW_rt]
  exact b1
