/-! ## matches fit; digests leave no news -/
theorem pcN_0 : pcN 0 = 0 := by decide +kernel
section MT
variable {W Cn Tn Sn Qn : Nat} {g : am_H}
theorem vm (R : RR W Cn Tn Sn Qn g) {K : Nat} (hK : K < Sn) : ∃ g1, f_X10_match (69, 0) (nI K) g = m_ri g1 (mtA (fitP g Tn) Sn K) ∧ Frm PG g g1 ∧ m_nc g1 = m_nc g ∧ m_ns g1 = m_ns g := by
  have hS := R.rSg.1
  have k1 := R.rSg.2.1
  have B0 : GBd Sn Tn g := ⟨R.H, R.G, R.rSg, R.rTg, R.rPa⟩
  obtain ⟨g1, a1, a2, a3, a4⟩ := c_findWays B0
  refine ⟨g1, ?_, a2.1, a2.2.2.1, a2.2.2.2.1⟩
  rw [f_X10_match, if_neg (nI_pos (show K < 2 ^ 31 by omega)), gR_69, pc_gifts R.H, gI_24, k1, if_pos (nI_lt hK (by omega)), gR_69, pc_gifts R.H, gR_69, pc_tags R.H, ao_24, f_X2_receiverOf, ao_24, a1, bV_rt, c_roA (B0.frm a2.1) hK a3 a4, bI_ri]
theorem vm_x (R : RR W Cn Tn Sn Qn g) {K : Nat} (hK : Sn ≤ K) (h9 : K < 10000) : f_X10_match (69, 0) (nI K) g = m_ex g 0 := by
  have hS := R.rSg.1
  rw [f_X10_match, if_neg (nI_pos (show K < 2 ^ 31 by omega)), gR_69, pc_gifts R.H, gI_24, R.rSg.2.1, if_neg (fun z => by have := (nI_ltI (by omega) (by omega)).mp z; omega), f_X10_match_15]
theorem vms (R : RR W Cn Tn Sn Qn g) : ∃ g1, f_X10_matches (69, 0) g = m_ri g1 (nI (WY (fitP g Tn) Sn (Sn - pcN 0) 0)) ∧ Frm PG g g1 ∧ m_nc g1 = m_nc g ∧ m_ns g1 = m_ns g := by
  have B0 : GBd Sn Tn g := ⟨R.H, R.G, R.rSg, R.rTg, R.rPa⟩
  obtain ⟨g1, a1, a2, a3, a4⟩ := c_findWays B0
  have p0 : 0 < 2 ^ Sn := Nat.two_pow_pos Sn
  have z4 : ∀ {K : Int32 → am_R}, m_aI (some (4, 0)) 0 0 g1 K = K (m_gi g1 4 0 0) := fun {K} => aI_4 (k := 0) (by decide)
  refine ⟨g1, ?_, a2.1, a2.2.2.1, a2.2.2.2.1⟩
  rw [f_X10_matches, gR_69, pc_gifts R.H, gR_69, pc_tags R.H, ao_24, f_X2_countMatches, ao_24, a1, bV_rt, gR_24, pc_ways (R.H.frm a2.1), z4, a4 0 p0, bI_ri]
end MT
theorem al_25 {W Cn Tn Sn Qn : Nat} {go gp h : am_H} (T : Tw go gp h) (R : RR W Cn Tn Sn Qn go) {k : Nat} (hk : k ≤ Sn) {K : am_H → Int32 → am_R} {N : Nat} (k1 : k < Sn → ∀ g1 h', Tw g1 gp h' → Frm PG go g1 → AlR N h' (K h' (mtA (fitP go Tn) Sn k))) (k2 : k = Sn → ∀ h', Tw go gp h' → AlR N h' (K h' (-2100000000))) : AlR (N + 1) h (m_bI (f_L_does (some (69, 0)) 25 (nI k) 0 0 0 h) K) := by
  have hS := R.rSg.1
  have hc := e_X10_match (rhoS_ok false) T.1.1.1 (69, 0) rfl (nI k)
  by_cases z : k < Sn
  · obtain ⟨g1, a1, a2, a3⟩ := vm R z
    exact (al_qd T hc a1 (dz_25 (isO_rhoS false) (nI k) 0 0 0 h) a3 ⟨_, _, _, _, _, rr_PG a2 R⟩ (fun h' T' => k1 z g1 h' T' a2)).le (by omega)
  · exact al_qx T (by decide) hc (vm_x R (by omega) (by omega)) (dz_25 (isO_rhoS false) (nI k) 0 0 0 h) (fun h' T' => k2 (by omega) h' T')
theorem rr_W {W Cn Tn Sn Qn W' Cn' Tn' Sn' Qn' : Nat} {g y : am_H} (R : RR W Cn Tn Sn Qn g) (R' : RR W' Cn' Tn' Sn' Qn' y) (A : AgR g y) : W' = W := by
  have h1 := R.N.2.2.1
  have h2 := R'.N.2.2.1
  rw [AgR.gi A rfl] at h2
  have := R.N.1
  have := R'.N.1
  exact (nI_eq (by omega) (by omega)).mp (h2.symm.trans h1)
theorem news_v {W Cn Tn Sn Qn : Nat} {g : am_H} (R : RR W Cn Tn Sn Qn g) {p : Nat} (hp : p < 12) : f_X10_news (69, 0) (nI p) g = m_ri g (setOf (anyW g p) W) := by
  obtain ⟨D, hD, d1, d2⟩ := R.rDay
  exact c_news5 R.H R.N (d1.trans d2.symm) R.rWa R.rWp R.rWl R.rWo R.rCo R.rWc R.rSb R.rDg hp
theorem gv_202 {W Cn Tn Sn Qn : Nat} {go gp h g1 : am_H} (A : AgR go gp) (R0 : RR W Cn Tn Sn Qn go) {p : Nat} (hp : p < 12) (F1 : Frm (pX [] [7]) go g1) (A1 : AgR go g1) (R : RR W Cn Tn Sn Qn (dgG go g1 p W)) (T : Th (dgG go g1 p W) gp h) (s : Int32) : AlR 0 h (f_L_areGiven_202 (some (69, 0)) (some (72, 0)) (nI p) (nI (sumD go p W)) s s h) := by
  have hW := R0.N.1
  have h0 : ∀ w c, w < W → c < Cw (dgG go g1 p W) w → nwsP (dgG go g1 p W) p w c = false := fun w c hw hc => by
    rw [Cw_dg F1] at hc
    exact nws_dg F1 hw (by omega) hc (by have := (Cw_of R0.rWc hw).1; omega)
  obtain ⟨z1, z2⟩ := dg_0 h0
  have n0 : setOf (anyW (dgG go g1 p W) p) W = 0 := (anyP_0 (by omega)).mpr (sumD_any.mp z1)
  rw [f_L_areGiven_202, if_pos rfl, ao_69]
  obtain ⟨h1, b1, b2⟩ := qry T.1 (e_X10_news (rhoS_ok false) T.1.1 (69, 0) rfl (nI p)) (news_v R hp)
  rw [rho_f] at b1
  rw [b1, bI_ri, if_pos n0, ao_69]
  have T1 := T.o b2
  obtain ⟨h2, g2, c1, c2, c3, c4, c5⟩ := dig T1.1 R hp
  rw [rho_f] at c1
  rw [c1, bI_ri, z1, if_pos (show nI 0 = 0 from rfl), ao_72]
  have T2 := T1.o c2
  obtain ⟨W', Cn', Tn', Sn', Qn', R'⟩ := T2.2.1.2.2.2
  have eW := rr_W R0 R' A
  subst eW
  obtain ⟨h3, g3, d1, d2, d3, d4, d5⟩ := dig T2.2.1 R' hp
  rw [rho_t] at d1
  rw [d1, bI_ri, sumD_ag A, if_pos rfl]
  have T3 := T2.p d2
  refine ⟨h3, _, _, rfl, ⟨T3, ?_⟩, (b2.2.2.2.trans (c2.2.2.2.trans d2.2.2.2)).le (by omega)⟩
  refine AgR.trans (AgR.symm ?_) (dgG_ag A A1 d5 p W')
  refine ⟨fun a j s => ?_, fun a j s => c5.2 a j s⟩
  show m_gi (dgG (dgG go g1 p W') g2 p W') a.1 a.2 j = _
  rw [dgG_gi]
  by_cases z : a.1 = 68 ∧ a.2 = 0
  · rw [if_pos z, z2, if_neg (by decide), z.1, z.2]
  · rw [if_neg z]; exact c5.1 a j s
theorem gv_138 {W Cn Tn Sn Qn : Nat} {go gp h : am_H} (T : Tw go gp h) (R : RR W Cn Tn Sn Qn go) (x2 : Int32) {M t : Nat} (hM : M < 2 ^ 31) (hm : M = 0 ∨ t = 2 ^ Sn - 1) : AlR 0 h (f_L_areGiven_138 (some (69, 0)) (some (72, 0)) x2 (nI M) (nI t) (nI Sn) 1 h) := by
  have hW := R.N.1
  have hS := R.rSg.1
  obtain ⟨p, hp, ep⟩ := low_lt x2 (k := 12) (by decide) (by decide)
  rw [show nI 12 = (12 : Int32) from rfl] at ep
  rw [f_L_areGiven_138, low_eq (by decide), bI_ri, ep, ao_69]
  refine al_q T (e_X10_news (rhoS_ok false) T.1.1.1 (69, 0) rfl (nI p)) (news_v R hp) (fun h T => ?_)
  rw [ao_69]
  obtain ⟨h1, g1, c1, c2, c3, c4, c5⟩ := dig T.1.1 R hp
  rw [rho_f] at c1
  rw [c1, bI_ri, if_neg (by decide)]
  have T1 := T.1.o c2
  have sl := sumD_le (h := go) (p := p) (fun w hw => (Cw_of R.rWc hw).1) W (Nat.le_refl _)
  have k182 : AlR 0 h1 (f_L_areGiven_182 (some (69, 0)) (some (72, 0)) (nI p) (setOf (anyW go p) W) (nI (sumD go p W)) h1) := by
    rw [f_L_areGiven_182]
    by_cases z : sumD go p W = 0
    · have n0 : setOf (anyW go p) W = 0 := (anyP_0 (by omega)).mpr (sumD_any.mp z)
      rw [if_pos (by rw [z]; decide), f_L_areGiven_192, if_pos n0]
      exact gv_202 T.2 R hp c3 c5 c4 T1 0
    · have n0 : ¬ setOf (anyW go p) W = 0 := fun y => z (sumD_any.mpr ((anyP_0 (by omega)).mp y))
      rw [if_neg (fun y => z (by have := (nI_leI (a := sumD go p W) (b := 0) (by omega) (by omega)).mp y; omega)), f_L_areGiven_192, if_neg n0]
      exact gv_202 T.2 R hp c3 c5 c4 T1 1
  have fin : AlR 0 h (f_L_areGiven_182 (some (69, 0)) (some (72, 0)) (nI p) (setOf (anyW go p) W) (nI (sumD go p W)) h1) := by
    obtain ⟨h', a, b, e1, e2, e3⟩ := k182
    exact ⟨h', a, b, e1, e2, (c2.2.2.2.trans e3).le (by omega)⟩
  rcases hm with rfl | rfl
  · rw [if_pos (show nI 0 = 0 from rfl)]; exact fin
  · by_cases z : nI M = 0
    · rw [if_pos z]; exact fin
    · rw [if_neg z, if_pos (full_eq Sn (by omega)).symm]; exact fin
def GI (F : Nat → Nat → Bool) (n M k t : Nat) : Prop := (M = 0 ∧ t = 0) ∨ (0 < M ∧ pcN t = k ∧ t < 2 ^ n ∧ 0 < WY F n (n - k) t ∧ ∀ d, mtR F n (k + d + 1) 0 0 (-1) = mtR F n (d + 1) k t (-1))
theorem gv_34 {W Cn Tn Sn Qn : Nat} {gp : am_H} (x2 : Int32) {F : Nat → Nat → Bool} (hF : ∀ a b, F a b = true → a ≠ b) {M : Nat} (hM : M < 2 ^ 31) (eM : M = WY F Sn (Sn - pcN 0) 0) : ∀ (m n k t : Nat) (go h : am_H), k + m = Sn → m < n → Tw go gp h → RR W Cn Tn Sn Qn go → fitP go Tn = F → GI F Sn M k t → AlR m h (f_L_areGiven_34 n (some (69, 0)) (some (72, 0)) x2 (nI M) (nI t) (nI k) 1 (if k < Sn then mtA F Sn k else -2100000000) h)
  | _, 0, k, t, go, h, _, hn, _, _, _, _ => by omega
  | 0, n + 1, k, t, go, h, hk, hn, T, R, eF, I => by
    have hS := R.rSg.1
    rw [f_L_areGiven_34, if_neg (show ¬ k < Sn by omega), if_pos (by decide), show k = Sn by omega]
    refine gv_138 T R x2 hM ?_
    rcases I with ⟨z, -⟩ | ⟨z1, z2, z3, z4, -⟩
    · exact Or.inl z
    · right
      have := pcN_lt Sn (by omega) t (Nat.lt_of_lt_of_le z3 (pow_le8 hS))
      by_cases q : t + 1 < 2 ^ Sn
      · have := this q
        unfold pcN at z2
        omega
      · omega
  | m + 1, n + 1, k, t, go, h, hk, hn, T, R, eF, I => by
    have hS := R.rSg.1
    have hkS : k < Sn := by omega
    have next : ∀ t', GI F Sn M (k + 1) t' → AlR (m + 1) h (m_bI (f_L_does (some (69, 0)) 25 (nI k + 1) 0 0 0 h) fun h6 v7 => f_L_areGiven_34 n (some (69, 0)) (some (72, 0)) x2 (nI M) (nI t') (nI k + 1) 1 v7 h6) := fun t' I' => by
      rw [nI_1]
      refine al_25 T R (show k + 1 ≤ Sn by omega) (fun z g1 h' T' F1 => ?_) (fun z h' T' => ?_)
      · have := gv_34 x2 hF hM eM m n (k + 1) t' g1 h' (by omega) (by omega) T' (rr_PG F1 R) ((fitP_G F1 Tn).trans eF) I'
        rw [if_pos z] at this
        rw [eF]; exact this
      · have := gv_34 x2 hF hM eM m n (k + 1) t' go h' (by omega) (by omega) T' R eF I'
        rw [if_neg (by omega)] at this
        exact this
    rw [f_L_areGiven_34, if_pos hkS]
    rcases I with ⟨z, zt⟩ | ⟨z1, z2, z3, z4, z5⟩
    · have ea : mtA F Sn k = -1 := by unfold mtA; rw [if_pos (by rw [← eM]; exact z)]
      rw [ea, if_neg (by decide), if_neg (by decide), if_pos (by decide), f_L_areGiven_60, if_pos (by rw [z]; decide), f_L_areGiven_69, if_pos rfl, if_neg (fun y => nI_m1 (show k < 10000 by omega) y.symm), if_pos (by decide), f_L_areGiven_94, f_L_areGiven_99, if_neg (by decide), f_L_areGiven_116, or_0]
      exact next t (Or.inl ⟨z, zt⟩)
    · obtain ⟨r, r1, r2, r3, r4, r5, r6⟩ := mt_next (F := F) hS z2 hkS z3 z4
      have ea : mtA F Sn k = nI r := by
        unfold mtA
        rw [if_neg (by omega)]
        have := z5 0
        rw [Nat.add_zero] at this
        rw [this]
        exact r2
      have q3 := r3
      unfold mtQ at q3
      rw [Bool.and_eq_true, Bool.and_eq_true, Bool.not_eq_true'] at q3
      have hne := hF _ _ q3.1.1
      rw [ea, if_neg (fun y => by have := Int32.le_trans (nI_pos' (n := r) (by omega)) y; exact absurd this (by decide)), if_neg (by decide), if_neg (nI_pos (by omega)), f_L_areGiven_60, if_neg (fun y => by have := (nI_leI (a := M) (b := 0) hM (by omega)).mp y; omega), f_L_areGiven_69, if_pos rfl, if_neg (fun y => hne ((nI_eq (by omega) (by omega)).mp y).symm), if_neg (nI_pos (by omega)), if_pos ((sh0 (by omega)).mpr (by rw [bt_nat _ _ (by omega)]; exact q3.1.2)), f_L_areGiven_94, f_L_areGiven_99, if_pos (nI_pos' (by omega)), f_L_areGiven_116]
      have su : nI t ||| (1 : Int32) <<< (nI r &&& 31) = nI (t ||| 2 ^ r) := su_eq (show r < 8 by omega)
      rw [su]
      refine next _ (Or.inr ⟨z1, r4, r5, r6, fun d => ?_⟩)
      have := z5 (d + 1)
      rw [show k + 1 + d + 1 = k + (d + 1) + 1 by omega, this]
      rw [mtR, r2, nI_clamp (by omega)]
      rfl
theorem areGiven_ok (x2 : Int32) {go gp h : am_H} (T : Tw go gp h) : AlR 10 h (f_L_areGiven (some (69, 0)) (some (72, 0)) x2 h) := by
  obtain ⟨W, Cn, Tn, Sn, Qn, R⟩ := T.1.1.2.2.2
  have hS := R.rSg.1
  obtain ⟨g1, a1, a2, a3⟩ := vms R
  rw [f_L_areGiven, ao_69]
  refine (al_qs (N := 9) T (e_X10_matches (rhoS_ok false) T.1.1.1 (69, 0) rfl) a1 a3 ⟨_, _, _, _, _, rr_PG a2 R⟩ (fun h' T' => ?_)).le (by omega)
  have R1 := rr_PG a2 R
  have eF := fitP_G a2 Tn
  have hM : WY (fitP go Tn) Sn (Sn - pcN 0) 0 < 2 ^ 31 := WY_lt hS (by omega)
  have hF : ∀ a b, fitP go Tn a b = true → a ≠ b := fun a b z => by
    unfold fitP at z
    rw [Bool.and_eq_true, Bool.not_eq_true', decide_eq_false_iff_not] at z
    exact z.1
  rw [if_neg (nI_pos hM), f_L_areGiven_20]
  have I0 : GI (fitP go Tn) Sn (WY (fitP go Tn) Sn (Sn - pcN 0) 0) 0 0 := by
    by_cases z : WY (fitP go Tn) Sn (Sn - pcN 0) 0 = 0
    · exact Or.inl ⟨z, rfl⟩
    · refine Or.inr ⟨by omega, pcN_0, Nat.two_pow_pos Sn, ?_, fun d => by rw [Nat.zero_add]⟩
      rw [pcN_0] at z
      omega
  refine (al_25 (k := 0) T' R1 (Nat.zero_le _) (N := 8) (fun z g2 h2 T2 F2 => ?_) (fun z h2 T2 => ?_)).le (by omega)
  · have := gv_34 x2 hF hM rfl Sn 5000 0 0 g2 h2 (by omega) (by omega) T2 (rr_PG F2 R1) ((fitP_G F2 Tn).trans eF) I0
    rw [if_pos z] at this
    rw [eF]
    exact this.le (by omega)
  · have := gv_34 x2 hF hM rfl Sn 5000 0 0 g1 h2 (by omega) (by omega) T2 R1 eF I0
    rw [if_neg (by omega)] at this
    exact this.le (by omega)
