/-! ## questions that leave something where nothing is kept -/
theorem rr_PG {W Cn Tn Sn Qn : Nat} {g g1 : am_H} (F : Frm PG g g1) (R : RR W Cn Tn Sn Qn g) : RR W Cn Tn Sn Qn g1 := by
  obtain ⟨H, G, rDay, rBlk, rSam, N, rWa, rWc, rWp, rWl, rWo, rWt, rWf, rWw, rWs, rWk, rCo, rTg, rPa, rTp, rSg, rCm, rSb, rDg, rIv⟩ := R
  exact ⟨H.frm F, G.frm F, rDay.frm F, rBlk.frm F, rSam.frm F, N.frm F, rWa.frm F, rWc.frm F, rWp.frm F, rWl.frm F, rWo.frm F, rWt.frm F, rWf.frm F, rWw.frm F, rWs.frm F, rWk.frm F, rCo.frm F, rTg.frm F, rPa.frm F, rTp.frm F, rSg.frm F, rCm.frm F, rSb.frm F, rDg.frm F, rIv.frm F⟩
theorem rr_PS {W Cn Tn Sn Qn : Nat} {g g1 : am_H} (F : Frm PS g g1) (R : RR W Cn Tn Sn Qn g) : RR W Cn Tn Sn Qn g1 := by
  obtain ⟨H, G, rDay, rBlk, rSam, N, rWa, rWc, rWp, rWl, rWo, rWt, rWf, rWw, rWs, rWk, rCo, rTg, rPa, rTp, rSg, rCm, rSb, rDg, rIv⟩ := R
  exact ⟨H.frm F, G.frm F, rDay.frm F, rBlk.frm F, rSam.frm F, N.frm F, rWa.frm F, rWc.frm F, rWp.frm F, rWl.frm F, rWo.frm F, rWt.frm F, rWf.frm F, rWw.frm F, rWs.frm F, rWk.frm F, rCo.frm F, rTg.frm F, rPa.frm F, rTp.frm F, rSg.frm F, rCm.frm F, rSb.frm F, rDg.frm F, rIv.frm F⟩
/-- a call behind which y is the ghost, whose class's part is what the class left -/
theorem qgen {b : Bool} {g h g1 y : am_H} (O : Ob b g h) {rc r : am_R} {v : Int32} (hc : eqQ Sc (rhoS b) g h rc r) (e : rc = m_ri g1 v) (n : m_nc g1 = m_nc g ∧ m_ns g1 = m_ns g) (cl : CL g1 y) (ay : AgR y y) (y0 : m_gi y 70 0 0 = 0 ∧ m_gr y 70 0 0 = none) (Ry : RRx y) (ny : ∀ s, m_nx y s = m_nx g1 s) : ∃ h', r = m_ri h' v ∧ PostC b g h y h' 0 := by
  rcases hc with ⟨z, -⟩ | ⟨hs, hb, o, o', d1, d2, d3, d4⟩
  · rw [e] at z; cases z
  · rw [e] at d1; cases d1
    rcases o' with (_ | y | y | y) | y <;> first | exact d4.elim | skip
    cases d4
    obtain ⟨f1, f2, f3, f4, c, m, f5, f6, f7, f8⟩ := d3
    exact ⟨hb, d2, ⟨f1.congr (fun s k j q => (cl s k j q).1) (fun s k j q => (cl s k j q).2), ay, y0, Ry⟩, fun k j q => f3 k j q, fun s hs => by rw [(f4 s).2, ny, (f4 s).1], ⟨by rw [n.1] at f5; omega, by rw [n.2] at f7; omega⟩⟩
/-- the reference's part stays -/
theorem qrs {b : Bool} {g h g1 : am_H} (O : Ob b g h) {rc r : am_R} {v : Int32} (hc : eqQ Sc (rhoS b) g h rc r) (e : rc = m_ri g1 v) (n : m_nc g1 = m_nc g ∧ m_ns g1 = m_ns g) (Ry : RRx g1) : ∃ h', r = m_ri h' v ∧ PostC b g h g1 h' 0 ∧ AgR g g1 := by
  have hc2 := hc
  rcases hc2 with ⟨z, -⟩ | ⟨hs, hb, o, o', d1, d2, d3, d4⟩
  · rw [e] at z; cases z
  · rw [e] at d1; cases d1
    have ag : AgR g g1 := O.2.1.of (fun s k j q => (d3.2.1 s k j (SmSc q)).1) (fun s k j q => (d3.2.1 s k j (SmSc q)).2.1)
    obtain ⟨h', a1, a2⟩ := qgen O hc e n (fun _ _ _ _ => ⟨rfl, rfl⟩) (ag.symm.trans ag) ⟨by rw [AgR.gi ag rfl]; exact O.2.2.1.1, by rw [AgR.gr ag rfl]; exact O.2.2.1.2⟩ Ry (fun _ => rfl)
    exact ⟨h', a1, a2, ag⟩
/-- o asked, p as it was -/
theorem al_qs {go gp h g1 : am_H} (T : Tw go gp h) {rc r : am_R} {v : Int32} {K : am_H → Int32 → am_R} {N : Nat} (hc : eqQ Sc (rhoS false) go h rc r) (e : rc = m_ri g1 v) (n : m_nc g1 = m_nc go ∧ m_ns g1 = m_ns go) (Ry : RRx g1) (k : ∀ h', Tw g1 gp h' → AlR N h' (K h' v)) : AlR N h (m_bI r K) := by
  obtain ⟨h', a1, a2, a3⟩ := qrs T.1.1 hc e n Ry
  rw [a1, bI_ri]
  obtain ⟨h2, b1, b2, b3, b4, b5⟩ := k h' ⟨T.1.o a2, a3.symm.trans T.2⟩
  exact ⟨h2, b1, b2, b3, b4, (a2.2.2.2.trans b5).le (by omega)⟩
theorem al_q {go gp h : am_H} (T : Tw go gp h) {rc r : am_R} {v : Int32} {K : am_H → Int32 → am_R} {N : Nat} (hc : eqQ Sc (rhoS false) go h rc r) (e : rc = m_ri go v) (k : ∀ h', Tw go gp h' → AlR N h' (K h' v)) : AlR N h (m_bI r K) :=
  al_qs T hc e ⟨rfl, rfl⟩ T.1.1.2.2.2 k
theorem al_qd {go gp h g1 : am_H} (T : Tw go gp h) {rc r rd : am_R} {val : Int32 → Int32} {v : Int32} {K : am_H → Int32 → am_R} {N : Nat} (hc : eqQ Sc (rhoS false) go h rc r) (e : rc = m_ri g1 v) (D : Dz rd r val) (n : m_nc g1 = m_nc go ∧ m_ns g1 = m_ns go) (Ry : RRx g1) (k : ∀ h', Tw g1 gp h' → AlR N h' (K h' (val v))) : AlR N h (m_bI rd K) := by
  obtain ⟨h', a1, a2, a3⟩ := qrs T.1.1 hc e n Ry
  rw [D.1 _ _ a1, bI_ri]
  obtain ⟨h2, b1, b2, b3, b4, b5⟩ := k h' ⟨T.1.o a2, a3.symm.trans T.2⟩
  exact ⟨h2, b1, b2, b3, b4, (a2.2.2.2.trans b5).le (by omega)⟩
theorem al_qx {go gp h : am_H} (T : Tw go gp h) {rc r rd : am_R} {val : Int32 → Int32} {x : Nat} {K : am_H → Int32 → am_R} {N : Nat} (hx : x < 3) (hc : eqQ Sc (rhoS false) go h rc r) (e : rc = m_ex go x) (D : Dz rd r val) (k : ∀ h', Tw go gp h' → AlR N h' (K h' (-2100000000))) : AlR (N + 1) h (m_bI rd K) := by
  obtain ⟨h', a1, a2⟩ := qrx T.1.1 hc e
  rw [D.2 _ _ a1 hx, bI_ri]
  obtain ⟨h2, b1, b2, b3, b4, b5⟩ := k _ ⟨T.1.o a2, T.2⟩
  exact ⟨h2, b1, b2, b3, b4, (a2.2.2.2.trans b5).le (by omega)⟩
/-! ## news and digests -/
theorem nwsP_c0 {g h : am_H} {p w c : Nat} (e : ∀ a, a = 34 ∨ a = 36 ∨ a = 37 ∨ a = 38 ∨ a = 39 ∨ a = 45 ∨ a = 46 ∨ a = 66 ∨ a = 67 → m_gi g a 0 = m_gi h a 0) (e68 : m_gi g 68 0 (8 * (20 * p + w) + c) = m_gi h 68 0 (8 * (20 * p + w) + c)) (e70 : m_gi g 70 0 1 = m_gi h 70 0 1) : nwsP g p w c = nwsP h p w c := by
  have e34 := e 34 (by simp)
  have e36 := e 36 (by simp)
  have e37 := e 37 (by simp)
  have e38 := e 38 (by simp)
  have e39 := e 39 (by simp)
  have e45 := e 45 (by simp)
  have e46 := e 46 (by simp)
  have e66 := e 66 (by simp)
  have e67 := e 67 (by simp)
  have s : seenP g p w = seenP h p w := by simp only [seenP, ownP, opP, e34, e37, e38, e39, e45, e70]
  have t : toldP g p w = toldP h p w := by simp only [toldP, s, ownP, opP, e34, e39, e46, e70]
  have o : outD g w c = outD h w c := by simp only [outD, e36, e37]
  have r : ∀ x n, nwR g p w x n = nwR h p w x n := fun x n => by
    induction n with
    | zero => rw [nwR, nwR, e66]
    | succ n ih => rw [nwR, nwR, ih, e34, t, e67]
  unfold nwsP
  rw [e37, s, o, r, e68, ownP, ownP, e34]
theorem nwsP_no {h : am_H} {p w c : Nat} (e : m_gi h 68 0 (8 * (20 * p + w) + c) ≠ 0) : nwsP h p w c = false := by
  unfold nwsP
  rw [decide_eq_false e]; simp
/-- the ghost behind a digest: g1 what the class left -/
def dgG (g g1 : am_H) (p W : Nat) : am_H := (g1.1, fun a b c => if a = 68 ∧ b = 0 then (if dgH g p W 0 c = true then 1 else m_gi g 68 0 c) else m_gi g1 a b c, g1.2.2.1, g1.2.2.2.1, g1.2.2.2.2.1, g1.2.2.2.2.2)
theorem dgG_gi {g g1 : am_H} {p W a k j : Nat} : m_gi (dgG g g1 p W) a k j = if a = 68 ∧ k = 0 then (if dgH g p W 0 j = true then 1 else m_gi g 68 0 j) else m_gi g1 a k j := rfl
theorem dgG_frm {g g1 : am_H} {p W : Nat} (F : Frm (pX [] [7]) g g1) : Frm (pX [] [7, 68]) g (dgG g g1 p W) := by
  refine ⟨fun a k j hp => ?_, fun a k j hp => ?_, fun a hp => ?_⟩
  · rw [dgG_gi, if_neg (fun z => by rw [z.1] at hp; revert hp; simp [pX])]
    exact F.1 a k j (pX_mono (by decide) (by decide) a j hp)
  · exact F.2.1 a k j (pX_mono (by decide) (by decide) a j hp)
  · exact F.2.2 a (pX_mono (by decide) (by decide) _ _ hp)
theorem rr_dg {W Cn Tn Sn Qn : Nat} {g g1 : am_H} (R : RR W Cn Tn Sn Qn g) {p : Nat} (hp : p < 12) (F : Frm (pX [] [7]) g g1) (a3 : ∀ q j, m_gi g1 7 q j = if q = p ∧ j < W then m_gi g 7 p j ||| setOf (nwsP g p j) (Cw g j) else m_gi g 7 q j) : RR W Cn Tn Sn Qn (dgG g g1 p W) := by
  have F2 := dgG_frm (p := p) (W := W) F
  obtain ⟨H, G, rDay, rBlk, rSam, N, rWa, rWc, rWp, rWl, rWo, rWt, rWf, rWw, rWs, rWk, rCo, rTg, rPa, rTp, rSg, rCm, rSb, rDg, rIv⟩ := R
  refine ⟨H.frm F2, G.frm F2, rDay.frm F2, rBlk.frm F2, rSam.frm F2, N.frm F2, rWa.frm F2, rWc.frm F2, rWp.frm F2, rWl.frm F2, rWo.frm F2, rWt.frm F2, rWf.frm F2, rWw.frm F2, rWs.frm F2, rWk.frm F2, rCo.frm F2, rTg.frm F2, rPa.frm F2, rTp.frm F2, rSg.frm F2, rCm.frm F2, rSb.frm F2, ?_, rIv.frm F2⟩
  intro q w c hq hw hc
  have i1 : (8 * (20 * q + w) + c) / 160 = q := by omega
  have i2 : (8 * (20 * q + w) + c) / 8 % 20 = w := by omega
  have i3 : (8 * (20 * q + w) + c) % 8 = c := by omega
  rw [dgG_gi, dgG_gi, if_pos ⟨rfl, rfl⟩, if_neg (show ¬ (7 = 68 ∧ q = 0) from fun z => absurd z.1 (by decide)), a3, rDg q w c hq hw hc]
  unfold dgH
  rw [i1, i2, i3]
  by_cases e1 : q = p
  · subst e1
    by_cases e2 : w < W
    · obtain ⟨c1, c2⟩ := Cw_of rWc e2
      rw [if_pos (show q = q ∧ w < W from ⟨rfl, e2⟩), b_or, bt_setOf _ (by omega) (show c < 32 by omega)]
      by_cases e3 : c < Cw g w
      · cases nwsP g q w c <;> simp [e2, e3] <;> rfl
      · simp [e3]
    · have e4 : ¬ w < W := e2
      simp [e4]
  · have e5 : ¬ q = p := e1
    simp [e5]
theorem Cw_dg {g g1 : am_H} {p W : Nat} (F : Frm (pX [] [7]) g g1) (w : Nat) : Cw (dgG g g1 p W) w = Cw g w := by
  unfold Cw
  rw [(dgG_frm F).1 35 0 w rfl]
theorem nws_dg {g g1 : am_H} {p W : Nat} (F : Frm (pX [] [7]) g g1) {w c : Nat} (hw : w < W) (h20 : w < 20) (hc : c < Cw g w) (h8 : c < 8) : nwsP (dgG g g1 p W) p w c = false := by
  have i1 : (8 * (20 * p + w) + c) / 160 = p := by omega
  have i2 : (8 * (20 * p + w) + c) / 8 % 20 = w := by omega
  have i3 : (8 * (20 * p + w) + c) % 8 = c := by omega
  have dg : dgH g p W 0 (8 * (20 * p + w) + c) = nwsP g p w c := by
    unfold dgH
    rw [i1, i2, i3]
    simp [hw, hc]
  cases hn : nwsP g p w c
  · rw [nwsP_frm (dgG_frm F) (by rw [dgG_gi, if_pos ⟨rfl, rfl⟩, dg, hn, if_neg (by decide)])]
    exact hn
  · apply nwsP_no
    rw [dgG_gi, if_pos ⟨rfl, rfl⟩, dg, hn, if_pos rfl]
    decide
theorem cnt_0 {P : Nat → Bool} : ∀ {n : Nat}, (∀ i, i < n → P i = false) → cnt P n = 0
  | 0, _ => rfl
  | n + 1, h => by rw [cnt, cnt_0 (fun i hi => h i (by omega)), h n (by omega)]; rfl
theorem anyP_f {P : Nat → Bool} : ∀ {n : Nat}, (∀ i, i < n → P i = false) → anyP P n = false
  | 0, _ => rfl
  | n + 1, h => by rw [anyP, anyP_f (fun i hi => h i (by omega)), h n (by omega)]; rfl
theorem anyP_cnt {P : Nat → Bool} : ∀ {n : Nat}, (cnt P n = 0) ↔ anyP P n = false
  | 0 => by simp [cnt, anyP]
  | n + 1 => by
    rw [cnt, anyP, Bool.or_eq_false_iff, ← anyP_cnt]
    cases P n <;> simp
theorem sumD_any {g : am_H} {p : Nat} : ∀ {W : Nat}, sumD g p W = 0 ↔ anyP (anyW g p) W = false
  | 0 => by simp [sumD, anyP]
  | n + 1 => by
    rw [sumD, anyP, Bool.or_eq_false_iff, ← sumD_any, anyW, ← anyP_cnt]
    omega
theorem dg_0 {g : am_H} {p W : Nat} (h0 : ∀ w c, w < W → c < Cw g w → nwsP g p w c = false) : sumD g p W = 0 ∧ ∀ i, dgH g p W 0 i = false := by
  constructor
  · rw [sumD_any]
    exact anyP_f (fun w hw => anyP_f (fun c hc => h0 w c hw hc))
  · intro i
    unfold dgH
    by_cases a : i / 8 % 20 < W
    · by_cases c : i % 8 < Cw g (i / 8 % 20)
      · rw [h0 _ _ a c]; simp
      · simp [c]
    · simp [a]
/-- a digest of one object -/
theorem dig {b : Bool} {g h : am_H} (O : Ob b g h) {W Cn Tn Sn Qn : Nat} (R : RR W Cn Tn Sn Qn g) {p : Nat} (hp : p < 12) : ∃ h' g1, f_X10_digest (rhoS b (69, 0)) (nI p) h = m_ri h' (nI (sumD g p W)) ∧ PostC b g h (dgG g g1 p W) h' 0 ∧ Frm (pX [] [7]) g g1 ∧ RR W Cn Tn Sn Qn (dgG g g1 p W) ∧ AgR g g1 := by
  obtain ⟨D, hD, d1, d2⟩ := R.rDay
  obtain ⟨g1, a1, a2, a3⟩ := c_dg5 R.H R.N (d1.trans d2.symm) R.rWa R.rWp R.rWl R.rWo R.rCo R.rWc R.rSb R.rDg hp
  have RR2 := rr_dg R hp a2.1 a3
  have F2 := dgG_frm (p := p) (W := W) a2.1
  have cl : CL g1 (dgG g g1 p W) := fun s k j q => ⟨by rw [dgG_gi, if_neg (fun z => by rw [z.1] at q; unfold Sc at q; simp at q)], rfl⟩
  have smp : ∀ s k j, Sm (s, k) = true → pX [] [7] s j = true ∨ (s = 70 ∧ j = 0) := fun s k j q => by
    unfold Sm at q
    simp only [Bool.and_eq_true, Bool.or_eq_true, Nat.ble_eq, beq_iff_eq] at q
    by_cases z : s = 70 ∧ j = 0
    · exact Or.inr z
    · left
      unfold pX
      rw [Bool.and_eq_true]
      constructor
      · simp only [List.contains_cons, List.contains_nil, Bool.or_false, Bool.not_eq_true']
        apply beq_false_of_ne
        intro z2
        exact z ⟨congrArg Prod.fst z2, congrArg Prod.snd z2⟩
      · have h1 : s ≠ 1000 := by omega
        have h2 : s ≠ 7 := by omega
        simp [h1, h2]
  have hc := e_X10_digest (rhoS_ok b) O.1 (69, 0) rfl (nI p)
  have ag1 : AgR g g1 := by
    rcases hc with ⟨z, -⟩ | ⟨hs, hb, o, o', q1, q2, q3, q4⟩
    · rw [c_dg_f R.H hp a1] at z; cases z
    · rw [c_dg_f R.H hp a1] at q1; cases q1
      exact O.2.1.of (fun s k j q => (q3.2.1 s k j (SmSc q)).1) (fun s k j q => (q3.2.1 s k j (SmSc q)).2.1)
  have y0 : m_gi (dgG g g1 p W) 70 0 0 = 0 ∧ m_gr (dgG g g1 p W) 70 0 0 = none := by
    constructor
    · rw [dgG_gi, if_neg (by decide), AgR.gi ag1 rfl]; exact O.2.2.1.1
    · show m_gr g1 70 0 0 = none
      rw [AgR.gr ag1 rfl]; exact O.2.2.1.2
  have ay : AgR (dgG g g1 p W) (dgG g g1 p W) := ⟨fun a j s => rfl, fun a j s => ⟨by rw [Option.map_id]; rfl, (ag1.symm.trans ag1).2 a j s |>.2⟩⟩
  obtain ⟨h', b1, b2⟩ := qgen O hc (c_dg_f R.H hp a1) ⟨a2.2.2.1, a2.2.2.2.1⟩ cl ay y0 ⟨W, Cn, Tn, Sn, Qn, RR2⟩ (fun _ => rfl)
  exact ⟨h', g1, b1, b2, a2.1, RR2, ag1⟩
theorem AgR.f0 {g y : am_H} (A : AgR g y) {s : Nat} (hs : Sm (s, 0) = true) : m_gi y s 0 = m_gi g s 0 := funext fun j => AgR.gi A hs j
theorem nws_ag {g y : am_H} (A : AgR g y) (p w c : Nat) : nwsP y p w c = nwsP g p w c :=
  nwsP_c0 (fun a ha => by rcases ha with rfl | rfl | rfl | rfl | rfl | rfl | rfl | rfl | rfl <;> exact A.f0 rfl) (AgR.gi A rfl _) (AgR.gi A rfl _)
theorem Cw_ag {g y : am_H} (A : AgR g y) (w : Nat) : Cw y w = Cw g w := by unfold Cw; rw [AgR.gi A rfl]
theorem sumD_ag {g y : am_H} (A : AgR g y) (p : Nat) : ∀ W, sumD y p W = sumD g p W
  | 0 => rfl
  | n + 1 => by rw [sumD, sumD, sumD_ag A p n, Cw_ag A, show nwsP y p n = nwsP g p n from funext fun c => nws_ag A p n c]
theorem dgH_ag {g y : am_H} (A : AgR g y) (p W i : Nat) : dgH y p W 0 i = dgH g p W 0 i := by
  unfold dgH
  rw [Cw_ag A, nws_ag A]
/-- digests of things that are alike are alike -/
theorem dgG_ag {g y g1 y1 : am_H} (A : AgR g y) (A1 : AgR g g1) (B1 : AgR y y1) (p W : Nat) : AgR (dgG g g1 p W) (dgG y y1 p W) := by
  have C := (A1.symm.trans A).trans B1
  refine ⟨fun a j s => ?_, fun a j s => C.2 a j s⟩
  show m_gi (dgG y y1 p W) a.1 a.2 j = _
  rw [dgG_gi, dgG_gi]
  by_cases z : a.1 = 68 ∧ a.2 = 0
  · rw [if_pos z, if_pos z, dgH_ag A, AgR.gi A rfl]
  · rw [if_neg z, if_neg z]; exact C.1 a j s
