/-! ## one object asked, with what is typed on it -/
abbrev PT : Nat → Nat → Bool := pX [(22, 1), (70, 24), (23, 3), (70, 29)] [8, 9, 10, 14, 15, 50, 51, 52, 53]
theorem seenP_T {h g : am_H} (F : Frm PT h g) (f k : Nat) : seenP g f k = seenP h f k := by
  simp only [seenP, ownP, opP, F.1 34 0 k rfl, F.1 37 0 k rfl, F.1 38 0 k rfl, F.1 39 0 k rfl, F.1 45 0 _ rfl, F.1 70 0 1 rfl]
theorem toldP_T {h g : am_H} (F : Frm PT h g) (f k : Nat) : toldP g f k = toldP h f k := by
  simp only [toldP, seenP_T F, ownP, opP, F.1 34 0 k rfl, F.1 39 0 k rfl, F.1 46 0 _ rfl, F.1 70 0 1 rfl]
theorem itP_T {h g : am_H} (F : Frm PT h g) (Tn f : Nat) (b : Bool) : itP g Tn f b = itP h Tn f b := by
  funext l x k
  unfold itP tgS
  rw [toldP_T F, F.1 34 0 k rfl, F.1 33 0 k rfl, F.1 40 0 k rfl, F.1 41 0 k rfl, F.1 11 0 x rfl, blg_eq (g := g) (h := h) (F.e11) (F.e13)]
theorem ltD_T {h g : am_H} (F : Frm PT h g) : ltD g = ltD h := by
  funext k
  have e : Cw g k = Cw h k := by unfold Cw; rw [F.1 35 0 k rfl]
  unfold ltD outD
  rw [e, F.1 37 0 k rfl, F.1 36 0 _ rfl]
theorem anR_T {h g : am_H} (F : Frm PT h g) (S : Nat → Bool) (W : Nat) (x : Int32) : anR g S W x = anR h S W x := by
  have e : ahd g = ahd h := by
    funext a b
    unfold ahd
    rw [ltD_T F]
  unfold anR rkN
  rw [e]
/-- the ghost behind what the class left, when its tape has changed -/
def sy (g1 : am_H) : am_H := (g1.1, fun a b c => if a = 50 ∧ b = 0 then m_gi g1 14 0 c else if a = 70 ∧ b = 0 ∧ c = 24 then m_gi g1 22 0 1 else m_gi g1 a b c, g1.2.2.1, g1.2.2.2.1, g1.2.2.2.2.1, g1.2.2.2.2.2)
theorem sy_gi {g1 : am_H} {a b c : Nat} : m_gi (sy g1) a b c = if a = 50 ∧ b = 0 then m_gi g1 14 0 c else if a = 70 ∧ b = 0 ∧ c = 24 then m_gi g1 22 0 1 else m_gi g1 a b c := rfl
theorem sy_o {g1 : am_H} {a b c : Nat} (h1 : a ≠ 50) (h2 : ¬ (a = 70 ∧ c = 24)) : m_gi (sy g1) a b c = m_gi g1 a b c := by
  rw [sy_gi, if_neg (fun z => h1 z.1), if_neg (fun z => h2 ⟨z.1, z.2.2⟩)]
theorem sy_50 {g1 : am_H} {c : Nat} : m_gi (sy g1) 50 0 c = m_gi g1 14 0 c := by rw [sy_gi, if_pos ⟨rfl, rfl⟩]
theorem sy_24 {g1 : am_H} : m_gi (sy g1) 70 0 24 = m_gi g1 22 0 1 := by rw [sy_gi, if_neg (by decide), if_pos ⟨rfl, rfl, rfl⟩]
theorem sy_frm {g g1 : am_H} (F : Frm (pX [(22, 1)] [14]) g g1) : Frm (pX [(22, 1), (70, 24)] [14, 50]) g (sy g1) := by
  have up := pX_mono (L := [(22, 1)]) (L' := [(22, 1), (70, 24)]) (A := [14]) (A' := [14, 50]) (by decide) (by decide)
  refine ⟨fun a k j hp => ?_, fun a k j hp => F.2.1 a k j (up a j hp), fun a hp => F.2.2 a (up _ _ hp)⟩
  rw [sy_o (fun z => by subst z; revert hp; simp [pX]) (fun z => by rw [z.1, z.2] at hp; revert hp; simp [pX])]
  exact F.1 a k j (up a j hp)
/-- g: the ghost of o; L: what is typed -/
def St (go gp : am_H) (W Cn Tn Sn Qn : Nat) (L : List Nat) (g h : am_H) : Prop := Th g gp h ∧ RR W Cn Tn Sn Qn g ∧ Frm PT go g ∧ TpP g L.length ∧ ∀ i, i < L.length → tC g i = L.getD i 0
theorem vd_cong {T T' : Nat → Nat} : ∀ {n k s o : Nat}, (∀ i, k ≤ i → i < k + n → T i = T' i) → vd T n k s o = vd T' n k s o
  | 0, _, _, _, _ => rfl
  | n + 1, k, s, o, e => by
    rw [vd, vd, e k (Nat.le_refl k) (by omega), vd_cong (n := n) (fun i a b => e i (by omega) (by omega))]
theorem getD_r {L C : List Nat} {i : Nat} (h : L.length ≤ i) : (L ++ C).getD i 0 = C.getD (i - L.length) 0 := by
  rw [List.getD_eq_getElem?_getD, List.getD_eq_getElem?_getD, List.getElem?_append_right h]
theorem getD_l {L C : List Nat} {i : Nat} (h : i < L.length) : (L ++ C).getD i 0 = L.getD i 0 := by
  rw [List.getD_eq_getElem?_getD, List.getD_eq_getElem?_getD, List.getElem?_append_left h]
section ST
variable {W Cn Tn Sn Qn : Nat} {go gp g h : am_H} {L : List Nat}
theorem st_q (S : St go gp W Cn Tn Sn Qn L g h) {rc r : am_R} {v : Int32} {g1 : am_H} (hc : eqQ Sc (rhoS false) g h rc r) (e : rc = m_ri g1 v) (l : Lp PS g g1) : ∃ h', r = m_ri h' v ∧ St go gp W Cn Tn Sn Qn L g1 h' ∧ Cost h h' 0 := by
  obtain ⟨T, R, F, t, c⟩ := S
  have R1 := rr_PS l.1 R
  obtain ⟨h', a1, a2, a3⟩ := qrs T.1 hc e ⟨l.2.2.1, l.2.2.2.1⟩ ⟨_, _, _, _, _, R1⟩
  exact ⟨h', a1, ⟨T.o a2, R1, F.trans (l.1.up), t.frm l.1, fun i hi => by rw [tC_S l.1]; exact c i hi⟩, a2.2.2.2⟩
theorem st_x (S : St go gp W Cn Tn Sn Qn L g h) {rc r rd : am_R} {x : Nat} {val : Int32 → Int32} (hx : x < 3) (hc : eqQ Sc (rhoS false) g h rc r) (e : rc = m_ex g x) (D : Dz rd r val) : ∃ h', rd = m_ri h' (-2100000000) ∧ St go gp W Cn Tn Sn Qn L g h' ∧ Cost h h' 1 := by
  obtain ⟨T, R⟩ := S
  obtain ⟨h', a1, a2⟩ := qrx T.1 hc e
  exact ⟨_, D.2 _ _ a1 hx, ⟨T.o a2, R⟩, a2.2.2.2⟩
theorem st_sy (S : St go gp W Cn Tn Sn Qn L g h) {rc r : am_R} {v : Int32} {g1 : am_H} (hc : eqQ Sc (rhoS false) g h rc r) (e : rc = m_ri g1 v) (l : Lp (pX [(22, 1)] [14]) g g1) {L' : List Nat} (h60 : L'.length ≤ 60) (e1 : m_gi g1 22 0 1 = nI L'.length) (e2 : ∀ i, i < L'.length → L'.getD i 0 < 256 ∧ m_gi g1 14 0 i = nI (L'.getD i 0)) : ∃ h', r = m_ri h' v ∧ St go gp W Cn Tn Sn Qn L' (sy g1) h' ∧ Cost h h' 0 := by
  obtain ⟨T, R, F, t, c⟩ := S
  have F2 := sy_frm l.1
  have t2 : TpP (sy g1) L'.length := by
    refine ⟨h60, ?_, by rw [sy_24]; exact e1, fun i hi => ?_⟩
    · rw [sy_o (by decide) (by decide)]; exact e1
    · have q : tC (sy g1) i = L'.getD i 0 := by
        unfold tC
        rw [sy_50, (e2 i hi).2, nI_clamp (by have := (e2 i hi).1; omega)]
      rw [q, sy_50, sy_o (by decide) (fun z => absurd z.1 (by decide))]
      exact ⟨(e2 i hi).2, (e2 i hi).2, (e2 i hi).1⟩
  have R1 : RR W Cn Tn Sn Qn (sy g1) := by
    obtain ⟨H, G, rDay, rBlk, rSam, N, rWa, rWc, rWp, rWl, rWo, rWt, rWf, rWw, rWs, rWk, rCo, rTg, rPa, rTp, rSg, rCm, rSb, rDg, rIv⟩ := R
    exact ⟨H.frm F2, G.frm F2, rDay.frm F2, rBlk.frm F2, rSam.frm F2, N.frm F2, rWa.frm F2, rWc.frm F2, rWp.frm F2, rWl.frm F2, rWo.frm F2, rWt.frm F2, rWf.frm F2, rWw.frm F2, rWs.frm F2, rWk.frm F2, rCo.frm F2, rTg.frm F2, rPa.frm F2, ⟨L'.length, h60, t2.2.1, t2.2.2.1, fun i hi => ⟨(t2.2.2.2 i hi).1.trans (t2.2.2.2 i hi).2.1.symm, _, (t2.2.2.2 i hi).2.2, (t2.2.2.2 i hi).2.1⟩⟩, rSg.frm F2, rCm.frm F2, rSb.frm F2, rDg.frm F2, rIv.frm F2⟩
  have ag1 : AgR g g1 := by
    have hc2 := hc
    rcases hc2 with ⟨z, -⟩ | ⟨hs, hb, o, o', q1, q2, q3, q4⟩
    · rw [e] at z; cases z
    · rw [e] at q1; cases q1
      exact T.1.2.1.of (fun s k j q => (q3.2.1 s k j (SmSc q)).1) (fun s k j q => (q3.2.1 s k j (SmSc q)).2.1)
  have ay : AgR (sy g1) (sy g1) := ⟨fun a j s => rfl, fun a j s => ⟨by rw [Option.map_id]; rfl, (ag1.symm.trans ag1).2 a j s |>.2⟩⟩
  obtain ⟨h', b1, b2⟩ := qgen T.1 hc e ⟨l.2.2.1, l.2.2.2.1⟩ (y := sy g1) (fun s k j q => ⟨sy_o (fun z => by subst z; unfold Sc at q; simp at q) (fun z => by rw [z.1] at q; unfold Sc at q; simp at q), rfl⟩) ay ⟨by rw [sy_o (by decide) (by decide), AgR.gi ag1 rfl]; exact T.1.2.2.1.1, by
    show m_gr g1 70 0 0 = none
    rw [AgR.gr ag1 rfl]; exact T.1.2.2.1.2⟩ ⟨_, _, _, _, _, R1⟩ (fun _ => rfl)
  refine ⟨h', b1, ⟨T.o b2, R1, F.trans (F2.up), t2, fun i hi => ?_⟩, b2.2.2.2⟩
  unfold tC
  rw [sy_50, (e2 i hi).2, nI_clamp (by have := (e2 i hi).1; omega)]
theorem st_ty (S : St go gp W Cn Tn Sn Qn L g h) (x : Int32) {m : Nat} (m1 : 1 ≤ m) (m8 : m ≤ 8) {C : List Nat} (hC : C.length = m) (hA : allP (fun j => okC (chN (Int32.toInt64 x) j)) m = true) (hc : ∀ i, i < m → chN (Int32.toInt64 x) i = C.getD i 0) (h60 : L.length + m ≤ 60) : ∃ g' h', f_L_does (some (69, 0)) 21 x (nI m) 0 0 h = m_ri h' (nI (L.length + m)) ∧ St go gp W Cn Tn Sn Qn (L ++ C) g' h' ∧ Cost h h' 0 := by
  obtain ⟨T, R, F, t, c⟩ := id S
  obtain ⟨g1, a1, a2, a3, a4⟩ := c_ty6 R.H (Int32.toInt64 x) m8 h60 t.2.1
  have e : f_X10_type (69, 0) (Int32.toInt64 x) (nI m) g = m_ri g1 (nI (L.length + m)) := by
    rw [c_tyIn m1 m8, c_ty5 R.H (Int32.toInt64 x) m8 t.1 t.2.1, if_pos hA, if_pos h60, a1]
  obtain ⟨h', b1, b2, b3⟩ := st_sy S (e_X10_type (rhoS_ok false) T.1.1 (69, 0) rfl (Int32.toInt64 x) (nI m)) e a2 (L' := L ++ C) (by rw [List.length_append, hC]; exact h60) (by rw [List.length_append, hC]; exact a3) (fun i hi => by
    rw [List.length_append, hC] at hi
    rw [a4]
    by_cases q : L.length ≤ i ∧ i < L.length + m
    · rw [if_pos q, getD_r q.1, ← hc (i - L.length) (by omega)]
      exact ⟨(chN_of _ _).1, rfl⟩
    · rw [if_neg q, getD_l (show i < L.length by omega), ← c i (by omega)]
      exact ⟨(t.2.2.2 i (by omega)).2.2, (t.2.2.2 i (by omega)).1⟩)
  exact ⟨_, h', (dz_21 (isO_rhoS false) x (nI m) 0 0 h).1 _ _ b1, b2, b3⟩
theorem st_wipe (S : St go gp W Cn Tn Sn Qn L g h) : ∃ g' h', f_X10_wipe (69, 0) h = m_ri h' (nI L.length) ∧ St go gp W Cn Tn Sn Qn [] g' h' ∧ Cost h h' 0 := by
  obtain ⟨T, R, F, t, c⟩ := id S
  have e := c_wipe R.H
  rw [t.2.1] at e
  obtain ⟨h', b1, b2⟩ := st_sy S (e_X10_wipe (rhoS_ok false) T.1.1 (69, 0) rfl) e ((Lp.refl _ g).si rfl) (L' := []) (by decide) (by rw [gi_eq]; rfl) (fun i hi => absurd hi (by simp))
  exact ⟨_, h', b1, b2⟩
theorem st_fl (S : St go gp W Cn Tn Sn Qn L g h) (hv : vd (fun i => L.getD i 0) L.length 0 0 0 = true) : ∃ g' h', f_X10_fault (69, 0) h = m_ri h' (-1) ∧ St go gp W Cn Tn Sn Qn L g' h' ∧ Cost h h' 0 := by
  obtain ⟨T, R, F, t, c⟩ := id S
  obtain ⟨g1, a, b⟩ := c_firstFault R.H t
  have hl := t.1
  have fv : ft (tC g) L.length 0 0 0 = -1 := by
    rw [ft_vd (by omega), vd_cong (T' := fun i => L.getD i 0) (fun i _ hi => c i (by omega))]; exact hv
  rw [fv] at a
  obtain ⟨h', b1, b2⟩ := st_q S (e_X10_fault (rhoS_ok false) T.1.1 (69, 0) rfl) (v := -1) (g1 := g1) (by rw [f_X10_fault, gR_69, pc_tape R.H, ao_22, a, bI_ri]) b.up
  exact ⟨_, h', b1, b2⟩
/-- what a tape means -/
def Ev (L : List Nat) (E : (Nat → Nat → Nat → Bool) → Nat → Bool) : Prop := vd (fun i => L.getD i 0) L.length 0 0 0 = true ∧ ∀ (T : Nat → Nat) (it : Nat → Nat → Nat → Bool), (∀ i, i < L.length → T i = L.getD i 0) → ev T it L.length (L.length + 1) 0 0 (up2 (fun _ _ => false) 0 (fun _ => false)) (up2 (fun _ _ => false) 0 (fun _ => true)) (up1 (fun _ => false) 0 false) = E it
theorem st_bb (S : St go gp W Cn Tn Sn Qn L g h) : BB W Cn Tn L.length g := by
  obtain ⟨T, R, F, t, c⟩ := S
  obtain ⟨H, G, rDay, rBlk, rSam, N, rWa, rWc, rWp, rWl, rWo, rWt, rWf, rWw, rWs, rWk, rCo, rTg, rPa, rTp, rSg, rCm, rSb, rDg, rIv⟩ := R
  obtain ⟨D, hD, d1, d2⟩ := id rDay
  exact ⟨H, G, N, d1.trans d2.symm, rWa, rWp, rWl, rWo, rCo, rTg, rPa, rWt, rWf, t⟩
theorem st_se (S : St go gp W Cn Tn Sn Qn L g h) {E : (Nat → Nat → Nat → Bool) → Nat → Bool} (V : Ev L E) {f : Nat} (hf : f < 32) (b : Bool) : ∃ g' h', f_X10_search (69, 0) (nI f) (bI b) h = m_ri h' (setOf (fun w => E (itP go Tn f b) w && seenP go f w) W) ∧ St go gp W Cn Tn Sn Qn L g' h' ∧ Cost h h' 0 := by
  obtain ⟨T, R, F, t, c⟩ := id S
  have B0 := st_bb S
  have hl := t.1
  have hv : vd (tC g) L.length 0 0 0 = true := by
    rw [vd_cong (T' := fun i => L.getD i 0) (fun i _ hi => c i (by omega))]; exact V.1
  obtain ⟨g1, a1, a2⟩ := c_checkQuery R.H t
  have L1 : Lp PS g g1 := a2.up
  have eT1 : tC g1 = tC g := tC_S L1.1
  rw [if_pos hv] at a1
  obtain ⟨g2, c1, c2⟩ := c_found (b := b) (B0.frm L1.1) hf (by rw [eT1]; exact hv)
  have e2 : ∀ w, (fnd g1 Tn L.length f b w && seenP g1 f w) = (E (itP go Tn f b) w && seenP go f w) := fun w => by
    rw [fnd_S L1.1, seenP_S L1.1, seenP_T F, fnd, V.2 _ _ c, itP_T F]
  rw [setOf_congr (fun w _ => e2 w)] at c1
  obtain ⟨h', b1, b2⟩ := st_q S (e_X10_search (rhoS_ok false) T.1.1 (69, 0) rfl (nI f) (bI b)) (g1 := g2) (by rw [f_X10_search, c_checkFace hf, bV_rt, ao_69, a1, bV_rt, ao_69, c1, bI_ri]) (L1.trans c2)
  exact ⟨_, h', b1, b2⟩
theorem st_re (S : St go gp W Cn Tn Sn Qn L g h) {E : (Nat → Nat → Nat → Bool) → Nat → Bool} (V : Ev L E) {f : Nat} (hf : f < 32) {p : Nat} (hp : p < 2 ^ 31) : ∃ g' h', f_X10_result (69, 0) (nI f) (nI p) h = m_ri h' (anR go (fun w => E (itP go Tn f false) w && seenP go f w) W (nI p)) ∧ St go gp W Cn Tn Sn Qn L g' h' ∧ Cost h h' 0 := by
  obtain ⟨T, R, F, t, c⟩ := id S
  have B0 := st_bb S
  have hl := t.1
  have hW := R.N.1
  have hv : vd (tC g) L.length 0 0 0 = true := by
    rw [vd_cong (T' := fun i => L.getD i 0) (fun i _ hi => c i (by omega))]; exact V.1
  obtain ⟨g1, a1, a2⟩ := c_checkQuery R.H t
  have L1 : Lp PS g g1 := a2.up
  have eT1 : tC g1 = tC g := tC_S L1.1
  rw [if_pos hv] at a1
  obtain ⟨g2, c1, c2⟩ := c_found (b := false) (B0.frm L1.1) hf (by rw [eT1]; exact hv)
  have e2 : ∀ w, (fnd g1 Tn L.length f false w && seenP g1 f w) = (E (itP go Tn f false) w && seenP go f w) := fun w => by
    rw [fnd_S L1.1, seenP_S L1.1, seenP_T F, fnd, V.2 _ _ c, itP_T F]
  rw [setOf_congr (fun w _ => e2 w)] at c1
  have L2 : Lp PS g g2 := L1.trans c2
  have c3 := c_res (S := fun w => E (itP go Tn f false) w && seenP go f w) (set := setOf (fun w => E (itP go Tn f false) w && seenP go f w) W) (R.H.frm L2.1) (R.N.frm L2.1) (R.rWp.frm L2.1) (R.rWc.frm L2.1) (fun i hi => by rw [bt_setOf _ (by omega) (by omega), decide_eq_true hi, Bool.true_and]) (nI p)
  rw [anR_S L2.1, anR_T F] at c3
  rw [bI_f] at c1
  obtain ⟨h', b1, b2⟩ := st_q S (e_X10_result (rhoS_ok false) T.1.1 (69, 0) rfl (nI f) (nI p)) (g1 := g2) (by rw [f_X10_result, c_checkFace hf, bV_rt, if_pos (nI_pos' hp), ao_69, a1, bV_rt, ao_69, c1, bI_ri, c3]) L2
  exact ⟨_, h', b1, b2⟩
theorem st_see (S : St go gp W Cn Tn Sn Qn L g h) {f k : Nat} (hf : f < 32) (hk : k < W) : ∃ h', f_X10_sees (69, 0) (nI f) (nI k) h = m_ri h' (bI (seenP go f k)) ∧ St go gp W Cn Tn Sn Qn L g h' ∧ Cost h h' 0 := by
  obtain ⟨T, R, F, t, c⟩ := id S
  obtain ⟨D, hD, d1, d2⟩ := id R.rDay
  have e : f_X10_sees (69, 0) (nI f) (nI k) g = m_ri g (bI (seenP g f k)) := by
    simp only [f_X10_sees, c_checkFace hf, bV_rt, ao_69, c_workAt R.H R.N hk, bR_ra, gI_69, ao_27, d1, ← d2, c_isSeenBy R.rWa R.rWp R.rWl R.rWo R.rCo hk hf, bI_ri, rz_bI]
  rw [seenP_T F] at e
  exact st_q S (e_X10_sees (rhoS_ok false) T.1.1 (69, 0) rfl (nI f) (nI k)) e (Lp.refl _ _)
theorem st_seesx (S : St go gp W Cn Tn Sn Qn L g h) {f : Nat} (hf : f < 32) : ∃ h', f_L_does (some (69, 0)) 11 (nI f) (nI W) 0 0 h = m_ri h' (-2100000000) ∧ St go gp W Cn Tn Sn Qn L g h' ∧ Cost h h' 1 := by
  obtain ⟨T, R, F, t, c⟩ := id S
  have hW := R.N.1
  have e : f_X10_sees (69, 0) (nI f) (nI W) g = m_ex g 0 := by
    simp only [f_X10_sees, c_checkFace hf, bV_rt, ao_69, c_workAt_bad R.N (Or.inr ((nI_leI (a := W) (b := W) (by omega) (by omega)).mpr (Nat.le_refl W))), bR_ex]
  exact st_x S (by decide) (e_X10_sees (rhoS_ok false) T.1.1 (69, 0) rfl (nI f) (nI W)) e (dz_11 (isO_rhoS false) (nI f) (nI W) 0 0 h)
end ST
