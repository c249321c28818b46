/-! ## how many there are that are told apart by numbers below p -/
theorem cnt_one {P : Nat → Bool} {a : Nat} : ∀ {n : Nat}, cnt P n ≤ cnt (fun i => P i && !decide (i = a)) n + 1
  | 0 => by simp [cnt]
  | n + 1 => by
    have ih := cnt_one (P := P) (a := a) (n := n)
    rw [cnt, cnt]
    by_cases e : n = a
    · subst e
      have q : cnt P n ≤ cnt (fun i => P i && !decide (i = n)) n := cnt_mono (fun i hi z => by
        show (P i && !decide (i = n)) = true
        rw [z, decide_eq_false (by omega)]; rfl)
      split <;> omega
    · have q : (P n && !decide (n = a)) = P n := by rw [decide_eq_false e]; simp
      rw [q]; omega
theorem cnt_inj {f : Nat → Nat} : ∀ (p : Nat) {P : Nat → Bool} {n : Nat}, (∀ i, i < n → P i = true → f i < p) → (∀ i j, i < n → j < n → P i = true → P j = true → f i = f j → i = j) → cnt P n ≤ p
  | 0, P, n, h1, _ => by
    have : cnt P n ≤ cnt (fun _ => false) n := cnt_mono (fun i hi z => absurd (h1 i hi z) (by omega))
    have z : ∀ n, cnt (fun _ => false) n = 0 := fun n => by
      induction n with
      | zero => rfl
      | succ n ih => rw [cnt, ih]; rfl
    rw [z] at this; exact this
  | p + 1, P, n, h1, h2 => by
    by_cases e : ∃ a, a < n ∧ P a = true ∧ f a = p
    · obtain ⟨a, a1, a2, a3⟩ := e
      have q := cnt_one (P := P) (a := a) (n := n)
      have := cnt_inj (f := f) p (P := fun i => P i && !decide (i = a)) (n := n) (fun i hi z => by
        rw [Bool.and_eq_true, Bool.not_eq_true', decide_eq_false_iff_not] at z
        have q1 := h1 i hi z.1
        have q2 : f i ≠ p := fun y => z.2 (h2 i a hi a1 z.1 a2 (y.trans a3.symm))
        omega) (fun i j hi hj zi zj e => by
        rw [Bool.and_eq_true] at zi zj
        exact h2 i j hi hj zi.1 zj.1 e)
      omega
    · have := cnt_inj (f := f) p (P := P) (n := n) (fun i hi z => by
        have q1 := h1 i hi z
        have q2 : f i ≠ p := fun y => e ⟨i, hi, z, y⟩
        omega) h2
      omega
/-- where no one is at place p, all are before it -/
theorem rk_all {h : am_H} {S : Nat → Bool} {W p : Nat} (no : ∀ j, j < W → S j = true → rkN h S W j ≠ p) : ∀ j, j < W → S j = true → rkN h S W j < p := by
  have key : ∀ (d : Nat) j, j < W → S j = true → rkN h S W j = p + 1 + d → False := by
    intro d
    induction d using Nat.strongRecOn with
    | _ d ih =>
      intro j hj sj e
      have bel : ∀ i, i < W → (ahd h j i && S i) = true → rkN h S W i < p := fun i hi z => by
        rw [Bool.and_eq_true] at z
        have l := rk_lt hi z.2 z.1
        have n := no i hi z.2
        rcases Nat.lt_or_ge (rkN h S W i) p with q | q
        · exact q
        · exact (ih (rkN h S W i - (p + 1)) (by omega) i hi z.2 (by omega)).elim
      have c := cnt_inj p (P := fun i => ahd h j i && S i) (n := W) (f := rkN h S W) bel (fun a b ha hb za zb e => by
        rw [Bool.and_eq_true] at za zb
        exact rk_inj ha hb za.2 zb.2 e)
      have : rkN h S W j = cnt (fun i => ahd h j i && S i) W := rfl
      omega
  intro j hj sj
  rcases Nat.lt_or_ge (rkN h S W j) p with q | q
  · exact q
  · exact (key (rkN h S W j - (p + 1)) j hj sj (by have := no j hj sj; omega)).elim
theorem rk_W {h : am_H} {S : Nat → Bool} {W j : Nat} (hj : j < W) : rkN h S W j < W := by
  have : cnt (fun i => ahd h j i && S i) W < cnt (fun _ => true) W := cnt_lt hj (fun i hi z => rfl) (by show (ahd h j j && S j) = false; rw [ahd_irr]; rfl) rfl
  have := cnt_le (fun _ => true) W
  unfold rkN; omega
theorem AlR.step {N c : Nat} {h h1 : am_H} {r : am_R} (C : Cost h h1 c) (A : AlR N h1 r) : AlR (c + N) h r := by
  obtain ⟨h2, b1, b2, b3, b4, b5⟩ := A
  exact ⟨h2, b1, b2, b3, b4, C.trans b5⟩
theorem AlR.st {N : Nat} {h h1 : am_H} {r : am_R} (C : Cost h h1 0) (A : AlR N h1 r) : AlR N h r := (AlR.step C A).le (by omega)
/-- the ghost behind it all: nothing but what the class keeps has changed -/
def mx (go g : am_H) : am_H := (g.1, fun a b c => if Sm (a, b) = true then m_gi go a b c else m_gi g a b c, fun a b c => if Sm (a, b) = true then m_gr go a b c else m_gr g a b c, g.2.2.2.1, g.2.2.2.2.1, g.2.2.2.2.2)
theorem mx_gi {go g : am_H} {a b c : Nat} : m_gi (mx go g) a b c = if Sm (a, b) = true then m_gi go a b c else m_gi g a b c := rfl
theorem mx_gr {go g : am_H} {a b c : Nat} : m_gr (mx go g) a b c = if Sm (a, b) = true then m_gr go a b c else m_gr g a b c := rfl
theorem pt_sm {a b c : Nat} (s : Sm (a, b) = true) (h : pX [(70, 24), (70, 29)] [50, 51, 52, 53] a c = true) : PT a c = true := by
  unfold Sm at s
  simp only [Bool.and_eq_true, Bool.or_eq_true, Nat.ble_eq, beq_iff_eq] at s
  show pX _ _ a c = true
  unfold pX at h ⊢
  rw [Bool.and_eq_true] at h ⊢
  obtain ⟨h1, h2⟩ := h
  simp only [List.contains_cons, List.contains_nil, Bool.or_false, Bool.not_eq_true', Bool.or_eq_false_iff, beq_eq_false_iff_ne, ne_eq, Prod.mk.injEq] at h1 h2 ⊢
  omega
theorem mx_frm {go g : am_H} (F : Frm PT go g) : Frm (pX [(70, 24), (70, 29)] [50, 51, 52, 53]) g (mx go g) := by
  refine ⟨fun a k j hp => ?_, fun a k j hp => ?_, fun a hp => rfl⟩
  · rw [mx_gi]
    by_cases z : Sm (a, k) = true
    · rw [if_pos z]; exact (F.1 a k j (pt_sm z hp)).symm
    · rw [if_neg z]
  · rw [mx_gr]
    by_cases z : Sm (a, k) = true
    · rw [if_pos z]; exact (F.2.1 a k j (pt_sm z hp)).symm
    · rw [if_neg z]
section PT2
variable {W Cn Tn Sn Qn : Nat} {go gp g h : am_H} {L : List Nat}
theorem st_end (S : St go gp W Cn Tn Sn Qn [] g h) {h0 : am_H} (O : Ob false go h0) (A : AgR go gp) (z : m_gi go 70 0 24 = 0) : Tw (mx go g) gp h := by
  obtain ⟨T, R, F, t, c⟩ := S
  have F2 := mx_frm F
  have sc : CL g (mx go g) := fun s k j q => ⟨by rw [mx_gi, if_neg (by rw [ScSm q]; decide)], by rw [mx_gr, if_neg (by rw [ScSm q]; decide)]⟩
  have ag : AgR go (mx go g) := O.2.1.of (fun s k j q => by rw [mx_gi, if_pos q]) (fun s k j q => by rw [mx_gr, if_pos q])
  have R1 : RR W Cn Tn Sn Qn (mx go g) := by
    obtain ⟨H, G, rDay, rBlk, rSam, N, rWa, rWc, rWp, rWl, rWo, rWt, rWf, rWw, rWs, rWk, rCo, rTg, rPa, rTp, rSg, rCm, rSb, rDg, rIv⟩ := R
    refine ⟨H.frm F2, G.frm F2, rDay.frm F2, rBlk.frm F2, rSam.frm F2, N.frm F2, rWa.frm F2, rWc.frm F2, rWp.frm F2, rWl.frm F2, rWo.frm F2, rWt.frm F2, rWf.frm F2, rWw.frm F2, rWs.frm F2, rWk.frm F2, rCo.frm F2, rTg.frm F2, rPa.frm F2, ⟨0, by omega, (F2.1 22 0 1 rfl).trans t.2.1, ?_, fun i hi => absurd hi (by omega)⟩, rSg.frm F2, rCm.frm F2, rSb.frm F2, rDg.frm F2, rIv.frm F2⟩
    rw [mx_gi, if_pos (by decide)]; exact z
  refine ⟨⟨⟨T.1.1.congr (fun s k j q => (sc s k j q).1) (fun s k j q => (sc s k j q).2), ag.symm.trans ag, ⟨by rw [AgR.gi ag rfl]; exact O.2.2.1.1, by rw [AgR.gr ag rfl]; exact O.2.2.1.2⟩, ⟨_, _, _, _, _, R1⟩⟩, T.2.1, T.2.2⟩, ag.symm.trans A⟩
theorem al_254 {h0 : am_H} (O : Ob false go h0) (A : AgR go gp) (z0 : m_gi go 70 0 24 = 0) (hW : W ≤ 20) {f : Nat} (hf : f < 32) {y nn : Int32} (hy : y &&& nn = 0) (hn : y ||| nn = setOf (seenP go f) W) (hL : 1 ≤ L.length) (V : Ev L (fun _ _ => true)) : ∀ (n p : Nat) (g h : am_H), p ≤ W → W < p + n → St go gp W Cn Tn Sn Qn L g h → AlR 0 h (f_L_areParted_254 n (some (69, 0)) (nI f) 1 (setOf (seenP go f) W) y nn (nI p) (setOf (fun j => seenP go f j && decide (rkN go (seenP go f) W j < p)) W) h)
  | 0, p, g, h, h1, h2, _ => by omega
  | n + 1, p, g, h, h1, h2, S => by
    obtain ⟨g1, h1', a1, a2, a3⟩ := st_re S V hf (p := p) (by omega)
    rw [f_L_areParted_254, ao_69]
    have es : (fun w => (fun (_ : Nat → Nat → Nat → Bool) (_ : Nat) => true) (itP go Tn f false) w && seenP go f w) = seenP go f := funext fun w => Bool.true_and _
    rw [es] at a1
    rw [a1, bI_ri]
    by_cases ex : ∃ j, j < W ∧ seenP go f j = true ∧ rkN go (seenP go f) W j = p
    · obtain ⟨j, j1, j2, j3⟩ := ex
      have rj := rk_W (h := go) (S := seenP go f) j1
      have ev : anR go (seenP go f) W (nI p) = nI j := by
        unfold anR
        refine fsR_at (Nat.zero_le _) (by omega) (by rw [j2, j3, decide_eq_true rfl]; rfl) (fun i _ hi z => ?_)
        rw [Bool.and_eq_true, decide_eq_true_eq] at z
        have ri := rk_W (h := go) (S := seenP go f) (W := W) (j := i) (by omega)
        exact rk_inj (by omega) j1 z.1 j2 (((nI_eq (a := rkN go (seenP go f) W i) (b := p) (by omega) (by omega)).mp z.2).trans j3.symm)
      rw [ev, if_neg (nI_pos (by omega)), ao_69]
      obtain ⟨g2, h2', b1, b2, b3⟩ := st_re a2 V hf (p := p) (by omega)
      rw [es] at b1
      rw [b1, bI_ri, ev, nI_1]
      have en : setOf (fun j => seenP go f j && decide (rkN go (seenP go f) W j < p)) W ||| (1 : Int32) <<< (nI j &&& 31) = setOf (fun j => seenP go f j && decide (rkN go (seenP go f) W j < p + 1)) W := by
        rw [one_eq]
        apply b_ext
        intro i hi
        rw [b_or, bt_setOf _ (by omega) hi, bt_setOf _ (by omega) hi, bt_one (by omega) hi]
        by_cases e : i = j
        · subst e
          rw [decide_eq_true j1, j2, decide_eq_true (show rkN go (seenP go f) W i < p + 1 by omega), decide_eq_true rfl, Bool.or_true]; rfl
        · rw [decide_eq_false e, Bool.or_false]
          by_cases iW : i < W
          · rw [decide_eq_true iW]
            cases q : seenP go f i
            · rfl
            · have ne : rkN go (seenP go f) W i ≠ p := fun y => e (rk_inj iW j1 q j2 (y.trans j3.symm))
              have : (rkN go (seenP go f) W i < p) = (rkN go (seenP go f) W i < p + 1) := propext (by omega)
              simp only [this]
          · rw [decide_eq_false iW, Bool.false_and, Bool.false_and]
      rw [en]
      exact AlR.st a3 (AlR.st b3 (al_254 O A z0 hW hf hy hn hL V n (p + 1) g2 h2' (by omega) (by omega) b2))
    · have no : ∀ j, j < W → seenP go f j = true → rkN go (seenP go f) W j ≠ p := fun j j1 j2 j3 => ex ⟨j, j1, j2, j3⟩
      have ev : anR go (seenP go f) W (nI p) = -1 := by
        unfold anR
        refine fsR_no (fun i _ hi => ?_)
        cases q : seenP go f i
        · rfl
        · have ri := rk_W (h := go) (S := seenP go f) (W := W) (j := i) (by omega)
          have := no i (by omega) q
          rw [decide_eq_false (fun z => this ((nI_eq (a := rkN go (seenP go f) W i) (b := p) (by omega) (by omega)).mp z))]; rfl
      have al := rk_all no
      have ef : setOf (fun j => seenP go f j && decide (rkN go (seenP go f) W j < p)) W = setOf (seenP go f) W := setOf_congr (fun i hi => by
        cases q : seenP go f i
        · rfl
        · rw [decide_eq_true (al i hi q)]; rfl)
      rw [ev, if_pos (by decide), if_neg (by decide), ao_69]
      obtain ⟨g2, h2', b1, b2, b3⟩ := st_wipe a2
      have h60 := a2.2.2.2.1.1
      rw [b1, bI_ri, if_neg (fun z => by have := (nI_leI (a := L.length) (b := 0) (by omega) (by omega)).mp z; omega), if_pos hy, if_pos hn, if_pos ef]
      exact AlR.st a3 (AlR.st b3 ⟨h2', _, _, rfl, st_end b2 O A z0, Cost.refl _⟩)
theorem al_204 {h0 : am_H} (O : Ob false go h0) (A : AgR go gp) (z0 : m_gi go 70 0 24 = 0) (hW : W ≤ 20) {f : Nat} (hf : f < 32) {k num : Nat} (hk : k < 3) (hnum : num < lim k) (b : Bool) {s0 : Int32} (e : s0 = bI b) (S : St go gp W Cn Tn Sn Qn ([33] ++ itL k num) g h) : AlR 0 h (f_L_areParted_204 (some (69, 0)) (nI f) (nI k) (nI num) (setOf (seenP go f) W) (setOf (fun w => itP go Tn f b (ltr k) num w && seenP go f w) W) s0 (nI f) (some (69, 0)) h) := by
  subst e
  have ll := itL_len (k := k) (num := num)
  obtain ⟨g1, h1, a1, a2, a3⟩ := st_se S (ev2 hk hnum) hf b
  replace a1 : f_X10_search (69, 0) (nI f) (bI b) h = m_ri h1 (setOf (fun w => (!itP go Tn f b (ltr k) num w) && seenP go f w) W) := a1
  rw [f_L_areParted_204, ao_69, a1, bI_ri]
  obtain ⟨g2, h2, b1, b2, b3⟩ := st_mk (i := 5) (c := 124) a2 hk hnum (by rw [List.length_append]; simp only [List.length_cons, List.length_nil]; omega) (Or.inr ⟨rfl, rfl⟩)
  rw [show nI 5 = (5 : Int32) from rfl] at b1
  rw [b1, bI_ri, if_neg (by decide), ao_69]
  obtain ⟨g3, h3, c1, c2, c3⟩ := st_fl b2 (ev3 hk hnum).1
  rw [c1, bI_ri, if_pos (by decide), ao_69]
  obtain ⟨g4, h4, d1, d2, d3⟩ := st_se c2 (ev3 hk hnum) hf false
  rw [bI_f] at d1
  rw [d1, bI_ri, if_pos (setOf_congr (fun w _ => Bool.true_and _)), f_L_areParted_246]
  have l := al_254 (L := ([33] ++ itL k num ++ [124]) ++ itL k num) (y := setOf (fun w => itP go Tn f b (ltr k) num w && seenP go f w) W) (nn := setOf (fun w => (!itP go Tn f b (ltr k) num w) && seenP go f w) W) O A z0 hW hf ?_ ?_ ?_ (ev3 hk hnum) 5000 0 g4 h4 (by omega) (by omega) d2
  · have e0 : setOf (fun j => seenP go f j && decide (rkN go (seenP go f) W j < 0)) W = 0 := by
      rw [setOf_congr (P := fun j => seenP go f j && decide (rkN go (seenP go f) W j < 0)) (Q := fun _ => false) (fun i hi => by
        show (seenP go f i && decide (rkN go (seenP go f) W i < 0)) = false
        rw [decide_eq_false (by omega), Bool.and_false]), setOf_false]
    rw [e0, nI_0] at l
    exact AlR.st a3 (AlR.st b3 (AlR.st c3 (AlR.st d3 l)))
  · apply b_ext
    intro i hi
    rw [b_and, bt_setOf _ (by omega) hi, bt_setOf _ (by omega) hi, b_0]
    cases decide (i < W) <;> cases itP go Tn f b (ltr k) num i <;> cases seenP go f i <;> rfl
  · apply b_ext
    intro i hi
    rw [b_or, bt_setOf _ (by omega) hi, bt_setOf _ (by omega) hi, bt_setOf _ (by omega) hi]
    cases decide (i < W) <;> cases itP go Tn f b (ltr k) num i <;> cases seenP go f i <;> rfl
  · rw [List.length_append]; omega
theorem al_157 {h0 : am_H} (O : Ob false go h0) (A : AgR go gp) (z0 : m_gi go 70 0 24 = 0) (hW : W ≤ 20) {f : Nat} (hf : f < 32) {k num : Nat} (hk : k < 3) (hnum : num < lim k) (x2 : Int32) (b : Bool) {s0 : Int32} (e : s0 = bI b) (eb : b = decide (x2 &&& (1 : Int32) = 1)) (S : St go gp W Cn Tn Sn Qn (itL k num) g h) : AlR 0 h (f_L_areParted_157 (some (69, 0)) x2 (nI f) (nI k) (nI num) (setOf (seenP go f) W) s0 (nI f) (some (69, 0)) h) := by
  subst e
  have ll := itL_len (k := k) (num := num)
  obtain ⟨g1, h1, a1, a2, a3⟩ := st_se S (ev1 hk hnum) hf b
  rw [f_L_areParted_157, ao_69, a1, bI_ri, ao_69]
  obtain ⟨g2, h2, b1, b2, b3⟩ := st_wipe a2
  rw [b1, bI_ri, if_neg (fun z => by have := (nI_eq (a := (itL k num).length) (b := 0) (by omega) (by omega)).mp z; omega)]
  obtain ⟨g3, h3, c1, c2, c3⟩ := st_mk (i := 1) (c := 33) b2 hk hnum (by simp) (Or.inl ⟨rfl, rfl⟩)
  rw [show nI 1 = (1 : Int32) from rfl] at c1
  rw [c1, bI_ri, if_neg (by decide), ao_69]
  obtain ⟨g4, h4, d1, d2, d3⟩ := st_fl c2 (ev2 hk hnum).1
  rw [d1, bI_ri, if_pos (by decide)]
  refine AlR.st a3 (AlR.st b3 (AlR.st c3 (AlR.st d3 ?_)))
  by_cases q : x2 &&& (1 : Int32) = 1
  · rw [if_pos q]
    exact al_204 O A z0 hW hf hk hnum b (by rw [eb, decide_eq_true q]; rfl) d2
  · rw [if_neg q]
    exact al_204 O A z0 hW hf hk hnum b (by rw [eb, decide_eq_false q]; rfl) d2
theorem al_74 {h0 : am_H} (O : Ob false go h0) (A : AgR go gp) (z0 : m_gi go 70 0 24 = 0) (hW : W ≤ 20) {f : Nat} (hf : f < 32) {k num : Nat} (hk : k < 3) (hnum : num < lim k) (x2 : Int32) : ∀ (n j : Nat) (h : am_H), j ≤ W → W < j + n → St go gp W Cn Tn Sn Qn [] g h → AlR 1 h (f_L_areParted_74 n (some (69, 0)) x2 (nI f) 1 (nI k) (nI num) (setOf (seenP go f) j) (nI j) h)
  | 0, j, h, h1, h2, _ => by omega
  | n + 1, j, h, h1, h2, S => by
    rw [f_L_areParted_74]
    by_cases hj : j < W
    · obtain ⟨h', a1, a2, a3⟩ := st_see S hf hj
      rw [(dz_11 (a := (69, 0)) rfl (nI f) (nI j) 0 0 h).1 _ _ a1, bI_ri, if_neg (by cases seenP go f j <;> decide), ao_69]
      obtain ⟨h'', b1, b2, b3⟩ := st_see a2 hf hj
      rw [b1, bI_ri]
      have l := al_74 O A z0 hW hf hk hnum x2 n (j + 1) h'' (by omega) (by omega) b2
      have so := setOf_or (seenP go f) (n := j) (by omega)
      refine AlR.st a3 (AlR.st b3 ?_)
      cases q : seenP go f j
      · rw [q, if_neg (by decide), or_0] at so
        rw [bI_f, if_pos rfl, f_L_areParted_108, or_0, nI_1, so]
        exact l
      · rw [q, if_pos rfl] at so
        rw [bI_t, if_neg (by decide), f_L_areParted_108, nI_1, one_eq, so]
        exact l
    · obtain rfl : j = W := by omega
      obtain ⟨h', a1, a2, a3⟩ := st_seesx S hf
      rw [a1, bI_ri, if_pos (by decide), if_neg (by decide), types_0]
      obtain ⟨g2, h2', b1, b2, b3⟩ := st_it a2 hk hnum (by simp)
      rw [b1, bI_ri, if_neg (by decide), ao_69]
      obtain ⟨g3, h3, c1, c2, c3⟩ := st_fl b2 (ev1 hk hnum).1
      rw [c1, bI_ri, if_pos (by decide)]
      refine (AlR.step a3 (N := 0) (AlR.st b3 (AlR.st c3 ?_))).le (by omega)
      by_cases q : x2 &&& (1 : Int32) = 1
      · rw [if_pos q]
        exact al_157 O A z0 hW hf hk hnum x2 true rfl (by rw [decide_eq_true q]) c2
      · rw [if_neg q]
        exact al_157 O A z0 hW hf hk hnum x2 false rfl (by rw [decide_eq_false q]) c2
theorem al_27 {h0 : am_H} (O : Ob false go h0) (A : AgR go gp) (z0 : m_gi go 70 0 24 = 0) {f : Nat} (hf : f < 32) (x2 : Int32) (S : St go gp W Cn Tn Sn Qn [] g h) : AlR 1 h (f_L_areParted_27 (some (69, 0)) x2 (nI f) 1 h) := by
  have hW := S.2.1.N.1
  have k63 : ∀ {k : Nat} (_ : k < 3) (s1 : Int32), AlR 1 h (f_L_areParted_63 (some (69, 0)) x2 (nI f) 1 (nI k) (nI (lim k)) s1 h) := fun {k} hk s1 => by
    obtain ⟨num, hn, en⟩ := low_lt s1 (k := lim k) (by unfold lim; repeat' split
                                                       all_goals omega) (by unfold lim; repeat' split
                                                                            all_goals omega)
    have n0 : nI (lim k) ≠ 0 := fun z => by
      have := (nI_eq (a := lim k) (b := 0) (by unfold lim; repeat' split
                                               all_goals omega) (by omega)).mp z
      unfold lim at this
      revert this
      repeat' split
      all_goals omega
    rw [f_L_areParted_63, low_eq n0, bI_ri, en]
    exact al_74 O A z0 hW hf hk hn x2 5000 0 h (by omega) (by omega) S
  obtain ⟨k, hk, ek⟩ := low_lt (x2 >>> ((3 : Int32) &&& 31)) (k := 3) (by decide) (by decide)
  rw [show nI 3 = (3 : Int32) from rfl] at ek
  rw [f_L_areParted_27, low_eq (by decide), bI_ri, ek]
  rcases (show k = 0 ∨ k = 1 ∨ k = 2 by omega) with rfl | rfl | rfl
  · rw [if_pos (by decide)]; exact k63 (k := 0) (by decide) _
  · rw [if_neg (by decide), if_pos (by decide)]; exact k63 (k := 1) (by decide) _
  · rw [if_neg (by decide), if_neg (by decide)]; exact k63 (k := 2) (by decide) _
end PT2
/-! ## both wiped, then one of them asked -/
def wpG (g : am_H) : am_H := m_si (m_si g 22 0 1 0) 70 0 24 0
theorem wpG_ag {g y : am_H} (A : AgR g y) : AgR (wpG g) (wpG y) := by
  refine ⟨fun a j s => ?_, fun a j s => A.2 a j s⟩
  show m_gi (wpG y) a.1 a.2 j = m_gi (wpG g) a.1 a.2 j
  have := A.1 a j s
  simp only [wpG, m_gi_si]
  split
  · rfl
  · split
    · rfl
    · exact this
theorem wpG_rr {W Cn Tn Sn Qn : Nat} {g : am_H} (R : RR W Cn Tn Sn Qn g) : RR W Cn Tn Sn Qn (wpG g) := by
  have F : Frm (pX [(22, 1), (70, 24)] []) g (wpG g) := ((Frm.refl _ g).si rfl).si rfl
  obtain ⟨H, G, rDay, rBlk, rSam, N, rWa, rWc, rWp, rWl, rWo, rWt, rWf, rWw, rWs, rWk, rCo, rTg, rPa, rTp, rSg, rCm, rSb, rDg, rIv⟩ := R
  exact ⟨H.frm F, G.frm F, rDay.frm F, rBlk.frm F, rSam.frm F, N.frm F, rWa.frm F, rWc.frm F, rWp.frm F, rWl.frm F, rWo.frm F, rWt.frm F, rWf.frm F, rWw.frm F, rWs.frm F, rWk.frm F, rCo.frm F, rTg.frm F, rPa.frm F, ⟨0, by omega, rfl, rfl, fun i hi => absurd hi (by omega)⟩, rSg.frm F, rCm.frm F, rSb.frm F, rDg.frm F, rIv.frm F⟩
theorem wp_ob {b : Bool} {g h : am_H} (O : Ob b g h) : ∃ h', f_X10_wipe (rhoS b (69, 0)) h = m_ri h' (m_gi g 70 0 24) ∧ PostC b g h (wpG g) h' 0 := by
  obtain ⟨W, Cn, Tn, Sn, Qn, R⟩ := O.2.2.2
  obtain ⟨n, hn, t1, t2, -⟩ := R.rTp
  have e := c_wipe R.H
  rw [t1, ← t2] at e
  refine qgen O (e_X10_wipe (rhoS_ok b) O.1 (69, 0) rfl) e ⟨rfl, rfl⟩ (y := wpG g) (fun s k j q => ⟨?_, rfl⟩) (wpG_ag O.2.1) ⟨?_, O.2.2.1.2⟩ ⟨_, _, _, _, _, wpG_rr R⟩ (fun _ => rfl)
  · show m_gi (m_si (m_si g 22 0 1 0) 70 0 24 0) s k j = _
    rw [m_gi_si, if_neg (fun z => by rw [z.1] at q; unfold Sc at q; simp at q)]
  · show m_gi (m_si (m_si g 22 0 1 0) 70 0 24 0) 70 0 0 = 0
    rw [m_gi_si, if_neg (by decide), m_gi_si, if_neg (by decide)]; exact O.2.2.1.1
theorem areParted_ok (x2 : Int32) {go gp h : am_H} (T : Tw go gp h) : AlR 1 h (f_L_areParted (some (69, 0)) (some (72, 0)) x2 h) := by
  obtain ⟨f, hf, ef⟩ := low_lt x2 (k := 32) (by decide) (by decide)
  rw [show nI 32 = (32 : Int32) from rfl] at ef
  rw [f_L_areParted, low_eq (by decide), bI_ri, ao_69, ef]
  obtain ⟨h1, a1, a2⟩ := wp_ob T.1.1
  rw [rho_f] at a1
  rw [a1, bI_ri, ao_72]
  have T1 := T.1.o a2
  obtain ⟨h2, b1, b2⟩ := wp_ob T1.2.1
  rw [rho_t] at b1
  rw [b1, bI_ri, if_pos (AgR.gi T.2 (s := 70) (k := 0) rfl 24)]
  have T2 := T1.p b2
  obtain ⟨W, Cn, Tn, Sn, Qn, R⟩ := T.1.1.2.2.2
  have R1 := wpG_rr R
  have S : St (wpG go) (wpG gp) W Cn Tn Sn Qn [] (wpG go) h2 := ⟨T2, R1, Frm.refl _ _, ⟨by decide, rfl, rfl, fun i hi => absurd hi (by simp)⟩, fun i hi => absurd hi (by simp)⟩
  exact AlR.st a2.2.2.2 (AlR.st b2.2.2.2 (al_27 T2.1 (wpG_ag T.2) rfl hf x2 S))
