/-! ## the sieve, and what the reference does work by work -/
abbrev PS : Nat → Nat → Bool := pX [(23, 3), (70, 29)] [8, 9, 10, 15, 51, 52, 53]
def BB (W Cn Tn len : Nat) (h : am_H) : Prop := ShC h ∧ ShM h ∧ RWn W h ∧ m_gi h 69 0 0 = m_gi h 70 0 1 ∧ RWa W h ∧ RWp W h ∧ RWl W h ∧ RWo W Cn h ∧ RCo Cn h ∧ RTg Tn h ∧ RPa Tn h ∧ RWt W Tn h ∧ RWf W Tn h ∧ TpP h len
theorem BB.frm {W Cn Tn len : Nat} {h g : am_H} (F : Frm PS h g) (B : BB W Cn Tn len h) : BB W Cn Tn len g := by
  obtain ⟨b1, b2, b3, b4, b5, b6, b7, b8, b9, b10, b11, b12, b13, b14⟩ := B
  exact ⟨b1.frm F, b2.frm F, b3.frm F, by rw [F.1 69 0 0 rfl, F.1 70 0 1 rfl]; exact b4, b5.frm F, b6.frm F, b7.frm F, b8.frm F, b9.frm F, b10.frm F, b11.frm F, b12.frm F, b13.frm F, b14.frm F⟩
/-- the item of a letter and a number, of a work -/
def tgS (h : am_H) (Tn : Nat) (b : Bool) (x k : Nat) : Bool := if x < Tn then (if m_gi h 11 0 x = -1 then bt (m_gi h 40 0 k) x else bt (if b then blg h (m_gi h 40 0 k) Tn else m_gi h 41 0 k) (m_gi h 11 0 x).toNatClampNeg) else false
def itP (h : am_H) (Tn f : Nat) (b : Bool) (l x k : Nat) : Bool := if l = 116 then tgS h Tn b x k else if l = 97 then toldP h f k && bt (m_gi h 34 0 k) x else !decide (nI x < m_gi h 33 0 k)
theorem seenP_S {h g : am_H} (F : Frm PS h g) (f k : Nat) : seenP g f k = seenP h f k := by
  simp only [seenP, ownP, opP, F.1 34 0 k rfl, F.1 37 0 k rfl, F.1 38 0 k rfl, F.1 39 0 k rfl, F.1 45 0 _ rfl, F.1 70 0 1 rfl]
theorem toldP_S {h g : am_H} (F : Frm PS h g) (f k : Nat) : toldP g f k = toldP h f k := by
  simp only [toldP, seenP_S F, ownP, opP, F.1 34 0 k rfl, F.1 39 0 k rfl, F.1 46 0 _ rfl, F.1 70 0 1 rfl]
theorem itP_S {h g : am_H} (F : Frm PS h g) (Tn f : Nat) (b : Bool) : itP g Tn f b = itP h Tn f b := by
  funext l x k
  unfold itP tgS
  rw [toldP_S F, F.1 34 0 k rfl, F.1 33 0 k rfl, F.1 40 0 k rfl, F.1 41 0 k rfl, F.1 11 0 x rfl, blg_eq (g := g) (h := h) (F.e11) (F.e13)]
theorem tC_S {h g : am_H} (F : Frm PS h g) : tC g = tC h := tC_cong (funext fun k => funext fun j => F.1 50 k j rfl)
section Items
variable {W Cn Tn len : Nat} {g : am_H} {f x k l : Nat} {b : Bool}
theorem c_isTagSo (B : BB W Cn Tn len g) (hk : k < W) (hx : x < 30) : f_X10_isTagSo (69, 0) (some (27, k)) (nI x) (bI b) g = m_ri g (bI (tgS g Tn b x k)) := by
  obtain ⟨H, G, N, e69, a, pp, l, o, C, T, A, wt, wf, t⟩ := B
  have hT := T.1
  have i1 : (nI x < nI Tn) = (x < Tn) := i_lt (by omega) (by omega)
  simp only [f_X10_isTagSo_51, f_X10_isTagSo, f_X10_placesOf_22, f_X10_placesOf, f_X7_meaningOf, gR_69, pc_tags H, gI_21, T.2.1, i1, ao_21, gR_21, pc_mean H, aI_11 hx, bI_ri, gI_27, wt.1 k hk, wf.1 k hk, c_has (show x < 32 by omega), rz_bI, rz_0, ao_69, bI_eq0, c_belongUnder H T, tgS]
  by_cases h1 : x < Tn
  · rw [if_pos h1, if_pos h1]
    rcases t_mean T h1 with e | ⟨m, hm, e⟩
    · rw [if_pos e, if_pos e]
    · have ne : ¬ m_gi g 11 0 x = -1 := by rw [e]; exact nI_m1 (by omega)
      rw [if_neg ne, if_neg ne, e, nI_clamp (by omega)]
      cases b
      · rw [if_pos rfl, bI_ri, c_has (show m < 32 by omega), bI_ri, rz_bI]; rfl
      · rw [if_neg (by decide), bI_ri, c_has (show m < 32 by omega), bI_ri, rz_bI]; rfl
  · rw [if_neg h1, if_neg h1]; rfl
theorem r_isOfTag (B : BB W Cn Tn len g) (hk : k < W) (hx : x < 30) : f_X11_isOfTag (70, 0) (nI k) (nI x) (bI b) g = m_ri g (bI (tgS g Tn b x k)) := by
  obtain ⟨H, G, N, e69, a, pp, l, o, C, T, A, wt, wf, t⟩ := B
  have hT := T.1
  have hW := N.1
  have h20 : k < 20 := by omega
  simp only [f_X11_isOfTag_59, f_X11_isOfTag_54, f_X11_isOfTag, ao_70, r_isTag, T.2.2.1, bI_ri, bI_eq0, tgS]
  by_cases h1 : x < Tn
  · rw [if_pos h1, isIx_ok (show Tn < 10000 by omega) h1, if_neg (by decide)]
    simp only [r_meaning G T h1, bI_ri, gR_70, pm_12 G, pm_13 G, aI_40 h20, aI_41 h20, r_has (show x < 32 by omega), rz_bI]
    rcases t_mean T h1 with e | ⟨m, hm, e⟩
    · rw [if_pos e, if_pos e]
    · have ne : ¬ m_gi g 11 0 x = -1 := by rw [e]; exact nI_m1 (by omega)
      rw [if_neg ne, if_neg ne, e, nI_clamp (by omega)]
      cases b
      · rw [if_pos rfl, r_has (show m < 32 by omega), bI_ri, rz_bI]; rfl
      · rw [if_neg (by decide), r_belongs G T A h20, bI_ri, r_has (show m < 32 by omega), bI_ri, rz_bI]; rfl
  · have : isIx (nI x) (nI Tn) = false := isIx_bad (by omega) (Or.inr (by rw [i_le (by omega) (by omega)]; omega))
    rw [if_neg h1, this, if_pos rfl, rz_0]; rfl
theorem c_wi6 (B : BB W Cn Tn len g) (hf : f < 32) (hx : x < 30) (hl : l = 116 ∨ l = 97 ∨ l = 114) : ∀ (n k : Nat), k ≤ W → W < k + n →
    f_X10_worksOfItem_6 n (69, 0) (nI l) (nI x) (nI f) (bI b) (setOf (itP g Tn f b l x) k) (nI k) g = m_ri g (setOf (itP g Tn f b l x) W)
  | 0, k, h1, h2 => by omega
  | n + 1, k, h1, h2 => by
    obtain ⟨H, G, N, e69, a, pp, lk, o, C, T, A, wt, wf, t⟩ := id B
    have hW := N.1
    rw [f_X10_worksOfItem_6]
    simp only [gI_69, N.2.1, i_le (show W < 10000 by omega) (show k < 10000 by omega)]
    by_cases hk : W ≤ k
    · rw [if_pos hk, show k = W by omega]
    · rw [if_neg hk]
      have hkW : k < W := by omega
      have ih := c_wi6 B hf hx hl n (k + 1) (by omega) (by omega)
      rw [setOf] at ih
      have k1 : (nI l = (116 : Int32)) = (l = 116) := iC (b := 116) (by omega) (by omega)
      have k2 : (nI l = (97 : Int32)) = (l = 97) := iC (b := 97) (by omega) (by omega)
      have w0 : ∀ {x : Int32} {i : Nat} {g2 : am_H}, f_X10_with x (nI i) 0 g2 = m_ri g2 (wi x i false) := c_with (b := false)
      have w1 : ∀ {x : Int32} {i : Nat} {g2 : am_H}, f_X10_with x (nI i) 1 g2 = m_ri g2 (wi x i true) := c_with (b := true)
      simp only [gR_69, pc_works H, aR_19 (show k < 20 by omega), (N.2.2.2.2.2 k hkW).1, k1, k2, ao_69, c_isTagSo B hkW hx, bI_ri, f_X10_worksOfItem_79, c_with, nI_1, gI_69, e69, ao_27, c_ownersToldTo a pp lk o C hkW hf, c_has (show x < 32 by omega), gI_27, (a k hkW).1, w0, w1]
      unfold itP at ih ⊢
      rcases hl with e | e | e <;> subst e
      · simp (decide := true) only [if_true] at ih ⊢
        exact ih
      · simp (decide := true) only [if_true, if_false] at ih ⊢
        cases ht : toldP g f k
        · rw [ht] at ih
          simp only [Bool.false_eq_true, if_false, b_0, Bool.false_and] at ih ⊢
          exact ih
        · rw [ht] at ih
          simp only [if_true, Bool.true_and] at ih ⊢
          exact ih
      · simp (decide := true) only [if_true, if_false] at ih ⊢
        by_cases q : nI x < m_gi g 33 0 k
        · rw [if_pos q]; rw [decide_eq_true q] at ih; exact ih
        · rw [if_neg q]; rw [decide_eq_false q] at ih; exact ih
theorem c_worksOfItem (B : BB W Cn Tn len g) (hf : f < 32) (hx : x < 30) (hl : l = 116 ∨ l = 97 ∨ l = 114) : f_X10_worksOfItem (69, 0) (nI l) (nI x) (nI f) (bI b) g = m_ri g (setOf (itP g Tn f b l x) W) := by
  have := c_wi6 (b := b) B hf hx hl 5000 0 (by omega) (by have := B.2.2.1.1; omega)
  rw [setOf, nI_0] at this
  rw [f_X10_worksOfItem]
  exact this
theorem c_wsb4 (B : BB W Cn Tn len g) (hf : f < 32) : ∀ (n k : Nat), k ≤ W → W < k + n → f_X10_worksSeenBy_4 n (69, 0) (nI f) (setOf (seenP g f) k) (nI k) g = m_ri g (setOf (seenP g f) W)
  | 0, k, h1, h2 => by omega
  | n + 1, k, h1, h2 => by
    obtain ⟨H, G, N, e69, a, pp, lk, o, C, T, A, wt, wf, t⟩ := id B
    have hW := N.1
    rw [f_X10_worksSeenBy_4]
    simp only [gI_69, N.2.1, i_le (show W < 10000 by omega) (show k < 10000 by omega)]
    by_cases hk : W ≤ k
    · rw [if_pos hk, show k = W by omega]
    · rw [if_neg hk]
      have hkW : k < W := by omega
      have ih := c_wsb4 B hf n (k + 1) (by omega) (by omega)
      rw [setOf] at ih
      simp only [gR_69, pc_works H, aR_19 (show k < 20 by omega), (N.2.2.2.2.2 k hkW).1, e69, ao_27, c_isSeenBy a pp lk o C hkW hf, bI_ri, c_with, nI_1]
      exact ih
theorem c_worksSeenBy (B : BB W Cn Tn len g) (hf : f < 32) : f_X10_worksSeenBy (69, 0) (nI f) g = m_ri g (setOf (seenP g f) W) := by
  have := c_wsb4 B hf 5000 0 (by omega) (by have := B.2.2.1.1; omega)
  rw [setOf, nI_0] at this
  rw [f_X10_worksSeenBy]
  exact this
end Items
def up2 (A : Nat → Nat → Bool) (l : Nat) (f : Nat → Bool) : Nat → Nat → Bool := fun l' => if l' = l then f else A l'
def up1 (A : Nat → Bool) (l : Nat) (b : Bool) : Nat → Bool := fun l' => if l' = l then b else A l'
/-- what is so of the WORKS, from a place on -/
def ev (T : Nat → Nat) (it : Nat → Nat → Nat → Bool) (len : Nat) : Nat → Nat → Nat → (Nat → Nat → Bool) → (Nat → Nat → Bool) → (Nat → Bool) → Nat → Bool
  | 0, _, _, P, I, _ => fun w => P 0 w || I 0 w
  | n + 1, k, v, P, I, N => if len ≤ k then fun w => P 0 w || I 0 w
    else if T k = 33 then ev T it len n (k + 1) v P I (up1 N v (!N v))
    else if T k = 40 then ev T it len n (k + 1) (v + 1) (up2 P (v + 1) (fun _ => false)) (up2 I (v + 1) (fun _ => true)) (up1 N (v + 1) false)
    else if T k = 41 then ev T it len n (k + 1) (v - 1) P (up2 I (v - 1) (fun w => I (v - 1) w && ((P v w || I v w) != N (v - 1)))) (up1 N (v - 1) false)
    else if T k = 124 then ev T it len n (k + 1) v (up2 P v (fun w => P v w || I v w)) (up2 I v (fun _ => true)) N
    else if T k = 38 then ev T it len n (k + 1) v P I N
    else if T k = 114 then ev T it len n (k + 2) v P (up2 I v (fun w => I v w && (it 114 (T (k + 1) - 48) w != N v))) (up1 N v false)
    else ev T it len n (k + 3) v P (up2 I v (fun w => I v w && (it (T k) (10 * (T (k + 1) - 48) + (T (k + 2) - 48)) w != N v))) (up1 N v false)
def SvP (W : Nat) (g : am_H) (v : Nat) (P I : Nat → Nat → Bool) (N : Nat → Bool) : Prop := v ≤ 60 ∧ m_gi g 23 0 3 = nI v ∧ ∀ l, l ≤ v → (∀ w, w < W → bt (m_gi g 8 0 l) w = P l w ∧ bt (m_gi g 9 0 l) w = I l w) ∧ m_gi g 10 0 l = bI (N l)
abbrev PV : Nat → Nat → Bool := pX [(23, 3)] [8, 9, 10]
theorem SvP.frm {W v : Nat} {h g : am_H} {P I : Nat → Nat → Bool} {N : Nat → Bool} {Q : Nat → Nat → Bool} (F : Frm Q h g) (S : SvP W h v P I N) (p0 : Q 23 3 = true := by rfl) (p1 : ∀ j, Q 8 j = true := by intro _; rfl) (p2 : ∀ j, Q 9 j = true := by intro _; rfl) (p3 : ∀ j, Q 10 j = true := by intro _; rfl) : SvP W g v P I N :=
  ⟨S.1, (F.1 23 0 3 p0).trans S.2.1, fun l hl => by rw [F.1 8 0 l (p1 l), F.1 9 0 l (p2 l), F.1 10 0 l (p3 l)]; exact S.2.2 l hl⟩
theorem ScP.frm {s o l x : Nat} {h g : am_H} {Q : Nat → Nat → Bool} (F : Frm Q h g) (S : ScP h s o l x) (p0 : ∀ j, Q 15 j = true := by intro _; rfl) : ScP g s o l x := by
  obtain ⟨a, b, c, d⟩ := S
  exact ⟨(F.1 15 0 0 (p0 0)).trans a, (F.1 15 0 1 (p0 1)).trans b, (F.1 15 0 2 (p0 2)).trans c, fun z => by rw [F.1 15 0 3 (p0 3), F.1 15 0 4 (p0 4)]; exact d z⟩
section Sieve
variable {W v : Nat} {g : am_H} {P I : Nat → Nat → Bool} {N : Nat → Bool}
theorem c_clear (H : ShC g) (hv : v ≤ 60) (e : m_gi g 23 0 3 = nI v) : f_X5_clear (23, 0) g = m_rt (m_si (m_si (m_si g 8 0 v 0) 9 0 v (-1)) 10 0 v 0) none := by
  have d1 : m_gi (m_si g 8 0 v 0) 23 0 3 = nI v := by rw [gi_ne (by decide)]; exact e
  have d2 : m_gi (m_si (m_si g 8 0 v 0) 9 0 v (-1)) 23 0 3 = nI v := by rw [gi_ne (by decide)]; exact d1
  simp only [f_X5_clear, gR_23, gr_si, pc_parts H, pc_items H, pc_nots H, gI_23, e, d1, d2, sI_8 (show v < 61 by omega), sI_9 (show v < 61 by omega), sZ_10 nz_0 (show v < 61 by omega)]
theorem c_open (S : SvP W g v P I N) (hv : v < 60) (hW : W ≤ 20) (H : ShC g) : ∃ g', f_X5_mark (23, 0) 40 g = m_rt g' none ∧ Lp PV g g' ∧ SvP W g' (v + 1) (up2 P (v + 1) (fun _ => false)) (up2 I (v + 1) (fun _ => true)) (up1 N (v + 1) false) := by
  obtain ⟨s0, s1, s2⟩ := S
  have e1 : m_gi (m_si g 23 0 3 (nI (v + 1))) 23 0 3 = nI (v + 1) := gi_eq
  have F1 : Frm PV g (m_si g 23 0 3 (nI (v + 1))) := (Frm.refl _ g).si rfl
  have l60 : ((60 : Int32) ≤ nI v) = (60 ≤ v) := i_le (a := 60) (by omega) (by omega)
  refine ⟨m_si (m_si (m_si (m_si g 23 0 3 (nI (v + 1))) 8 0 (v + 1) 0) 9 0 (v + 1) (-1)) 10 0 (v + 1) 0, ?_, ((((Lp.refl PV g).si rfl).si rfl).si rfl).si rfl, by omega, ?_, fun l hl => ?_⟩
  · rw [f_X5_mark, if_neg (by decide), if_pos rfl, gI_23, s1, if_neg (show ¬ (60 : Int32) ≤ nI v by rw [l60]; omega), gI_23, s1, nI_1, pI_23, ao_23, c_clear (H.frm F1) (show v + 1 ≤ 60 by omega) e1, bV_rt, f_X5_mark_140]
  · rw [gi_ne (by decide), gi_ne (by decide), gi_ne (by decide)]; exact gi_eq
  · have k8 : ∀ j, m_gi (m_si (m_si (m_si (m_si g 23 0 3 (nI (v + 1))) 8 0 (v + 1) 0) 9 0 (v + 1) (-1)) 10 0 (v + 1) 0) 8 0 j = if j = v + 1 then 0 else m_gi g 8 0 j := fun j => by
      rw [gi_ne (by decide), gi_ne (by decide), gi_upJ, gi_ne (by decide)]
    have k9 : ∀ j, m_gi (m_si (m_si (m_si (m_si g 23 0 3 (nI (v + 1))) 8 0 (v + 1) 0) 9 0 (v + 1) (-1)) 10 0 (v + 1) 0) 9 0 j = if j = v + 1 then -1 else m_gi g 9 0 j := fun j => by
      rw [gi_ne (by decide), gi_upJ, gi_ne (by decide), gi_ne (by decide)]
    have k10 : ∀ j, m_gi (m_si (m_si (m_si (m_si g 23 0 3 (nI (v + 1))) 8 0 (v + 1) 0) 9 0 (v + 1) (-1)) 10 0 (v + 1) 0) 10 0 j = if j = v + 1 then 0 else m_gi g 10 0 j := fun j => by
      rw [gi_upJ, gi_ne (by decide), gi_ne (by decide), gi_ne (by decide)]
    rw [k8, k9, k10]
    unfold up2 up1
    by_cases el : l = v + 1
    · simp only [if_pos el]
      exact ⟨fun w hw => ⟨b_0 _, b_m1 w (by omega)⟩, rfl⟩
    · simp only [if_neg el]
      exact s2 l (by omega)
theorem c_item (S : SvP W g v P I N) (hW : W ≤ 20) (H : ShC g) {set : Int32} {Q : Nat → Bool} (hQ : ∀ w, w < W → bt set w = Q w) : ∃ g', f_X5_item (23, 0) set g = m_rt g' none ∧ Lp PV g g' ∧ SvP W g' v P (up2 I v (fun w => I v w && (Q w != N v))) (up1 N v false) := by
  obtain ⟨s0, s1, s2⟩ := S
  have h61 : v < 61 := by omega
  obtain ⟨q1, q2⟩ := s2 v (Nat.le_refl v)
  have fin : ∀ y : Int32, (∀ w, w < W → bt y w = (Q w != N v)) → SvP W (m_si (m_si g 9 0 v (m_gi g 9 0 v &&& y)) 10 0 v 0) v P (up2 I v (fun w => I v w && (Q w != N v))) (up1 N v false) := fun y hy => by
    refine ⟨s0, by rw [gi_ne (by decide), gi_ne (by decide)]; exact s1, fun l hl => ?_⟩
    have k8 : m_gi (m_si (m_si g 9 0 v (m_gi g 9 0 v &&& y)) 10 0 v 0) 8 0 l = m_gi g 8 0 l := by rw [gi_ne (by decide), gi_ne (by decide)]
    have k9 : m_gi (m_si (m_si g 9 0 v (m_gi g 9 0 v &&& y)) 10 0 v 0) 9 0 l = if l = v then m_gi g 9 0 v &&& y else m_gi g 9 0 l := by rw [gi_ne (by decide), gi_upJ]
    have k10 : m_gi (m_si (m_si g 9 0 v (m_gi g 9 0 v &&& y)) 10 0 v 0) 10 0 l = if l = v then 0 else m_gi g 10 0 l := by rw [gi_upJ, gi_ne (by decide)]
    rw [k8, k9, k10]
    unfold up2 up1
    by_cases el : l = v
    · subst el
      simp only [if_true]
      exact ⟨fun w hw => ⟨(q1 w hw).1, by rw [b_and, (q1 w hw).2, hy w hw]⟩, rfl⟩
    · simp only [if_neg el]
      exact s2 l hl
  have d1 : ∀ y, m_gi (m_si g 9 0 v y) 23 0 3 = nI v := fun y => by rw [gi_ne (by decide)]; exact s1
  simp only [f_X5_item, f_X5_item_29, gR_23, gr_si, pc_items H, pc_nots H, gI_23, s1, aI_9 h61, aI_10 h61, q2, bI_eq0, sI_9 h61, d1, sZ_10 nz_0 h61]
  cases hn : N v
  · rw [if_pos rfl]
    refine ⟨_, rfl, ((Lp.refl PV g).si rfl).si rfl, ?_⟩
    have := fin set (fun w hw => by rw [hQ w hw, hn]; cases Q w <;> rfl)
    rw [hn] at this
    exact this
  · rw [if_neg (by decide)]
    refine ⟨_, rfl, ((Lp.refl PV g).si rfl).si rfl, ?_⟩
    have := fin (set ^^^ (-1)) (fun w hw => by rw [bt_not _ (show w < 32 by omega), hQ w hw, hn]; cases Q w <;> rfl)
    rw [hn] at this
    exact this
theorem c_not (S : SvP W g v P I N) (H : ShC g) : ∃ g', f_X5_mark (23, 0) 33 g = m_rt g' none ∧ Lp PV g g' ∧ SvP W g' v P I (up1 N v (!N v)) := by
  obtain ⟨s0, s1, s2⟩ := S
  have h61 : v < 61 := by omega
  obtain ⟨q1, q2⟩ := s2 v (Nat.le_refl v)
  refine ⟨m_si g 10 0 v (bI (!N v)), ?_, (Lp.refl PV g).si rfl, s0, by rw [gi_ne (by decide)]; exact s1, fun l hl => ?_⟩
  · rw [f_X5_mark, if_pos rfl, gR_23, pc_nots H, gI_23, s1, gR_23, pc_nots H, gI_23, s1, aI_10 h61]
    cases hn : N v
    · rw [hn] at q2
      rw [q2, bI_f, if_pos rfl, f_X5_mark_31, sZ_10 nz_1 h61, f_X5_mark_140, Bool.not_false, bI_t]
    · rw [hn] at q2
      rw [q2, bI_t, if_neg (by decide), f_X5_mark_31, sZ_10 nz_0 h61, f_X5_mark_140, Bool.not_true, bI_f]
  · have k8 : m_gi (m_si g 10 0 v (bI (!N v))) 8 0 l = m_gi g 8 0 l := by rw [gi_ne (by decide)]
    have k9 : m_gi (m_si g 10 0 v (bI (!N v))) 9 0 l = m_gi g 9 0 l := by rw [gi_ne (by decide)]
    rw [k8, k9, gi_upJ]
    unfold up1
    by_cases el : l = v
    · subst el
      simp only [if_true]
      exact ⟨q1, trivial⟩
    · simp only [if_neg el]
      exact s2 l hl
theorem c_or (S : SvP W g v P I N) (hW : W ≤ 20) (H : ShC g) : ∃ g', f_X5_mark (23, 0) 124 g = m_rt g' none ∧ Lp PV g g' ∧ SvP W g' v (up2 P v (fun w => P v w || I v w)) (up2 I v (fun _ => true)) N := by
  obtain ⟨s0, s1, s2⟩ := S
  have h61 : v < 61 := by omega
  obtain ⟨q1, q2⟩ := s2 v (Nat.le_refl v)
  have d1 : ∀ y, m_gi (m_si g 8 0 v y) 23 0 3 = nI v := fun y => by rw [gi_ne (by decide)]; exact s1
  refine ⟨m_si (m_si g 8 0 v (m_gi g 8 0 v ||| m_gi g 9 0 v)) 9 0 v (-1), ?_, ((Lp.refl PV g).si rfl).si rfl, s0, by rw [gi_ne (by decide), gi_ne (by decide)]; exact s1, fun l hl => ?_⟩
  · rw [f_X5_mark, if_neg (by decide), if_neg (by decide), f_X5_mark_67, if_neg (by decide), f_X5_mark_103, if_pos (show (124 : Int32) = 124 from rfl)]
    simp only [f_X5_mark_140, gR_23, gr_si, pc_parts H, pc_items H, gI_23, s1, d1, aI_8 h61, aI_9 h61, sI_8 h61, sI_9 h61]
  · have k8 : m_gi (m_si (m_si g 8 0 v (m_gi g 8 0 v ||| m_gi g 9 0 v)) 9 0 v (-1)) 8 0 l = if l = v then m_gi g 8 0 v ||| m_gi g 9 0 v else m_gi g 8 0 l := by rw [gi_ne (by decide), gi_upJ]
    have k9 : m_gi (m_si (m_si g 8 0 v (m_gi g 8 0 v ||| m_gi g 9 0 v)) 9 0 v (-1)) 9 0 l = if l = v then -1 else m_gi g 9 0 l := by rw [gi_upJ, gi_ne (by decide)]
    have k10 : m_gi (m_si (m_si g 8 0 v (m_gi g 8 0 v ||| m_gi g 9 0 v)) 9 0 v (-1)) 10 0 l = m_gi g 10 0 l := by rw [gi_ne (by decide), gi_ne (by decide)]
    rw [k8, k9, k10]
    unfold up2
    by_cases el : l = v
    · subst el
      simp only [if_true]
      exact ⟨fun w hw => ⟨by rw [b_or, (q1 w hw).1, (q1 w hw).2], b_m1 w (by omega)⟩, q2⟩
    · simp only [if_neg el]
      exact s2 l hl
theorem c_end (S : SvP W g v P I N) (H : ShC g) : f_X5_end (23, 0) g = m_ri g (m_gi g 8 0 v ||| m_gi g 9 0 v) := by
  obtain ⟨s0, s1, s2⟩ := S
  have h61 : v < 61 := by omega
  simp only [f_X5_end, gR_23, pc_parts H, pc_items H, gI_23, s1, aI_8 h61, aI_9 h61]
theorem c_shut (S : SvP W g (v + 1) P I N) (hW : W ≤ 20) (H : ShC g) : ∃ g', f_X5_mark (23, 0) 41 g = m_rt g' none ∧ Lp PV g g' ∧ SvP W g' v P (up2 I v (fun w => I v w && ((P (v + 1) w || I (v + 1) w) != N v))) (up1 N v false) := by
  obtain ⟨s0, s1, s2⟩ := id S
  obtain ⟨q1, q2⟩ := s2 (v + 1) (Nat.le_refl _)
  have z : (nI (v + 1) ≤ (0 : Int32)) = (v + 1 ≤ 0) := i_le (b := 0) (by omega) (by omega)
  have F1 : Frm PV g (m_si g 23 0 3 (nI v)) := (Frm.refl _ g).si rfl
  have S1 : SvP W (m_si g 23 0 3 (nI v)) v P I N := ⟨by omega, gi_eq, fun l hl => by
    rw [gi_ne (by decide), gi_ne (by decide), gi_ne (by decide)]; exact s2 l (by omega)⟩
  obtain ⟨g', a, b, c⟩ := c_item (set := m_gi g 8 0 (v + 1) ||| m_gi g 9 0 (v + 1)) (Q := fun w => P (v + 1) w || I (v + 1) w) S1 hW (H.frm F1) (fun w hw => by rw [b_or, (q1 w hw).1, (q1 w hw).2])
  refine ⟨g', ?_, ((Lp.refl PV g).si rfl).trans b, c⟩
  rw [f_X5_mark, if_neg (by decide), if_neg (by decide), f_X5_mark_67, if_pos (show (41 : Int32) = 41 from rfl), gI_23, s1, if_neg (show ¬ nI (v + 1) ≤ (0 : Int32) by rw [z]; omega), ao_23, c_end S H, bI_ri, gI_23, s1, nI_pred, pI_23, ao_23, a, bV_rt, f_X5_mark_140]
theorem c_mark_no {c : Nat} (hc : c < 256) (h1 : c ≠ 33) (h2 : c ≠ 40) (h3 : c ≠ 41) (h4 : c ≠ 124) : f_X5_mark (23, 0) (nI c) g = m_rt g none := by
  have k1 : (nI c = (33 : Int32)) = (c = 33) := iC (b := 33) hc (by omega)
  have k2 : (nI c = (40 : Int32)) = (c = 40) := iC (b := 40) hc (by omega)
  have k3 : (nI c = (41 : Int32)) = (c = 41) := iC (b := 41) hc (by omega)
  have k4 : (nI c = (124 : Int32)) = (c = 124) := iC (b := 124) hc (by omega)
  simp only [f_X5_mark, f_X5_mark_140, f_X5_mark_67, f_X5_mark_103, k1, k2, k3, k4, if_neg h1, if_neg h2, if_neg h3, if_neg h4]
theorem c_hasItem {fw c : Nat} (e : m_gi g 15 0 2 = nI fw) (hfw : fw ≤ 2) (hc : c < 256) : f_X4_hasItem (15, 0) (nI c) g = m_ri g (bI (decide (fw = 0) && fig c)) := by
  simp only [f_X4_hasItem_19, f_X4_hasItem_18, f_X4_hasItem, gI_15, e, i_eq0 (show fw < 10000 by omega), c_isFigure hc, bI_ri, bI_eq0, rz_0, rz_1]
  by_cases h1 : fw = 0
  · rw [if_pos h1, decide_eq_true h1, Bool.true_and]
    cases fig c
    · rfl
    · rfl
  · rw [if_neg h1, decide_eq_false h1, Bool.false_and]; rfl
end Sieve
/-! ## the class's search -/
theorem fig_of {c : Nat} (h : fig c = true) : 48 ≤ c ∧ c ≤ 57 := by
  unfold fig at h
  rw [Bool.and_eq_true, decide_eq_true_eq, decide_eq_true_eq] at h
  exact h
theorem nxo_fig {o c : Nat} (h : fig c = true) : nxo o c = o := by
  have := fig_of h
  unfold nxo
  rw [if_neg (by omega), if_neg (by omega)]
theorem okT_8 {s o c : Nat} (h : okT s o c = true) : bh s c ≠ 8 := by
  unfold okT at h
  rw [Bool.and_eq_true, Bool.not_eq_true', decide_eq_false_iff_not] at h
  exact h.1
theorem ok_mid {s o c : Nat} (h2 : 2 ≤ s) (h8 : s < 8) (ok : okT s o c = true) : fig c = true ∧ (fwN s = 1 → bh s c = 1) ∧ (fwN s = 2 → fwN (bh s c) = 1 ∧ 2 ≤ bh s c) := by
  have n8 := okT_8 ok
  have hf : 48 ≤ c ∧ c ≤ 57 := by
    unfold bh at n8
    rcases (show s = 2 ∨ s = 3 ∨ s = 4 ∨ s = 5 ∨ s = 6 ∨ s = 7 by omega) with e | e | e | e | e | e <;> subst e <;> simp (decide := true) only [if_true, if_false] at n8 <;> repeat' split at n8
    all_goals first | omega | (exfalso; exact n8 rfl)
  refine ⟨by unfold fig; rw [decide_eq_true hf.1, decide_eq_true hf.2]; rfl, ?_, ?_⟩
  · intro z
    unfold bh at n8 ⊢
    rcases (show s = 2 ∨ s = 3 ∨ s = 4 ∨ s = 5 ∨ s = 6 ∨ s = 7 by omega) with e | e | e | e | e | e <;> subst e <;> simp (decide := true) only [if_true, if_false] at n8 z ⊢
    · rw [if_pos hf]
    · rw [if_pos hf]
    · split
      · rfl
      · next q => rw [if_neg q] at n8; exact absurd rfl n8
    · split
      · rfl
      · next q => rw [if_neg q] at n8; exact absurd rfl n8
  · intro z
    unfold bh at n8 ⊢
    rcases (show s = 2 ∨ s = 3 ∨ s = 4 ∨ s = 5 ∨ s = 6 ∨ s = 7 by omega) with e | e | e | e | e | e <;> subst e <;> simp (decide := true) only [if_true, if_false] at n8 z ⊢
    · by_cases q : 48 ≤ c ∧ c ≤ 50
      · rw [if_pos q]; decide
      · rw [if_neg q] at n8; exact absurd rfl n8
    · by_cases q : c = 48
      · rw [if_pos q]; decide
      · by_cases q2 : c = 49
        · rw [if_neg q, if_pos q2]; decide
        · rw [if_neg q, if_neg q2] at n8; exact absurd rfl n8
theorem vd_fig {T : Nat → Nat} {d k s o : Nat} (h2 : 2 ≤ s) (h8 : s < 8) (h : vd T d k s o = true) : ∃ d', d = d' + 1 ∧ okT s o (T k) = true ∧ fig (T k) = true ∧ vd T d' (k + 1) (bh s (T k)) o = true := by
  cases d with
  | zero =>
    rw [vd, decide_eq_false (by omega), Bool.false_and] at h
    cases h
  | succ d =>
    rw [vd, Bool.and_eq_true] at h
    have q := (ok_mid h2 h8 h.1).1
    rw [nxo_fig q] at h
    exact ⟨d, rfl, h.1, q, h.2⟩
section Found
variable {W Cn Tn len v k f s l x : Nat} {g : am_H} {b : Bool} {P I : Nat → Nat → Bool} {N : Nat → Bool}
theorem f22_no {g1 g2 : am_H} (B : BB W Cn Tn len g) (hk : k < len) {y0 : Int32} (e1 : f_X4_takes (15, 0) (nI (tC g k)) g = m_ri g1 y0) (F1 : Frm PS g g1) (e2 : f_X5_mark (23, 0) (nI (tC g k)) g1 = m_rt g2 none) (e3 : f_X4_hasItem (15, 0) (nI (tC g k)) g2 = m_ri g2 0) (m : Nat) (y z : Int32) :
    f_X10_found_22 (m + 1) (69, 0) y z (some (15, 0)) (nI k) g = f_X10_found_22 m (69, 0) y z (some (15, 0)) (nI (k + 1)) g2 := by
  obtain ⟨H, G, N, e69, a, pp, lk, o, C, T, A, wt, wf, t⟩ := B
  have hl := t.1
  obtain ⟨q0, _, q2⟩ := t.2.2.2 k hk
  rw [f_X10_found_22]
  have il : ¬ nI len ≤ nI k := by rw [i_le (show len < 10000 by omega) (show k < 10000 by omega)]; omega
  rw [gR_69, pc_tape H, gI_22, t.2.1, if_neg il, gR_69, pc_tape H, gR_22, pc_chars H, aI_14 (show k < 60 by omega), q0, ao_15, e1, bI_ri, gR_69, pc_sieve (H.frm F1), ao_23, e2, bV_rt, ao_15, e3, bI_ri, if_pos rfl, f_X10_found_92, nI_1]
theorem f22_it {g1 g2 g3 : am_H} (B : BB W Cn Tn len g) (hk : k < len) {y0 S : Int32} (e1 : f_X4_takes (15, 0) (nI (tC g k)) g = m_ri g1 y0) (F1 : Frm PS g g1) (e2 : f_X5_mark (23, 0) (nI (tC g k)) g1 = m_rt g2 none) (F2 : Frm PS g g2) (e3 : f_X4_hasItem (15, 0) (nI (tC g k)) g2 = m_ri g2 1)
    (e4 : m_gi g2 15 0 3 = nI l) (e5 : m_gi g2 15 0 4 = nI x) {y z : Int32} (e6 : f_X10_worksOfItem (69, 0) (nI l) (nI x) y z g2 = m_ri g2 S) (e7 : f_X5_item (23, 0) S g2 = m_rt g3 none) (m : Nat) :
    f_X10_found_22 (m + 1) (69, 0) y z (some (15, 0)) (nI k) g = f_X10_found_22 m (69, 0) y z (some (15, 0)) (nI (k + 1)) g3 := by
  obtain ⟨H, G, N, e69, a, pp, lk, o, C, T, A, wt, wf, t⟩ := B
  have hl := t.1
  obtain ⟨q0, _, q2⟩ := t.2.2.2 k hk
  rw [f_X10_found_22]
  simp only [gR_69, pc_tape H, gI_22, t.2.1, i_le (show len < 10000 by omega) (show k < 10000 by omega), eq_false (show ¬ len ≤ k by omega), if_false, gR_22, pc_chars H, aI_14 (show k < 60 by omega), q0, ao_15, e1, bI_ri, pc_sieve (H.frm F1), ao_23, e2, bV_rt, e3, n10, f_X10_found_92, nI_1, pc_sieve (H.frm F2), gI_15, e4, e5, ao_69, e6, e7]
theorem c_mid1 (B : BB W Cn Tn len g) (hk : k < len) (hf : f < 32) (h2 : 2 ≤ s) (h8 : s < 8) (hfw : fwN s = 1) (ok : okT s v (tC g k) = true) (S : ScP g s v l x) (V : SvP W g v P I N) :
    ∃ g', (∀ m, f_X10_found_22 (m + 1) (69, 0) (nI f) (bI b) (some (15, 0)) (nI k) g = f_X10_found_22 m (69, 0) (nI f) (bI b) (some (15, 0)) (nI (k + 1)) g') ∧ Lp PS g g' ∧ SvP W g' v P (up2 I v (fun w => I v w && (itP g Tn f b l (10 * x + (tC g k - 48)) w != N v))) (up1 N v false) ∧ ∃ l' x', ScP g' 1 v l' x' := by
  obtain ⟨H, G, Nn, e69, a, pp, lk, o, C, T, A, wt, wf, t⟩ := id B
  have hW := Nn.1
  obtain ⟨q0, _, q2⟩ := t.2.2.2 k hk
  obtain ⟨m1, m2, m3⟩ := ok_mid h2 h8 ok
  have e48 := fig_of m1
  obtain ⟨g1, a1, a2, a3⟩ := c_takes2 S h2 q2
  obtain ⟨S1, r3, r4, _⟩ := a3 ok
  rw [m2 hfw, nxo_fig m1] at S1
  have F1 : Frm PS g g1 := a2.1.up
  have nb := (S.2.2.2 h2).2.2
  have hl3 : l = 116 ∨ l = 97 ∨ l = 114 := by rcases nb with ⟨-, e, -⟩ | ⟨-, e, -⟩ | ⟨-, e, -⟩ | ⟨-, e, -⟩ | ⟨-, e, -⟩ | ⟨-, e, -⟩ <;> omega
  have hx : x ≤ 2 := by rcases nb with ⟨-, -, e⟩ | ⟨-, -, e⟩ | ⟨-, -, e⟩ | ⟨-, -, e⟩ | ⟨-, -, e⟩ | ⟨-, -, e⟩ <;> omega
  have e3 : f_X4_hasItem (15, 0) (nI (tC g k)) g1 = m_ri g1 1 := by
    rw [c_hasItem (fw := 0) S1.2.2.1 (by omega) q2, m1]; rfl
  have e6 := c_worksOfItem (b := b) (B.frm F1) hf (show 10 * x + (tC g k - 48) < 30 by omega) hl3
  rw [itP_S F1] at e6
  have V1 : SvP W g1 v P I N := V.frm a2.1
  obtain ⟨g3, b1, b2, b3⟩ := c_item (set := setOf (itP g Tn f b l (10 * x + (tC g k - 48))) W) (Q := itP g Tn f b l (10 * x + (tC g k - 48))) V1 hW (H.frm F1) (fun w hw => by rw [bt_setOf _ (by omega) (by omega), decide_eq_true hw, Bool.true_and])
  exact ⟨g3, fun m => f22_it B hk a1 F1 (c_mark_no q2 (by omega) (by omega) (by omega) (by omega)) F1 e3 r3 r4 e6 b1 m, a2.up.trans b2.up, b3, l, _, S1.frm b2.1⟩
theorem c_mid2 (B : BB W Cn Tn len g) (hk : k < len) (h2 : 2 ≤ s) (h8 : s < 8) (hfw : fwN s = 2) (ok : okT s v (tC g k) = true) (S : ScP g s v l x) (V : SvP W g v P I N) :
    ∃ g', (∀ m, f_X10_found_22 (m + 1) (69, 0) (nI f) (bI b) (some (15, 0)) (nI k) g = f_X10_found_22 m (69, 0) (nI f) (bI b) (some (15, 0)) (nI (k + 1)) g') ∧ Lp PS g g' ∧ SvP W g' v P I N ∧ ScP g' (bh s (tC g k)) v l (10 * x + (tC g k - 48)) := by
  obtain ⟨H, G, Nn, e69, a, pp, lk, o, C, T, A, wt, wf, t⟩ := id B
  obtain ⟨q0, _, q2⟩ := t.2.2.2 k hk
  obtain ⟨m1, m2, m3⟩ := ok_mid h2 h8 ok
  have e48 := fig_of m1
  obtain ⟨g1, a1, a2, a3⟩ := c_takes2 S h2 q2
  obtain ⟨S1, r3, r4, _⟩ := a3 ok
  rw [nxo_fig m1] at S1
  have F1 : Frm PS g g1 := a2.1.up
  have e3 : f_X4_hasItem (15, 0) (nI (tC g k)) g1 = m_ri g1 0 := by
    rw [c_hasItem (fw := 1) (S1.2.2.1.trans (by rw [(m3 hfw).1])) (by omega) q2]; rfl
  exact ⟨g1, fun m => f22_no B hk a1 F1 (c_mark_no q2 (by omega) (by omega) (by omega) (by omega)) e3 m _ _, a2.up, V.frm a2.1, S1⟩
theorem c_let (B : BB W Cn Tn len g) (hk : k < len) (hc : tC g k = 116 ∨ tC g k = 97 ∨ tC g k = 114) (S : ScP g 0 v l x) (V : SvP W g v P I N) :
    ∃ g', (∀ m, f_X10_found_22 (m + 1) (69, 0) (nI f) (bI b) (some (15, 0)) (nI k) g = f_X10_found_22 m (69, 0) (nI f) (bI b) (some (15, 0)) (nI (k + 1)) g') ∧ Lp PS g g' ∧ SvP W g' v P I N ∧ ScP g' (bh 0 (tC g k)) v (tC g k) 0 := by
  obtain ⟨H, G, Nn, e69, a, pp, lk, o, C, T, A, wt, wf, t⟩ := id B
  obtain ⟨q0, _, q2⟩ := t.2.2.2 k hk
  obtain ⟨g1, a1, a2, a3⟩ := c_takes0 S q2
  have F1 : Frm PS g g1 := a2.1.up
  have ok : okT 0 v (tC g k) = true := by rcases hc with e | e | e <;> rw [e] <;> rfl
  have S1 := a3 ok
  have nx : nxo v (tC g k) = v := by unfold nxo; rw [if_neg (by omega), if_neg (by omega)]
  rw [nx] at S1
  have nf : fig (tC g k) = false := by rcases hc with e | e | e <;> rw [e] <;> rfl
  have f2 : fwN (bh 0 (tC g k)) ≤ 2 := by unfold fwN; repeat' split
                                          all_goals omega
  have e3 : f_X4_hasItem (15, 0) (nI (tC g k)) g1 = m_ri g1 0 := by
    rw [c_hasItem S1.2.2.1 f2 q2, nf, Bool.and_false]; rfl
  exact ⟨g1, fun m => f22_no B hk a1 F1 (c_mark_no q2 (by omega) (by omega) (by omega) (by omega)) e3 m _ _, a2.up, V.frm a2.1, S1⟩
/-- a sign: no item -/
theorem c_sgn {s' v' : Nat} {P' I' : Nat → Nat → Bool} {N' : Nat → Bool} {g1 : am_H} (B : BB W Cn Tn len g) (hk : k < len) {y0 : Int32} (a1 : f_X4_takes (15, 0) (nI (tC g k)) g = m_ri g1 y0) (a2 : Lp (pX [] [15]) g g1) (S1 : ScP g1 s' v' l x) (hs : s' < 2) (nf : fig (tC g k) = false)
    (hm : ∃ g', f_X5_mark (23, 0) (nI (tC g k)) g1 = m_rt g' none ∧ Lp PV g1 g' ∧ SvP W g' v' P' I' N') :
    ∃ g', (∀ m, f_X10_found_22 (m + 1) (69, 0) (nI f) (bI b) (some (15, 0)) (nI k) g = f_X10_found_22 m (69, 0) (nI f) (bI b) (some (15, 0)) (nI (k + 1)) g') ∧ Lp PS g g' ∧ SvP W g' v' P' I' N' ∧ ScP g' s' v' l x := by
  obtain ⟨H, G, Nn, e69, a, pp, lk, o, C, T, A, wt, wf, t⟩ := id B
  obtain ⟨q0, _, q2⟩ := t.2.2.2 k hk
  obtain ⟨g2, b1, b2, b3⟩ := hm
  have F1 : Frm PS g g1 := a2.1.up
  have S2 : ScP g2 s' v' l x := S1.frm b2.1
  have f0 : fwN s' = 0 := by rcases (show s' = 0 ∨ s' = 1 by omega) with e | e <;> subst e <;> rfl
  have e3 : f_X4_hasItem (15, 0) (nI (tC g k)) g2 = m_ri g2 0 := by
    rw [c_hasItem S2.2.2.1 (by omega) q2, nf, Bool.and_false]; rfl
  exact ⟨g2, fun m => f22_no B hk a1 F1 b1 e3 m _ _, a2.up.trans b2.up, b3, S2⟩
end Found
section Found2
variable {W Cn Tn len f : Nat} {h : am_H} {b : Bool}
theorem c_fd22 (B0 : BB W Cn Tn len h) (hf : f < 32) : ∀ (n k s v m l x : Nat) (P I : Nat → Nat → Bool) (N : Nat → Bool) (g : am_H), k ≤ len → len < k + n → len < k + m → (s = 0 ∨ s = 1) → v ≤ k → vd (tC h) (len - k) k s v = true → Lp PS h g → ScP g s v l x → SvP W g v P I N →
    ∃ g', f_X10_found_22 m (69, 0) (nI f) (bI b) (some (15, 0)) (nI k) g = m_ri g' (setOf (fun w => ev (tC h) (itP h Tn f b) len n k v P I N w && seenP h f w) W) ∧ Lp PS h g' := by
  intro n
  induction n with
  | zero => intro k s v m l x P I N g h1 h2 h3 h4 h5 hv L S V; omega
  | succ n ih =>
    intro k s v m l x P I N g h1 h2 h3 h4 h5 hv L S V
    have F := L.1
    have B := B0.frm F
    obtain ⟨H, G, Nn, e69, a, pp, lk, o, C, T, A, wt, wf, t⟩ := id B
    have hl := t.1
    have hW := Nn.1
    have eT : tC g = tC h := tC_S F
    obtain ⟨m, rfl⟩ : ∃ m', m = m' + 1 := ⟨m - 1, by omega⟩
    rw [ev]
    by_cases hk : len ≤ k
    · have ek : len - k = 0 := by omega
      rw [ek, vd, Bool.and_eq_true, decide_eq_true_eq, decide_eq_true_eq] at hv
      obtain ⟨rfl, rfl⟩ := hv
      refine ⟨g, ?_, L⟩
      rw [if_pos hk, f_X10_found_22, gR_69, pc_tape H, gI_22, t.2.1, if_pos (show nI len ≤ nI k by rw [i_le (show len < 10000 by omega) (show k < 10000 by omega)]; exact hk), gR_69, pc_sieve H, ao_23, c_end V H, bI_ri, ao_69, c_worksSeenBy B hf, bI_ri]
      congr 1
      obtain ⟨q1, q2⟩ := V.2.2 0 (Nat.le_refl 0)
      apply b_ext
      intro i hi
      rw [b_and, b_or, bt_setOf _ (by omega) hi, bt_setOf _ (by omega) hi, seenP_S F]
      by_cases hiW : i < W
      · rw [(q1 i hiW).1, (q1 i hiW).2, decide_eq_true hiW, Bool.true_and, Bool.true_and]
      · rw [decide_eq_false hiW, Bool.false_and, Bool.false_and, Bool.and_false]
    · rw [if_neg hk]
      have hkl : k < len := by omega
      obtain ⟨d, ed⟩ : ∃ d, len - k = d + 1 := ⟨len - k - 1, by omega⟩
      rw [ed, vd, Bool.and_eq_true] at hv
      obtain ⟨ok, hv⟩ := hv
      have ed' : len - (k + 1) = d := by omega
      obtain ⟨q0, _, q2⟩ := t.2.2.2 k hkl
      rw [← eT] at ok hv ⊢
      have n8 := okT_8 ok
      rcases h4 with e | e
      · subst e
        obtain ⟨g1, a1, a2, a3⟩ := c_takes0 S q2
        have V1 : SvP W g1 v P I N := V.frm a2.1
        have S1 := a3 ok
        have H1 : ShC g1 := H.frm a2.1
        by_cases c33 : tC g k = 33
        · rw [c33] at hv S1
          obtain ⟨g2, b1, b2, b3, b4⟩ := c_sgn (f := f) (b := b) B hkl a1 a2 S1 (by decide) (by rw [c33]; rfl) (by rw [c33]; exact c_not V1 H1)
          rw [if_pos c33, b1, eT]
          rw [eT] at hv
          exact ih (k + 1) 0 v m _ _ P I _ g2 (by omega) (by omega) (by omega) (Or.inl rfl) (by omega) (by rw [ed']; exact hv) (L.trans b2) b4 b3
        · by_cases c40 : tC g k = 40
          · rw [c40] at hv S1
            have hv60 : v < 60 := by omega
            obtain ⟨g2, b1, b2, b3, b4⟩ := c_sgn (f := f) (b := b) B hkl a1 a2 S1 (by decide) (by rw [c40]; rfl) (by rw [c40]; exact c_open V1 hv60 hW H1)
            rw [if_neg c33, if_pos c40, b1, eT]
            rw [eT] at hv
            exact ih (k + 1) 0 (v + 1) m _ _ _ _ _ g2 (by omega) (by omega) (by omega) (Or.inl rfl) (by omega) (by rw [ed']; exact hv) (L.trans b2) b4 b3
          · have hc : tC g k = 116 ∨ tC g k = 97 ∨ tC g k = 114 := by
              unfold bh at n8
              rw [if_pos rfl, if_neg c33, if_neg c40] at n8
              by_cases z1 : tC g k = 116
              · exact Or.inl z1
              · by_cases z2 : tC g k = 97
                · exact Or.inr (Or.inl z2)
                · by_cases z3 : tC g k = 114
                  · exact Or.inr (Or.inr z3)
                  · rw [if_neg z1, if_neg z2, if_neg z3] at n8; exact absurd rfl n8
            obtain ⟨g2, b1, b2, b3, b4⟩ := c_let (f := f) (b := b) B hkl hc S V
            have F2 : Frm PS h g2 := (L.trans b2).1
            have eT2 : tC g2 = tC h := tC_S F2
            have nx : nxo v (tC g k) = v := by unfold nxo; rw [if_neg (by omega), if_neg (by omega)]
            rw [nx] at hv
            rw [if_neg c33, if_neg c40, if_neg (show ¬ tC g k = 41 by omega), if_neg (show ¬ tC g k = 124 by omega), if_neg (show ¬ tC g k = 38 by omega), b1]
            by_cases c114 : tC g k = 114
            · rw [if_pos c114]
              have s7 : bh 0 (tC g k) = 7 := by rw [c114]; rfl
              rw [s7] at hv b4
              rw [eT] at hv
              obtain ⟨d1, ed1, ok1, fg1, hv1⟩ := vd_fig (by decide) (by decide) hv
              rw [← eT2] at ok1
              have b7 : bh 7 (tC h (k + 1)) = 1 := by rw [← eT2]; exact (ok_mid (by decide) (by decide) ok1).2.1 rfl
              obtain ⟨m, rfl⟩ : ∃ m', m = m' + 1 := ⟨m - 1, by omega⟩
              obtain ⟨g3, d1', d2, d3, l3, x3, d4⟩ := c_mid1 (f := f) (b := b) (B0.frm F2) (by omega) hf (by decide) (by decide) rfl ok1 b4 b3
              rw [c114, itP_S F2, eT2, Nat.mul_zero, Nat.zero_add] at d3
              rw [d1', eT]
              rw [b7] at hv1
              exact ih (k + 2) 1 v m l3 x3 _ _ _ g3 (by omega) (by omega) (by omega) (Or.inr rfl) (by omega) (by rw [show len - (k + 2) = d1 by omega]; exact hv1) ((L.trans b2).trans d2) d4 d3
            · rw [if_neg c114]
              have s24 : 2 ≤ bh 0 (tC g k) ∧ bh 0 (tC g k) < 8 ∧ fwN (bh 0 (tC g k)) = 2 := by
                rcases hc with e | e | e
                · rw [e]; decide
                · rw [e]; decide
                · exact absurd e c114
              rw [eT] at hv s24 b4
              obtain ⟨s1, es1⟩ : ∃ s1, s1 = bh 0 (tC h k) := ⟨_, rfl⟩
              rw [← es1] at hv s24 b4
              obtain ⟨d1, ed1, ok1, fg1, hv1⟩ := vd_fig s24.1 s24.2.1 hv
              rw [← eT2] at ok1
              obtain ⟨y1, y2, y3⟩ := ok_mid s24.1 s24.2.1 ok1
              obtain ⟨y4, y5⟩ := y3 s24.2.2
              have y6 := okT_lt ok1
              obtain ⟨m, rfl⟩ : ∃ m', m = m' + 1 := ⟨m - 1, by omega⟩
              obtain ⟨g3, d1', d2, d3, d4⟩ := c_mid2 (f := f) (b := b) (B0.frm F2) (by omega) s24.1 s24.2.1 s24.2.2 ok1 b4 b3
              have F3 : Frm PS h g3 := ((L.trans b2).trans d2).1
              have eT3 : tC g3 = tC h := tC_S F3
              rw [eT2] at d4 y4 y5 y6
              obtain ⟨s2, es2⟩ : ∃ s2, s2 = bh s1 (tC h (k + 1)) := ⟨_, rfl⟩
              rw [← es2] at d4 y4 y5 y6 hv1
              obtain ⟨d2', ed2, ok2, fg2, hv2⟩ := vd_fig y5 y6 hv1
              rw [← eT3] at ok2
              obtain ⟨m, rfl⟩ : ∃ m', m = m' + 1 := ⟨m - 1, by omega⟩
              obtain ⟨g4, f1, f2, f3, l4, x4, f4⟩ := c_mid1 (f := f) (b := b) (B0.frm F3) (by omega) hf y5 y6 y4 ok2 d4 d3
              have b1' : bh s2 (tC h (k + 2)) = 1 := by rw [← eT3]; exact (ok_mid y5 y6 ok2).2.1 y4
              rw [itP_S F3, eT3, Nat.mul_zero, Nat.zero_add] at f3
              rw [d1', f1, eT]
              rw [b1'] at hv2
              exact ih (k + 3) 1 v m l4 x4 _ _ _ g4 (by omega) (by omega) (by omega) (Or.inr rfl) (by omega) (by rw [show len - (k + 3) = d2' by omega]; exact hv2) (((L.trans b2).trans d2).trans f2) f4 f3
      · subst e
        obtain ⟨g1, a1, a2, a3⟩ := c_takes1 S q2 (by omega)
        have V1 : SvP W g1 v P I N := V.frm a2.1
        have S1 := a3 ok
        have H1 : ShC g1 := H.frm a2.1
        by_cases c41 : tC g k = 41
        · rw [c41] at hv S1
          obtain ⟨v, rfl⟩ : ∃ v', v = v' + 1 := by
            rw [c41] at ok
            cases v with
            | zero => cases ok
            | succ v => exact ⟨v, rfl⟩
          obtain ⟨g2, b1, b2, b3, b4⟩ := c_sgn (f := f) (b := b) B hkl a1 a2 S1 (by decide) (by rw [c41]; rfl) (by rw [c41]; exact c_shut V1 hW H1)
          rw [if_neg (show ¬ tC g k = 33 by omega), if_neg (show ¬ tC g k = 40 by omega), if_pos c41, b1, eT]
          rw [eT] at hv
          exact ih (k + 1) 1 v m _ _ _ _ _ g2 (by omega) (by omega) (by omega) (Or.inr rfl) (by omega) (by rw [ed']; exact hv) (L.trans b2) b4 b3
        · by_cases c124 : tC g k = 124
          · rw [c124] at hv S1
            obtain ⟨g2, b1, b2, b3, b4⟩ := c_sgn (f := f) (b := b) B hkl a1 a2 S1 (by decide) (by rw [c124]; rfl) (by rw [c124]; exact c_or V1 hW H1)
            rw [if_neg (show ¬ tC g k = 33 by omega), if_neg (show ¬ tC g k = 40 by omega), if_neg c41, if_pos c124, b1, eT]
            rw [eT] at hv
            exact ih (k + 1) 0 v m _ _ _ _ _ g2 (by omega) (by omega) (by omega) (Or.inl rfl) (by omega) (by rw [ed']; exact hv) (L.trans b2) b4 b3
          · have c38 : tC g k = 38 := by
              unfold bh at n8
              rw [if_neg (by decide), if_pos rfl, if_neg c124, if_neg c41] at n8
              by_cases z1 : tC g k = 38
              · exact z1
              · rw [if_neg z1] at n8; exact absurd rfl n8
            rw [c38] at hv S1
            obtain ⟨g2, b1, b2, b3, b4⟩ := c_sgn (f := f) (b := b) B hkl a1 a2 S1 (by decide) (by rw [c38]; rfl) ⟨g1, by rw [c38]; exact c_mark_no (c := 38) (by decide) (by decide) (by decide) (by decide) (by decide), Lp.refl _ g1, V1⟩
            rw [if_neg (show ¬ tC g k = 33 by omega), if_neg (show ¬ tC g k = 40 by omega), if_neg c41, if_neg c124, if_pos c38, b1, eT]
            rw [eT] at hv
            exact ih (k + 1) 0 v m _ _ _ _ _ g2 (by omega) (by omega) (by omega) (Or.inl rfl) (by omega) (by rw [ed']; exact hv) (L.trans b2) b4 b3
/-- the WORKS of which the query is so -/
def fnd (h : am_H) (Tn len f : Nat) (b : Bool) : Nat → Bool := ev (tC h) (itP h Tn f b) len (len + 1) 0 0 (up2 (fun _ _ => false) 0 (fun _ => false)) (up2 (fun _ _ => false) 0 (fun _ => true)) (up1 (fun _ => false) 0 false)
theorem fnd_S {h g : am_H} (F : Frm PS h g) (Tn len f : Nat) (b : Bool) : fnd g Tn len f b = fnd h Tn len f b := by
  unfold fnd
  rw [tC_S F, itP_S F]
theorem c_fd5 (B0 : BB W Cn Tn len h) (hf : f < 32) (hv : vd (tC h) len 0 0 0 = true) {l x : Nat} (g : am_H) (L : Lp PS h g) (S : ScP g 0 0 l x) (V : SvP W g 0 (up2 (fun _ _ => false) 0 (fun _ => false)) (up2 (fun _ _ => false) 0 (fun _ => true)) (up1 (fun _ => false) 0 false)) :
    ∃ g', f_X10_found_22 5000 (69, 0) (nI f) (bI b) (some (15, 0)) 0 g = m_ri g' (setOf (fun w => fnd h Tn len f b w && seenP h f w) W) ∧ Lp PS h g' := by
  have := c_fd22 (b := b) B0 hf (len + 1) 0 0 0 5000 l x _ _ _ g (by omega) (by omega) (by have := B0.2.2.2.2.2.2.2.2.2.2.2.2.2.1; omega) (Or.inl rfl) (by omega) hv L S V
  rw [nI_0] at this
  exact this
theorem c_found (B : BB W Cn Tn len h) (hf : f < 32) (hv : vd (tC h) len 0 0 0 = true) : ∃ g', f_X10_found (69, 0) (nI f) (bI b) h = m_ri g' (setOf (fun w => fnd h Tn len f b w && seenP h f w) W) ∧ Lp PS h g' := by
  obtain ⟨H, G, Nn, e69, a, pp, lk, o, C, T, A, wt, wf, t⟩ := id B
  have hW := Nn.1
  obtain ⟨g1, a1, a2, a3⟩ := c_start (g := h)
  have H1 : ShC g1 := H.frm a2.1
  have e1 : m_gi (m_si g1 23 0 3 0) 23 0 3 = nI 0 := gi_eq
  have F1 : Frm PV g1 (m_si g1 23 0 3 0) := (Frm.refl _ g1).si rfl
  have cl := c_clear (H1.frm F1) (show 0 ≤ 60 by omega) e1
  have L2 : Lp PV g1 (m_si (m_si (m_si (m_si g1 23 0 3 0) 8 0 0 0) 9 0 0 (-1)) 10 0 0 0) := ((((Lp.refl PV g1).si rfl).si rfl).si rfl).si rfl
  have V : SvP W (m_si (m_si (m_si (m_si g1 23 0 3 0) 8 0 0 0) 9 0 0 (-1)) 10 0 0 0) 0 (up2 (fun _ _ => false) 0 (fun _ => false)) (up2 (fun _ _ => false) 0 (fun _ => true)) (up1 (fun _ => false) 0 false) := by
    refine ⟨by omega, ?_, fun l hl => ?_⟩
    · rw [gi_ne (by decide), gi_ne (by decide), gi_ne (by decide)]; exact gi_eq
    · have : l = 0 := by omega
      subst this
      refine ⟨fun w hw => ⟨?_, ?_⟩, gi_eq⟩
      · rw [gi_ne (by decide), gi_ne (by decide), gi_eq]; exact b_0 _
      · rw [gi_ne (by decide), gi_eq]; exact b_m1 w (by omega)
  obtain ⟨g', q1, q2⟩ := c_fd5 (b := b) B hf hv _ (a2.up.trans L2.up) ((a3 0 0).frm L2.1) V
  refine ⟨g', ?_, q2⟩
  rw [f_X10_found, gR_69, pc_tape H, gR_22, pc_scan H, ao_15, a1, bV_rt, gR_69, pc_sieve H1, ao_23, f_X5_start, pI_23, ao_23, cl, bV_rt, bV_rt]
  exact q1
end Found2
/-! ## the reference's search -/
abbrev PR : Nat → Nat → Bool := pX [(70, 29)] [51, 52, 53]
def RvP (w : Nat) (g : am_H) (v : Nat) (P I : Nat → Nat → Bool) (N : Nat → Bool) : Prop := v ≤ 60 ∧ m_gi g 70 0 29 = nI v ∧ ∀ l, l ≤ v → m_gi g 51 0 l = bI (P l w) ∧ m_gi g 52 0 l = bI (I l w) ∧ m_gi g 53 0 l = bI (N l)
section RSearch
variable {W Cn Tn len v k f s w : Nat} {g : am_H} {b : Bool} {P I : Nat → Nat → Bool} {N : Nat → Bool}
theorem nE {a b : Nat} (ha : a < 256) (hb : b < 256) (h : a ≠ b) : ¬ nI a = nI b := fun z => h (by rw [i_eq (show a < 10000 by omega) (show b < 10000 by omega)] at z; exact z)
theorem r_gets (G : ShM g) (S : RvP w g v P I N) (Q : Nat → Bool) : ∃ g', f_X11_gets (70, 0) (bI (Q w)) g = m_rt g' none ∧ Lp PR g g' ∧ RvP w g' v P (up2 I v (fun w => I v w && (Q w != N v))) (up1 N v false) := by
  obtain ⟨s0, s1, s2⟩ := S
  have h64 : v < 64 := by omega
  obtain ⟨q1, q2, q3⟩ := s2 v (Nat.le_refl v)
  have d1 : ∀ y, m_gi (m_si g 52 0 v y) 70 0 29 = nI v := fun y => by rw [gi_ne (by decide)]; exact s1
  have ee : f_X11_gets (70, 0) (bI (Q w)) g = m_rt (m_si (m_si g 52 0 v (bI (I v w && (Q w != N v)))) 53 0 v 0) none := by
    simp only [f_X11_gets_38, f_X11_gets_37, f_X11_gets, gR_70, gr_si, pm_27 G, pm_28 G, gI_70, s1, aI_52 h64, aI_53 h64, q2, q3, bI_eq0, bI_inj, sZ_52 nz_0 h64, sZ_52 nz_1 h64, d1, sZ_53 nz_0 h64]
    cases I v w
    · rw [if_pos rfl]; rfl
    · rw [if_neg (by decide)]
      cases Q w <;> cases N v <;> rfl
  refine ⟨_, ee, ((Lp.refl PR g).si rfl).si rfl, s0, ?_, fun l hl => ?_⟩
  · rw [gi_ne (by decide), gi_ne (by decide)]; exact s1
  · have k51 : m_gi (m_si (m_si g 52 0 v (bI (I v w && (Q w != N v)))) 53 0 v 0) 51 0 l = m_gi g 51 0 l := by rw [gi_ne (by decide), gi_ne (by decide)]
    have k52 : m_gi (m_si (m_si g 52 0 v (bI (I v w && (Q w != N v)))) 53 0 v 0) 52 0 l = if l = v then bI (I v w && (Q w != N v)) else m_gi g 52 0 l := by rw [gi_ne (by decide), gi_upJ]
    have k53 : m_gi (m_si (m_si g 52 0 v (bI (I v w && (Q w != N v)))) 53 0 v 0) 53 0 l = if l = v then 0 else m_gi g 53 0 l := by rw [gi_upJ, gi_ne (by decide)]
    rw [k51, k52, k53]
    unfold up2 up1
    by_cases el : l = v
    · subst el
      simp only [if_true]
      exact ⟨q1, trivial, rfl⟩
    · simp only [if_neg el]
      exact s2 l hl
theorem r_opens (G : ShM g) {y : Int32} (ey : m_gi g 70 0 29 = y) (e1 : y + 1 = nI v) (hv : v ≤ 60) (s2 : ∀ l, l < v → m_gi g 51 0 l = bI (P l w) ∧ m_gi g 52 0 l = bI (I l w) ∧ m_gi g 53 0 l = bI (N l)) : ∃ g', f_X11_opens (70, 0) g = m_rt g' none ∧ Lp PR g g' ∧ RvP w g' v (up2 P v (fun _ => false)) (up2 I v (fun _ => true)) (up1 N v false) := by
  have h64 : v < 64 := by omega
  have d0 : m_gi (m_si g 70 0 29 (nI v)) 70 0 29 = nI v := gi_eq
  have d1 : ∀ x, m_gi (m_si (m_si g 70 0 29 (nI v)) 51 0 v x) 70 0 29 = nI v := fun x => by rw [gi_ne (by decide)]; exact d0
  have d2 : ∀ x z, m_gi (m_si (m_si (m_si g 70 0 29 (nI v)) 51 0 v x) 52 0 v z) 70 0 29 = nI v := fun x z => by rw [gi_ne (by decide)]; exact d1 x
  have ee : f_X11_opens (70, 0) g = m_rt (m_si (m_si (m_si (m_si g 70 0 29 (nI v)) 51 0 v 0) 52 0 v 1) 53 0 v 0) none := by
    rw [f_X11_opens, gI_70, ey, e1, pI_70, gR_70, gr_si, pm_26 G, gI_70, d0, sZ_51 nz_0 h64, gR_70, gr_si, gr_si, pm_27 G, gI_70, d1, sZ_52 nz_1 h64, gR_70, gr_si, gr_si, gr_si, pm_28 G, gI_70, d2, sZ_53 nz_0 h64]
  refine ⟨_, ee, ((((Lp.refl PR g).si0 rfl).si rfl).si rfl).si rfl, hv, ?_, fun l hl => ?_⟩
  · rw [gi_ne (by decide), gi_ne (by decide), gi_ne (by decide)]; exact gi_eq
  · have k51 : m_gi (m_si (m_si (m_si (m_si g 70 0 29 (nI v)) 51 0 v 0) 52 0 v 1) 53 0 v 0) 51 0 l = if l = v then 0 else m_gi g 51 0 l := by rw [gi_ne (by decide), gi_ne (by decide), gi_upJ, gi_ne (by decide)]
    have k52 : m_gi (m_si (m_si (m_si (m_si g 70 0 29 (nI v)) 51 0 v 0) 52 0 v 1) 53 0 v 0) 52 0 l = if l = v then 1 else m_gi g 52 0 l := by rw [gi_ne (by decide), gi_upJ, gi_ne (by decide), gi_ne (by decide)]
    have k53 : m_gi (m_si (m_si (m_si (m_si g 70 0 29 (nI v)) 51 0 v 0) 52 0 v 1) 53 0 v 0) 53 0 l = if l = v then 0 else m_gi g 53 0 l := by rw [gi_upJ, gi_ne (by decide), gi_ne (by decide), gi_ne (by decide)]
    rw [k51, k52, k53]
    unfold up2 up1
    by_cases el : l = v
    · simp only [if_pos el]
      exact ⟨rfl, rfl, rfl⟩
    · simp only [if_neg el]
      exact s2 l (by omega)
/-- one step -/
theorem so_step (B : BB W Cn Tn len g) (hk : k < len) (m : Nat) (y z u : Int32) : f_X11_isSo_12 (m + 1) (70, 0) y z u (nI k) g = f_X11_isSo_64 (f_X11_isSo_12 m) (70, 0) y z u (nI k) (if len ≤ k + 2 then 0 else ((10 : Int32) * (nI (tC g (k + 1)) - 48) + nI (tC g (k + 2))) - 48) g := by
  obtain ⟨H, G, Nn, e69, a, pp, lk, o, C, T, A, wt, wf, t⟩ := B
  have hl := t.1
  have e2 : nI k + (2 : Int32) = nI (k + 2) := nI_add k 2
  have il : ¬ nI len ≤ nI k := by rw [i_le (show len < 10000 by omega) (show k < 10000 by omega)]; omega
  have i2 : (nI len ≤ nI (k + 2)) = (len ≤ k + 2) := i_le (by omega) (by omega)
  rw [f_X11_isSo_12, gI_70, t.2.2.1, if_neg il, gI_70, t.2.2.1, e2]
  by_cases h2 : len ≤ k + 2
  · rw [if_pos (show nI len ≤ nI (k + 2) by rw [i2]; exact h2), if_pos h2]
  · rw [if_neg (show ¬ nI len ≤ nI (k + 2) by rw [i2]; exact h2), if_neg h2, gR_70, pm_25 G, nI_1, aI_50 (show k + 1 < 60 by omega), gR_70, pm_25 G, aI_50 (show k + 2 < 60 by omega), (t.2.2.2 (k + 1) (by omega)).2.1, (t.2.2.2 (k + 2) (by omega)).2.1]
theorem two_of {c d : Nat} (hc : 48 ≤ c) (hd : 48 ≤ d) : ((10 : Int32) * (nI c - 48) + nI d) - 48 = nI (10 * (c - 48) + (d - 48)) := by
  show (nI 10 * (nI c - nI 48) + nI d) - nI 48 = _
  rw [nI_sub hc, pk_mul, nI_add, nI_sub (by omega)]
  congr 1
  omega
theorem r_no (B : BB W Cn Tn len g) (hk : k < len) (n1 : tC g k ≠ 33) (n2 : tC g k ≠ 40) (n3 : tC g k ≠ 41) (n4 : tC g k ≠ 97) (n5 : tC g k ≠ 114) (n6 : tC g k ≠ 116) (n7 : tC g k ≠ 124) (m : Nat) (y z u : Int32) : f_X11_isSo_12 (m + 1) (70, 0) y z u (nI k) g = f_X11_isSo_12 m (70, 0) y z u (nI (k + 1)) g := by
  obtain ⟨H, G, Nn, e69, a, pp, lk, o, C, T, A, wt, wf, t⟩ := id B
  have hl := t.1
  obtain ⟨_, q1, q2⟩ := t.2.2.2 k hk
  have k1 : (nI (tC g k) = (33 : Int32)) = (tC g k = 33) := iC (b := 33) q2 (by omega)
  have k2 : (nI (tC g k) = (40 : Int32)) = (tC g k = 40) := iC (b := 40) q2 (by omega)
  have k3 : (nI (tC g k) = (41 : Int32)) = (tC g k = 41) := iC (b := 41) q2 (by omega)
  have k4 : (nI (tC g k) = (97 : Int32)) = (tC g k = 97) := iC (b := 97) q2 (by omega)
  have k5 : (nI (tC g k) = (114 : Int32)) = (tC g k = 114) := iC (b := 114) q2 (by omega)
  have k6 : (nI (tC g k) = (116 : Int32)) = (tC g k = 116) := iC (b := 116) q2 (by omega)
  have k7 : (nI (tC g k) = (124 : Int32)) = (tC g k = 124) := iC (b := 124) q2 (by omega)
  rw [so_step B hk, f_X11_isSo_64, gR_70, pm_25 G, aI_50 (show k < 60 by omega), q1, if_neg (show ¬ nI (tC g k) = (33 : Int32) by rw [k1]; exact n1), if_neg (show ¬ nI (tC g k) = (40 : Int32) by rw [k2]; exact n2), if_neg (show ¬ nI (tC g k) = (41 : Int32) by rw [k3]; exact n3), if_neg (show ¬ nI (tC g k) = (97 : Int32) by rw [k4]; exact n4), if_neg (show ¬ nI (tC g k) = (114 : Int32) by rw [k5]; exact n5), if_neg (show ¬ nI (tC g k) = (116 : Int32) by rw [k6]; exact n6), if_neg (show ¬ nI (tC g k) = (124 : Int32) by rw [k7]; exact n7), f_X11_isSo_360, nI_1]
theorem r_c33 (B : BB W Cn Tn len g) (hk : k < len) (ec : tC g k = 33) (S : RvP w g v P I N) : ∃ g', (∀ m y z u, f_X11_isSo_12 (m + 1) (70, 0) y z u (nI k) g = f_X11_isSo_12 m (70, 0) y z u (nI (k + 1)) g') ∧ Lp PR g g' ∧ RvP w g' v P I (up1 N v (!N v)) := by
  obtain ⟨H, G, Nn, e69, a, pp, lk, o, C, T, A, wt, wf, t⟩ := id B
  have hl := t.1
  obtain ⟨_, q1, q2⟩ := t.2.2.2 k hk
  rw [ec] at q1
  obtain ⟨s0, s1, s2⟩ := S
  have h64 : v < 64 := by omega
  obtain ⟨p1, p2, p3⟩ := s2 v (Nat.le_refl v)
  refine ⟨m_si g 53 0 v (bI (!N v)), fun m y z u => ?_, (Lp.refl PR g).si rfl, s0, by rw [gi_ne (by decide)]; exact s1, fun l hl => ?_⟩
  · rw [so_step B hk, f_X11_isSo_64, gR_70, pm_25 G, aI_50 (show k < 60 by omega), q1, if_pos (show nI 33 = (33 : Int32) from rfl), gR_70, pm_28 G, gI_70, s1, gR_70, pm_28 G, gI_70, s1, aI_53 h64]
    cases hn : N v
    · rw [hn] at p3
      rw [p3, bI_f, if_pos rfl, f_X11_isSo_222, sZ_53 nz_1 h64, f_X11_isSo_360, nI_1, Bool.not_false, bI_t]
    · rw [hn] at p3
      rw [p3, bI_t, if_neg (by decide), f_X11_isSo_222, sZ_53 nz_0 h64, f_X11_isSo_360, nI_1, Bool.not_true, bI_f]
  · have k51 : m_gi (m_si g 53 0 v (bI (!N v))) 51 0 l = m_gi g 51 0 l := by rw [gi_ne (by decide)]
    have k52 : m_gi (m_si g 53 0 v (bI (!N v))) 52 0 l = m_gi g 52 0 l := by rw [gi_ne (by decide)]
    rw [k51, k52, gi_upJ]
    unfold up1
    by_cases el : l = v
    · subst el
      simp only [if_true]
      exact ⟨p1, p2, trivial⟩
    · simp only [if_neg el]
      exact s2 l hl
theorem r_c40 (B : BB W Cn Tn len g) (hk : k < len) (ec : tC g k = 40) (hv : v < 60) (S : RvP w g v P I N) : ∃ g', (∀ m y z u, f_X11_isSo_12 (m + 1) (70, 0) y z u (nI k) g = f_X11_isSo_12 m (70, 0) y z u (nI (k + 1)) g') ∧ Lp PR g g' ∧ RvP w g' (v + 1) (up2 P (v + 1) (fun _ => false)) (up2 I (v + 1) (fun _ => true)) (up1 N (v + 1) false) := by
  obtain ⟨H, G, Nn, e69, a, pp, lk, o, C, T, A, wt, wf, t⟩ := id B
  have hl := t.1
  obtain ⟨_, q1, q2⟩ := t.2.2.2 k hk
  rw [ec] at q1
  obtain ⟨s0, s1, s2⟩ := S
  obtain ⟨g', b1, b2, b3⟩ := r_opens (v := v + 1) (P := P) (I := I) (N := N) (w := w) G s1 (nI_1 v) (by omega) (fun l hl => s2 l (by omega))
  refine ⟨g', fun m y z u => ?_, b2, b3⟩
  rw [so_step B hk, f_X11_isSo_64, gR_70, pm_25 G, aI_50 (show k < 60 by omega), q1, if_neg (show ¬ nI 40 = (33 : Int32) from nE (a := 40) (b := 33) (by decide) (by decide) (by decide)), if_pos (show nI 40 = (40 : Int32) from rfl), ao_70, b1, bV_rt, f_X11_isSo_360, nI_1]
theorem r_c41 (B : BB W Cn Tn len g) (hk : k < len) (ec : tC g k = 41) (S : RvP w g (v + 1) P I N) : ∃ g', (∀ m y z u, f_X11_isSo_12 (m + 1) (70, 0) y z u (nI k) g = f_X11_isSo_12 m (70, 0) y z u (nI (k + 1)) g') ∧ Lp PR g g' ∧ RvP w g' v P (up2 I v (fun w => I v w && ((P (v + 1) w || I (v + 1) w) != N v))) (up1 N v false) := by
  obtain ⟨H, G, Nn, e69, a, pp, lk, o, C, T, A, wt, wf, t⟩ := id B
  have hl := t.1
  obtain ⟨_, q1, q2⟩ := t.2.2.2 k hk
  rw [ec] at q1
  obtain ⟨s0, s1, s2⟩ := S
  have h64 : v + 1 < 64 := by omega
  obtain ⟨p1, p2, p3⟩ := s2 (v + 1) (Nat.le_refl _)
  have F1 : Frm PR g (m_si g 70 0 29 (nI v)) := (Frm.refl _ g).si rfl
  have S1 : RvP w (m_si g 70 0 29 (nI v)) v P I N := ⟨by omega, gi_eq, fun l hl => by
    rw [gi_ne (by decide), gi_ne (by decide), gi_ne (by decide)]; exact s2 l (by omega)⟩
  obtain ⟨g', b1, b2, b3⟩ := r_gets (G.frm F1) S1 (fun w => P (v + 1) w || I (v + 1) w)
  refine ⟨g', fun m y z u => ?_, ((Lp.refl PR g).si0 rfl).trans b2, b3⟩
  have d51 : m_gi (m_si g 70 0 29 (nI v)) 51 0 (v + 1) = bI (P (v + 1) w) := by rw [gi_ne (by decide)]; exact p1
  have d52 : m_gi (m_si g 70 0 29 (nI v)) 52 0 (v + 1) = bI (I (v + 1) w) := by rw [gi_ne (by decide)]; exact p2
  have d70 : m_gi (m_si g 70 0 29 (nI v)) 70 0 29 = nI v := gi_eq
  rw [so_step B hk, f_X11_isSo_64, gR_70, pm_25 G, aI_50 (show k < 60 by omega), q1, if_neg (show ¬ nI 41 = (33 : Int32) from nE (a := 41) (b := 33) (by decide) (by decide) (by decide)), if_neg (show ¬ nI 41 = (40 : Int32) from nE (a := 41) (b := 40) (by decide) (by decide) (by decide)), if_pos (show nI 41 = (41 : Int32) from rfl), gI_70, s1, nI_pred, pI_70, gR_70, gr_si, pm_26 G, gI_70, d70, nI_1, aI_51 h64, d51]
  cases e1 : P (v + 1) w
  · rw [bI_f, if_pos rfl, gR_70, gr_si, pm_27 G, gI_70, d70, nI_1, aI_52 h64, d52]
    cases e2 : I (v + 1) w
    · rw [e1, e2, Bool.or_self, bI_f] at b1
      rw [bI_f, if_pos rfl, f_X11_isSo_191, ao_70, b1, bV_rt, f_X11_isSo_360, nI_1]
    · rw [e1, e2, Bool.or_true, bI_t] at b1
      rw [bI_t, if_neg (by decide), f_X11_isSo_186, f_X11_isSo_191, ao_70, b1, bV_rt, f_X11_isSo_360, nI_1]
  · rw [e1, Bool.true_or, bI_t] at b1
    rw [bI_t, if_neg (by decide), f_X11_isSo_186, f_X11_isSo_191, ao_70, b1, bV_rt, f_X11_isSo_360, nI_1]
theorem r_c124 (B : BB W Cn Tn len g) (hk : k < len) (ec : tC g k = 124) (S : RvP w g v P I N) : ∃ g', (∀ m y z u, f_X11_isSo_12 (m + 1) (70, 0) y z u (nI k) g = f_X11_isSo_12 m (70, 0) y z u (nI (k + 1)) g') ∧ Lp PR g g' ∧ RvP w g' v (up2 P v (fun w => P v w || I v w)) (up2 I v (fun _ => true)) N := by
  obtain ⟨H, G, Nn, e69, a, pp, lk, o, C, T, A, wt, wf, t⟩ := id B
  have hl := t.1
  obtain ⟨_, q1, q2⟩ := t.2.2.2 k hk
  rw [ec] at q1
  obtain ⟨s0, s1, s2⟩ := S
  have h64 : v < 64 := by omega
  obtain ⟨p1, p2, p3⟩ := s2 v (Nat.le_refl v)
  have d1 : ∀ y, m_gi (m_si g 51 0 v y) 70 0 29 = nI v := fun y => by rw [gi_ne (by decide)]; exact s1
  refine ⟨m_si (m_si g 51 0 v (bI (P v w || I v w))) 52 0 v 1, fun m y z u => ?_, ((Lp.refl PR g).si rfl).si rfl, s0, by rw [gi_ne (by decide), gi_ne (by decide)]; exact s1, fun l hl => ?_⟩
  · rw [so_step B hk, f_X11_isSo_64, gR_70, pm_25 G, aI_50 (show k < 60 by omega), q1, if_neg (show ¬ nI 124 = (33 : Int32) from nE (a := 124) (b := 33) (by decide) (by decide) (by decide)), if_neg (show ¬ nI 124 = (40 : Int32) from nE (a := 124) (b := 40) (by decide) (by decide) (by decide)), if_neg (show ¬ nI 124 = (41 : Int32) from nE (a := 124) (b := 41) (by decide) (by decide) (by decide)), if_neg (show ¬ nI 124 = (97 : Int32) from nE (a := 124) (b := 97) (by decide) (by decide) (by decide)), if_neg (show ¬ nI 124 = (114 : Int32) from nE (a := 124) (b := 114) (by decide) (by decide) (by decide)), if_neg (show ¬ nI 124 = (116 : Int32) from nE (a := 124) (b := 116) (by decide) (by decide) (by decide)), if_pos (show nI 124 = (124 : Int32) from rfl), gR_70, pm_26 G, gI_70, s1, gR_70, pm_26 G, gI_70, s1, aI_51 h64, p1]
    cases e1 : P v w
    · rw [bI_f, if_pos rfl, gR_70, pm_27 G, gI_70, s1, aI_52 h64, p2]
      cases e2 : I v w
      · rw [bI_f, if_pos rfl, f_X11_isSo_263, sZ_51 nz_0 h64, gR_70, gr_si, pm_27 G, gI_70, d1, sZ_52 nz_1 h64, f_X11_isSo_360, nI_1, Bool.or_self, bI_f]
      · rw [bI_t, if_neg (by decide), f_X11_isSo_258, f_X11_isSo_263, sZ_51 nz_1 h64, gR_70, gr_si, pm_27 G, gI_70, d1, sZ_52 nz_1 h64, f_X11_isSo_360, nI_1, Bool.or_true, bI_t]
    · rw [bI_t, if_neg (by decide), f_X11_isSo_258, f_X11_isSo_263, sZ_51 nz_1 h64, gR_70, gr_si, pm_27 G, gI_70, d1, sZ_52 nz_1 h64, f_X11_isSo_360, nI_1, Bool.true_or, bI_t]
  · have k51 : m_gi (m_si (m_si g 51 0 v (bI (P v w || I v w))) 52 0 v 1) 51 0 l = if l = v then bI (P v w || I v w) else m_gi g 51 0 l := by rw [gi_ne (by decide), gi_upJ]
    have k52 : m_gi (m_si (m_si g 51 0 v (bI (P v w || I v w))) 52 0 v 1) 52 0 l = if l = v then 1 else m_gi g 52 0 l := by rw [gi_upJ, gi_ne (by decide)]
    have k53 : m_gi (m_si (m_si g 51 0 v (bI (P v w || I v w))) 52 0 v 1) 53 0 l = m_gi g 53 0 l := by rw [gi_ne (by decide), gi_ne (by decide)]
    rw [k51, k52, k53]
    unfold up2
    by_cases el : l = v
    · subst el
      simp only [if_true]
      exact ⟨trivial, rfl, p3⟩
    · simp only [if_neg el]
      exact s2 l hl
theorem r_c114 (B : BB W Cn Tn len g) (hk : k + 1 < len) (hw : w < W) (ec : tC g k = 114) (h48 : 48 ≤ tC g (k + 1)) (S : RvP w g v P I N) : ∃ g', (∀ m y u, f_X11_isSo_12 (m + 1) (70, 0) y (nI w) u (nI k) g = f_X11_isSo_12 m (70, 0) y (nI w) u (nI (k + 1)) g') ∧ Lp PR g g' ∧ RvP w g' v P (up2 I v (fun w => I v w && (itP g Tn f b 114 (tC g (k + 1) - 48) w != N v))) (up1 N v false) := by
  obtain ⟨H, G, Nn, e69, a, pp, lk, o, C, T, A, wt, wf, t⟩ := id B
  have hl := t.1
  have hW := Nn.1
  obtain ⟨_, q1, q2⟩ := t.2.2.2 k (by omega)
  obtain ⟨_, q3, q4⟩ := t.2.2.2 (k + 1) (by omega)
  rw [ec] at q1
  obtain ⟨g', b1, b2, b3⟩ := r_gets G S (itP g Tn f b 114 (tC g (k + 1) - 48))
  refine ⟨g', fun m y u => ?_, b2, b3⟩
  have e48 : nI (tC g (k + 1)) - (48 : Int32) = nI (tC g (k + 1) - 48) := nI_sub (b := 48) h48
  have ei : itP g Tn f b 114 (tC g (k + 1) - 48) w = !decide (nI (tC g (k + 1) - 48) < m_gi g 33 0 w) := rfl
  rw [so_step B (by omega), f_X11_isSo_64, gR_70, pm_25 G, aI_50 (show k < 60 by omega), q1, if_neg (show ¬ nI 114 = (33 : Int32) from nE (a := 114) (b := 33) (by decide) (by decide) (by decide)), if_neg (show ¬ nI 114 = (40 : Int32) from nE (a := 114) (b := 40) (by decide) (by decide) (by decide)), if_neg (show ¬ nI 114 = (41 : Int32) from nE (a := 114) (b := 41) (by decide) (by decide) (by decide)), if_neg (show ¬ nI 114 = (97 : Int32) from nE (a := 114) (b := 97) (by decide) (by decide) (by decide)), if_pos (show nI 114 = (114 : Int32) from rfl), gR_70, pm_5 G, aI_33 (show w < 20 by omega), gR_70, pm_25 G, nI_1, aI_50 (show k + 1 < 60 by omega), q3, e48]
  by_cases q : nI (tC g (k + 1) - 48) < m_gi g 33 0 w
  · rw [ei, decide_eq_true q, Bool.not_true, bI_f] at b1
    rw [if_pos q, f_X11_isSo_354, ao_70, b1, bV_rt, f_X11_isSo_360, nI_1]
  · rw [ei, decide_eq_false q, Bool.not_false, bI_t] at b1
    rw [if_neg q, f_X11_isSo_354, ao_70, b1, bV_rt, f_X11_isSo_360, nI_1]
theorem r_cta (B : BB W Cn Tn len g) (hk : k + 2 < len) (hw : w < W) (hf : f < 32) (ec : tC g k = 116 ∨ tC g k = 97) (h1 : 48 ≤ tC g (k + 1)) (h2 : 48 ≤ tC g (k + 2)) (hx : 10 * (tC g (k + 1) - 48) + (tC g (k + 2) - 48) < 30) (S : RvP w g v P I N) : ∃ g', (∀ m, f_X11_isSo_12 (m + 1) (70, 0) (nI f) (nI w) (bI b) (nI k) g = f_X11_isSo_12 m (70, 0) (nI f) (nI w) (bI b) (nI (k + 1)) g') ∧ Lp PR g g' ∧ RvP w g' v P (up2 I v (fun w => I v w && (itP g Tn f b (tC g k) (10 * (tC g (k + 1) - 48) + (tC g (k + 2) - 48)) w != N v))) (up1 N v false) := by
  obtain ⟨H, G, Nn, e69, a, pp, lk, o, C, T, A, wt, wf, t⟩ := id B
  have hl := t.1
  have hW := Nn.1
  obtain ⟨_, q1, q2⟩ := t.2.2.2 k (by omega)
  obtain ⟨g', b1, b2, b3⟩ := r_gets G S (itP g Tn f b (tC g k) (10 * (tC g (k + 1) - 48) + (tC g (k + 2) - 48)))
  refine ⟨g', fun m => ?_, b2, b3⟩
  rw [so_step B (by omega), if_neg (show ¬ len ≤ k + 2 by omega), two_of h1 h2, f_X11_isSo_64]
  rcases ec with ec | ec <;> rw [ec] at q1 b1
  · have ei : itP g Tn f b 116 (10 * (tC g (k + 1) - 48) + (tC g (k + 2) - 48)) w = tgS g Tn b (10 * (tC g (k + 1) - 48) + (tC g (k + 2) - 48)) w := rfl
    rw [ei] at b1
    rw [gR_70, pm_25 G, aI_50 (show k < 60 by omega), q1, if_neg (show ¬ nI 116 = (33 : Int32) from nE (a := 116) (b := 33) (by decide) (by decide) (by decide)), if_neg (show ¬ nI 116 = (40 : Int32) from nE (a := 116) (b := 40) (by decide) (by decide) (by decide)), if_neg (show ¬ nI 116 = (41 : Int32) from nE (a := 116) (b := 41) (by decide) (by decide) (by decide)), if_neg (show ¬ nI 116 = (97 : Int32) from nE (a := 116) (b := 97) (by decide) (by decide) (by decide)), if_neg (show ¬ nI 116 = (114 : Int32) from nE (a := 116) (b := 114) (by decide) (by decide) (by decide)), if_pos (show nI 116 = (116 : Int32) from rfl), ao_70, r_isOfTag B hw hx, bI_ri, ao_70, b1, bV_rt, f_X11_isSo_360, nI_1]
  · have ei : itP g Tn f b 97 (10 * (tC g (k + 1) - 48) + (tC g (k + 2) - 48)) w = (toldP g f w && bt (m_gi g 34 0 w) (10 * (tC g (k + 1) - 48) + (tC g (k + 2) - 48))) := rfl
    rw [ei] at b1
    rw [gR_70, pm_25 G, aI_50 (show k < 60 by omega), q1, if_neg (show ¬ nI 97 = (33 : Int32) from nE (a := 97) (b := 33) (by decide) (by decide) (by decide)), if_neg (show ¬ nI 97 = (40 : Int32) from nE (a := 97) (b := 40) (by decide) (by decide) (by decide)), if_neg (show ¬ nI 97 = (41 : Int32) from nE (a := 97) (b := 41) (by decide) (by decide) (by decide)), if_pos (show nI 97 = (97 : Int32) from rfl), ao_70, r_areTold G a o C hw (show w < 20 by omega) hf, bI_ri]
    cases e1 : toldP g f w
    · rw [e1, Bool.false_and, bI_f] at b1
      rw [bI_f, if_pos rfl, f_X11_isSo_320, f_X11_isSo_321, ao_70, b1, bV_rt, f_X11_isSo_360, nI_1]
    · rw [bI_t, if_neg (by decide), gR_70, pm_6 G, aI_34 (show w < 20 by omega), r_has (show 10 * (tC g (k + 1) - 48) + (tC g (k + 2) - 48) < 32 by omega), bI_ri]
      cases e2 : bt (m_gi g 34 0 w) (10 * (tC g (k + 1) - 48) + (tC g (k + 2) - 48))
      · rw [e1, e2, Bool.and_false, bI_f] at b1
        rw [bI_f, if_pos rfl, f_X11_isSo_320, f_X11_isSo_321, ao_70, b1, bV_rt, f_X11_isSo_360, nI_1]
      · rw [e1, e2, Bool.and_self, bI_t] at b1
        rw [bI_t, if_neg (by decide), f_X11_isSo_321, ao_70, b1, bV_rt, f_X11_isSo_360, nI_1]
end RSearch
theorem RvP.frm {w v : Nat} {h g : am_H} {P I : Nat → Nat → Bool} {N : Nat → Bool} {Q : Nat → Nat → Bool} (F : Frm Q h g) (S : RvP w h v P I N) (p0 : Q 70 29 = true := by rfl) (p1 : ∀ j, Q 51 j = true := by intro _; rfl) (p2 : ∀ j, Q 52 j = true := by intro _; rfl) (p3 : ∀ j, Q 53 j = true := by intro _; rfl) : RvP w g v P I N :=
  ⟨S.1, (F.1 70 0 29 p0).trans S.2.1, fun l hl => by rw [F.1 51 0 l (p1 l), F.1 52 0 l (p2 l), F.1 53 0 l (p3 l)]; exact S.2.2 l hl⟩
section RSearch2
variable {W Cn Tn len f w : Nat} {h : am_H} {b : Bool}
theorem num_lt {s o c d : Nat} (hs : s = 2 ∨ s = 4) (ok1 : okT s o c = true) (ok2 : okT (bh s c) o d = true) : 10 * (c - 48) + (d - 48) < 30 := by
  have n1 := okT_8 ok1
  have l1 := okT_lt ok1
  have m2 := (ok_mid (s := s) (by omega) (by omega) ok1).2.2 (by rcases hs with e | e <;> subst e <;> rfl)
  have f2 := fig_of (ok_mid m2.2 l1 ok2).1
  unfold bh at n1
  rcases hs with e | e <;> subst e <;> simp (decide := true) only [if_true, if_false] at n1
  · by_cases q : 48 ≤ c ∧ c ≤ 50
    · omega
    · rw [if_neg q] at n1; exact absurd rfl n1
  · by_cases q : c = 48
    · omega
    · by_cases q2 : c = 49
      · omega
      · rw [if_neg q, if_neg q2] at n1; exact absurd rfl n1
theorem r_so (B0 : BB W Cn Tn len h) (hf : f < 32) (hw : w < W) : ∀ (n k s v m : Nat) (P I : Nat → Nat → Bool) (N : Nat → Bool) (g : am_H), k ≤ len → len < k + n → len < k + m → (s = 0 ∨ s = 1) → v ≤ k → vd (tC h) (len - k) k s v = true → Lp PS h g → RvP w g v P I N →
    ∃ g', f_X11_isSo_12 m (70, 0) (nI f) (nI w) (bI b) (nI k) g = m_ri g' (bI (ev (tC h) (itP h Tn f b) len n k v P I N w)) ∧ Lp PS h g' := by
  intro n
  induction n with
  | zero => intro k s v m P I N g h1 h2 h3 h4 h5 hv L S; omega
  | succ n ih =>
    intro k s v m P I N g h1 h2 h3 h4 h5 hv L S
    have F := L.1
    have B := B0.frm F
    obtain ⟨H, G, Nn, e69, a, pp, lk, o, C, T, A, wt, wf, t⟩ := id B
    have hl := t.1
    have hW := Nn.1
    have eT : tC g = tC h := tC_S F
    obtain ⟨m, rfl⟩ : ∃ m', m = m' + 1 := ⟨m - 1, by omega⟩
    rw [ev]
    by_cases hk : len ≤ k
    · have ek : len - k = 0 := by omega
      rw [ek, vd, Bool.and_eq_true, decide_eq_true_eq, decide_eq_true_eq] at hv
      obtain ⟨rfl, rfl⟩ := hv
      obtain ⟨q1, q2, q3⟩ := S.2.2 0 (Nat.le_refl 0)
      refine ⟨g, ?_, L⟩
      have z51 : ∀ {K : Int32 → am_R}, m_aI (some (51, 0)) 1 0 g K = K (m_gi g 51 0 0) := fun {K} => aI_51 (k := 0) (by decide)
      have z52 : ∀ {K : Int32 → am_R}, m_aI (some (52, 0)) 1 0 g K = K (m_gi g 52 0 0) := fun {K} => aI_52 (k := 0) (by decide)
      rw [if_pos hk, f_X11_isSo_12, gI_70, t.2.2.1, if_pos (show nI len ≤ nI k by rw [i_le (show len < 10000 by omega) (show k < 10000 by omega)]; exact hk), gR_70, pm_26 G, z51, q1]
      cases P 0 w
      · rw [bI_f, if_pos rfl, gR_70, pm_27 G, z52, q2]
        cases I 0 w
        · rw [bI_f, if_pos rfl, f_X11_isSo_389, rz_0, Bool.or_self, bI_f]
        · rw [bI_t, if_neg (by decide), f_X11_isSo_384, f_X11_isSo_389, rz_1, Bool.or_true, bI_t]
      · rw [bI_t, if_neg (by decide), f_X11_isSo_384, f_X11_isSo_389, rz_1, Bool.true_or, bI_t]
    · rw [if_neg hk]
      have hkl : k < len := by omega
      obtain ⟨d, ed⟩ : ∃ d, len - k = d + 1 := ⟨len - k - 1, by omega⟩
      rw [ed, vd, Bool.and_eq_true] at hv
      obtain ⟨ok, hv⟩ := hv
      have ed' : len - (k + 1) = d := by omega
      have n8 := okT_8 ok
      rw [← eT] at ok hv n8 ⊢
      rcases h4 with e | e
      · subst e
        by_cases c33 : tC g k = 33
        · rw [c33] at hv
          obtain ⟨g2, b1, b2, b3⟩ := r_c33 B hkl c33 S
          rw [if_pos c33, b1, eT]
          rw [eT] at hv
          exact ih (k + 1) 0 v m P I _ g2 (by omega) (by omega) (by omega) (Or.inl rfl) (by omega) (by rw [ed']; exact hv) (L.trans b2.up) b3
        · by_cases c40 : tC g k = 40
          · rw [c40] at hv
            obtain ⟨g2, b1, b2, b3⟩ := r_c40 B hkl c40 (by omega) S
            rw [if_neg c33, if_pos c40, b1, eT]
            rw [eT] at hv
            exact ih (k + 1) 0 (v + 1) m _ _ _ g2 (by omega) (by omega) (by omega) (Or.inl rfl) (by omega) (by rw [ed']; exact hv) (L.trans b2.up) b3
          · have hc : tC g k = 116 ∨ tC g k = 97 ∨ tC g k = 114 := by
              unfold bh at n8
              rw [if_pos rfl, if_neg c33, if_neg c40] at n8
              by_cases z1 : tC g k = 116
              · exact Or.inl z1
              · by_cases z2 : tC g k = 97
                · exact Or.inr (Or.inl z2)
                · by_cases z3 : tC g k = 114
                  · exact Or.inr (Or.inr z3)
                  · rw [if_neg z1, if_neg z2, if_neg z3] at n8; exact absurd rfl n8
            have nx : nxo v (tC g k) = v := by unfold nxo; rw [if_neg (by omega), if_neg (by omega)]
            rw [nx] at hv
            rw [if_neg c33, if_neg c40, if_neg (show ¬ tC g k = 41 by omega), if_neg (show ¬ tC g k = 124 by omega), if_neg (show ¬ tC g k = 38 by omega)]
            by_cases c114 : tC g k = 114
            · rw [if_pos c114]
              have s7 : bh 0 (tC g k) = 7 := by rw [c114]; rfl
              rw [s7] at hv
              obtain ⟨d1, ed1, ok1, fg1, hv1⟩ := vd_fig (by decide) (by decide) hv
              have b7 : bh 7 (tC g (k + 1)) = 1 := (ok_mid (by decide) (by decide) ok1).2.1 rfl
              have f48 := fig_of fg1
              rw [b7] at hv1
              obtain ⟨m, rfl⟩ : ∃ m', m = m' + 1 := ⟨m - 1, by omega⟩
              obtain ⟨g2, b1, b2, b3⟩ := r_c114 (f := f) (b := b) B (by omega) hw c114 f48.1 S
              rw [itP_S F] at b3
              have F2 : Frm PS h g2 := (L.trans b2.up).1
              have eT2 : tC g2 = tC g := (tC_S F2).trans eT.symm
              rw [b1, r_no (B0.frm F2) (by omega) (by rw [eT2]; omega) (by rw [eT2]; omega) (by rw [eT2]; omega) (by rw [eT2]; omega) (by rw [eT2]; omega) (by rw [eT2]; omega) (by rw [eT2]; omega)]
              rw [eT] at hv1 b3 ⊢
              exact ih (k + 2) 1 v m _ _ _ g2 (by omega) (by omega) (by omega) (Or.inr rfl) (by omega) (by rw [show len - (k + 2) = d1 by omega]; exact hv1) (L.trans b2.up) b3
            · rw [if_neg c114]
              have hc2 : tC g k = 116 ∨ tC g k = 97 := by omega
              have s24 : bh 0 (tC g k) = 2 ∨ bh 0 (tC g k) = 4 := by
                rcases hc2 with e | e
                · rw [e]; exact Or.inl rfl
                · rw [e]; exact Or.inr rfl
              obtain ⟨d1, ed1, ok1, fg1, hv1⟩ := vd_fig (by omega) (by omega) hv
              obtain ⟨y1, y2, y3⟩ := ok_mid (by omega) (by omega) ok1
              obtain ⟨y4, y5⟩ := y3 (by rcases s24 with e | e <;> rw [e] <;> rfl)
              have y6 := okT_lt ok1
              obtain ⟨d2, ed2, ok2, fg2, hv2⟩ := vd_fig y5 y6 hv1
              have b1' : bh (bh (bh 0 (tC g k)) (tC g (k + 1))) (tC g (k + 2)) = 1 := (ok_mid y5 y6 ok2).2.1 y4
              have f48 := fig_of fg1
              have f482 := fig_of fg2
              rw [b1'] at hv2
              obtain ⟨m, rfl⟩ : ∃ m', m = m' + 1 := ⟨m - 1, by omega⟩
              obtain ⟨m, rfl⟩ : ∃ m', m = m' + 1 := ⟨m - 1, by omega⟩
              obtain ⟨g2, b1, b2, b3⟩ := r_cta (f := f) (b := b) B (by omega) hw hf hc2 f48.1 f482.1 (num_lt s24 ok1 ok2) S
              rw [itP_S F] at b3
              have F2 : Frm PS h g2 := (L.trans b2.up).1
              have eT2 : tC g2 = tC g := (tC_S F2).trans eT.symm
              rw [b1, r_no (B0.frm F2) (by omega) (by rw [eT2]; omega) (by rw [eT2]; omega) (by rw [eT2]; omega) (by rw [eT2]; omega) (by rw [eT2]; omega) (by rw [eT2]; omega) (by rw [eT2]; omega), r_no (B0.frm F2) (by omega) (by rw [eT2]; omega) (by rw [eT2]; omega) (by rw [eT2]; omega) (by rw [eT2]; omega) (by rw [eT2]; omega) (by rw [eT2]; omega) (by rw [eT2]; omega)]
              rw [eT] at hv2 b3 ⊢
              exact ih (k + 3) 1 v m _ _ _ g2 (by omega) (by omega) (by omega) (Or.inr rfl) (by omega) (by rw [show len - (k + 3) = d2 by omega]; exact hv2) (L.trans b2.up) b3
      · subst e
        by_cases c41 : tC g k = 41
        · rw [c41] at hv ok
          obtain ⟨v, rfl⟩ : ∃ v', v = v' + 1 := by
            cases v with
            | zero => cases ok
            | succ v => exact ⟨v, rfl⟩
          obtain ⟨g2, b1, b2, b3⟩ := r_c41 B hkl c41 S
          rw [if_neg (show ¬ tC g k = 33 by omega), if_neg (show ¬ tC g k = 40 by omega), if_pos c41, b1, eT]
          rw [eT] at hv
          exact ih (k + 1) 1 v m _ _ _ g2 (by omega) (by omega) (by omega) (Or.inr rfl) (by omega) (by rw [ed']; exact hv) (L.trans b2.up) b3
        · by_cases c124 : tC g k = 124
          · rw [c124] at hv
            obtain ⟨g2, b1, b2, b3⟩ := r_c124 B hkl c124 S
            rw [if_neg (show ¬ tC g k = 33 by omega), if_neg (show ¬ tC g k = 40 by omega), if_neg c41, if_pos c124, b1, eT]
            rw [eT] at hv
            exact ih (k + 1) 0 v m _ _ _ g2 (by omega) (by omega) (by omega) (Or.inl rfl) (by omega) (by rw [ed']; exact hv) (L.trans b2.up) b3
          · have c38 : tC g k = 38 := by
              unfold bh at n8
              rw [if_neg (by decide), if_pos rfl, if_neg c124, if_neg c41] at n8
              by_cases z1 : tC g k = 38
              · exact z1
              · rw [if_neg z1] at n8; exact absurd rfl n8
            rw [c38] at hv
            rw [if_neg (show ¬ tC g k = 33 by omega), if_neg (show ¬ tC g k = 40 by omega), if_neg c41, if_neg c124, if_pos c38, r_no B hkl (by omega) (by omega) (by omega) (by omega) (by omega) (by omega) (by omega), eT]
            rw [eT] at hv
            exact ih (k + 1) 0 v m _ _ _ g (by omega) (by omega) (by omega) (Or.inl rfl) (by omega) (by rw [ed']; exact hv) L S
theorem r_so5 (B0 : BB W Cn Tn len h) (hf : f < 32) (hw : w < W) (hv : vd (tC h) len 0 0 0 = true) (g : am_H) (L : Lp PS h g) (S : RvP w g 0 (up2 (fun _ _ => false) 0 (fun _ => false)) (up2 (fun _ _ => false) 0 (fun _ => true)) (up1 (fun _ => false) 0 false)) :
    ∃ g', f_X11_isSo_12 5000 (70, 0) (nI f) (nI w) (bI b) 0 g = m_ri g' (bI (fnd h Tn len f b w)) ∧ Lp PS h g' := by
  have := r_so (b := b) B0 hf hw (len + 1) 0 0 0 5000 _ _ _ g (by omega) (by omega) (by have := B0.2.2.2.2.2.2.2.2.2.2.2.2.2.1; omega) (Or.inl rfl) (by omega) hv L S
  rw [nI_0] at this
  exact this
theorem r_isSo (B0 : BB W Cn Tn len h) (hf : f < 32) (hw : w < W) (hv : vd (tC h) len 0 0 0 = true) (g : am_H) (L : Lp PS h g) : ∃ g', f_X11_isSo (70, 0) (nI f) (nI w) (bI b) g = m_ri g' (bI (fnd h Tn len f b w)) ∧ Lp PS h g' := by
  have B := B0.frm L.1
  have L1 : Lp PS g (m_si g 70 0 29 (-1)) := (Lp.refl PS g).si0 rfl
  obtain ⟨g1, a1, a2, a3⟩ := r_opens (g := m_si g 70 0 29 (-1)) (v := 0) (P := fun _ _ => false) (I := fun _ _ => false) (N := fun _ => false) (w := w) (B.2.1.frm L1.1) gi_eq (by decide +kernel) (by omega) (fun l hl => by omega)
  obtain ⟨g2, b1, b2⟩ := r_so5 (b := b) B0 hf hw hv g1 ((L.trans L1).trans a2.up) a3
  refine ⟨g2, ?_, b2⟩
  rw [f_X11_isSo, pI_70, ao_70, a1, bV_rt]
  exact b1
theorem r_sr5 (B0 : BB W Cn Tn len h) (hf : f < 32) (hv : vd (tC h) len 0 0 0 = true) : ∀ (n k : Nat) (g : am_H), k ≤ W → W < k + n → Lp PS h g →
    ∃ g', f_X11_searchOf_5 n (70, 0) (nI f) (bI b) (setOf (fun w => fnd h Tn len f b w && seenP h f w) k) (nI k) g = m_ri g' (setOf (fun w => fnd h Tn len f b w && seenP h f w) W) ∧ Lp PS h g'
  | 0, k, g, h1, h2, L => by omega
  | n + 1, k, g, h1, h2, L => by
    have F := L.1
    obtain ⟨H, G, Nn, e69, a, pp, lk, o, C, T, A, wt, wf, t⟩ := id (B0.frm F)
    have hW := Nn.1
    rw [f_X11_searchOf_5]
    simp only [gI_70, Nn.2.2.1, i_le (show W < 10000 by omega) (show k < 10000 by omega)]
    by_cases hk : W ≤ k
    · rw [if_pos hk, show k = W by omega]
      exact ⟨g, rfl, L⟩
    · rw [if_neg hk]
      have hkW : k < W := by omega
      have so := setOf_or (fun w => fnd h Tn len f b w && seenP h f w) (show k < 32 by omega)
      simp only [ao_70, r_isSeen G a o C hkW (show k < 20 by omega) hf, bI_ri, bI_eq0, seenP_S F, f_X11_searchOf_43, f_X11_searchOf_44, nI_1, one_eq]
      cases hs : seenP h f k
      · rw [if_pos rfl]
        rw [hs, Bool.and_false, if_neg (by decide)] at so
        rw [so]
        exact r_sr5 B0 hf hv n (k + 1) g (by omega) (by omega) L
      · rw [if_neg (by decide)]
        obtain ⟨g1, q1, q2⟩ := r_isSo (b := b) B0 hf hkW hv g L
        rw [q1, bI_ri]
        simp only [bI_eq0]
        rw [hs, Bool.and_true] at so
        cases hd : fnd h Tn len f b k
        · rw [if_pos rfl]
          rw [hd, if_neg (by decide)] at so
          rw [so]
          exact r_sr5 B0 hf hv n (k + 1) g1 (by omega) (by omega) q2
        · rw [if_neg (by decide)]
          rw [hd, if_pos rfl] at so
          rw [so]
          exact r_sr5 B0 hf hv n (k + 1) g1 (by omega) (by omega) q2
theorem r_searchOf (B0 : BB W Cn Tn len h) (hf : f < 32) (hv : vd (tC h) len 0 0 0 = true) (g : am_H) (L : Lp PS h g) : ∃ g', f_X11_searchOf (70, 0) (nI f) (bI b) g = m_ri g' (setOf (fun w => fnd h Tn len f b w && seenP h f w) W) ∧ Lp PS h g' := by
  have := r_sr5 (b := b) B0 hf hv 5000 0 g (by omega) (by have := B0.2.2.1.1; omega) L
  rw [setOf, nI_0] at this
  rw [f_X11_searchOf]
  exact this
end RSearch2
theorem op_search {W Cn Tn Sn Qn : Nat} {h : am_H} (R : RR W Cn Tn Sn Qn h) (x : Int32) (b : Bool) : OpOK h (f_G_search (some (69, 0)) x (bI b) (some (71, 0)) h) (f_X11_search (70, 0) x (bI b)) vI := by
  have R0 := R
  obtain ⟨H, G, rDay, rBlk, rSam, N, rWa, rWc, rWp, rWl, rWo, rWt, rWf, rWw, rWs, rWk, rCo, rTg, rPa, rTp, rSg, rCm, rSb, rDg, rIv⟩ := R
  obtain ⟨D, hD, d1, d2⟩ := id rDay
  obtain ⟨len, t⟩ := tp_of rTp
  have B0 : BB W Cn Tn len h := ⟨H, G, N, d1.trans d2.symm, rWa, rWp, rWl, rWo, rCo, rTg, rPa, rWt, rWf, t⟩
  have hl := t.1
  rcases ix_cases x (n := 32) (by omega) with ⟨f, hf, rfl⟩ | hx
  · have iy := isIx_ok (show 32 < 10000 by omega) hf
    obtain ⟨g1, a1, a2⟩ := c_checkQuery H t
    have L1 : Lp PS h g1 := a2.up
    have eT1 : tC g1 = tC h := tC_S L1.1
    by_cases hv : vd (tC h) len 0 0 0 = true
    · rw [if_pos hv] at a1
      obtain ⟨g2, c1, c2⟩ := c_found (b := b) (B0.frm L1.1) hf (by rw [eT1]; exact hv)
      have e2 : ∀ w, (fnd g1 Tn len f b w && seenP g1 f w) = (fnd h Tn len f b w && seenP h f w) := fun w => by
        rw [fnd_S L1.1, seenP_S L1.1]
      rw [setOf_congr (fun w _ => e2 w)] at c1
      have L2 : Lp PS h g2 := L1.trans c2
      have Fc : Frm PS h (m_sl g2 71 0 0 (vI (setOf (fun w => fnd h Tn len f b w && seenP h f w) W))) := L2.1.sl
      have Fs : Frm PS h (m_si (m_sl g2 71 0 0 (vI (setOf (fun w => fnd h Tn len f b w && seenP h f w) W))) 70 0 0 0) := Fc.si rfl
      have eTc : tC (m_sl g2 71 0 0 (vI (setOf (fun w => fnd h Tn len f b w && seenP h f w) W))) = tC h := tC_S Fc
      have eTs : tC (m_si (m_sl g2 71 0 0 (vI (setOf (fun w => fnd h Tn len f b w && seenP h f w) W))) 70 0 0 0) = tC h := tC_S Fs
      have r1 := r_faultOf (G.frm Fc) (t.frm Fc)
      rw [eTc] at r1
      have fv : ft (tC h) len 0 0 0 = -1 := by rw [ft_vd (by omega)]; exact hv
      obtain ⟨h2, s1, s2⟩ := r_searchOf (b := b) (B0.frm Fs) hf (by rw [eTs]; exact hv) (m_si (m_sl g2 71 0 0 (vI (setOf (fun w => fnd h Tn len f b w && seenP h f w) W))) 70 0 0 0) (Lp.refl _ _)
      have e3 : ∀ w, (fnd (m_si (m_sl g2 71 0 0 (vI (setOf (fun w => fnd h Tn len f b w && seenP h f w) W))) 70 0 0 0) Tn len f b w && seenP (m_si (m_sl g2 71 0 0 (vI (setOf (fun w => fnd h Tn len f b w && seenP h f w) W))) 70 0 0 0) f w) = (fnd h Tn len f b w && seenP h f w) := fun w => by
        rw [fnd_S Fs, seenP_S Fs]
      rw [setOf_congr (fun w _ => e3 w)] at s1
      have F2 : Frm PS h h2 := Fs.trans s2.1
      refine ok_u (hv := fun _ => set_ne21 (by have := N.1; omega)) (h1 := g2) (b := (setOf (fun w => fnd h Tn len f b w && seenP h f w) W)) (h2 := h2) (L_search_ret _ _ ?_) ?_ ?_ ?_ ?_ ?_ ?_ ?_ ?_
      · rw [f_X10_search, c_checkFace hf, bV_rt, ao_69, a1, bV_rt, ao_69, c1, bI_ri]
      · rw [f_X11_search, r_isFace, iy, bI_ri, bI_t, if_neg (by decide), ao_70, r1, bI_ri, if_pos fv, f_X11_search_25, ao_70, r_h0, bI_ri, if_neg (by decide), ao_70, s1, bI_ri, f_X11_search_41]
      · rw [s2.2.2.2.2]; rfl
      · rw [s2.2.1]; exact gl_eq
      · exact L2.1.g1
      · exact F2.g1
      · rw [s2.2.2.1]; show m_nc g2 ≤ _; rw [L2.2.2.1]; omega
      · rw [s2.2.2.2.1]; show m_ns g2 ≤ _; rw [L2.2.2.2.1]; omega
      · exact ⟨W, Cn, Tn, Sn, Qn, ⟨H.frm F2, G.frm F2, rDay.frm F2, rBlk.frm F2, rSam.frm F2, N.frm F2, rWa.frm F2, rWc.frm F2, rWp.frm F2, rWl.frm F2, rWo.frm F2, rWt.frm F2, rWf.frm F2, rWw.frm F2, rWs.frm F2, rWk.frm F2, rCo.frm F2, rTg.frm F2, rPa.frm F2, rTp.frm F2, rSg.frm F2, rCm.frm F2, rSb.frm F2, rDg.frm F2, rIv.frm F2⟩⟩
    · rw [if_neg hv] at a1
      have R1 : RR W Cn Tn Sn Qn g1 := by
        have F1 := L1.1
        exact ⟨H.frm F1, G.frm F1, rDay.frm F1, rBlk.frm F1, rSam.frm F1, N.frm F1, rWa.frm F1, rWc.frm F1, rWp.frm F1, rWl.frm F1, rWo.frm F1, rWt.frm F1, rWf.frm F1, rWw.frm F1, rWs.frm F1, rWk.frm F1, rCo.frm F1, rTg.frm F1, rPa.frm F1, rTp.frm F1, rSg.frm F1, rCm.frm F1, rSb.frm F1, rDg.frm F1, rIv.frm F1⟩
      have Fe : Frm (pX [] []) g1 (m_op (m_th g1)) := (Frm.refl _ g1).th.op rfl
      have r1 := r_faultOf (R1.G.frm Fe) ((t.frm L1.1).frm Fe)
      rw [tC_cong (g := m_op (m_th g1)) (h := g1) rfl, eT1] at r1
      have fv : ¬ ft (tC h) len 0 0 0 = -1 := by rw [ft_vd (by omega)]; exact hv
      obtain ⟨h1, k, h2, b', o1, o2, o3, o4, o5, o6, o7, o8, o9, o10⟩ := ok_ex (r := f_G_search (some (69, 0)) (nI f) (bI b) (some (71, 0)) h) (mf := f_X11_search (70, 0) (nI f) (bI b)) (V := vI) R1 (c := 2) (b := 0) (by decide) (L_search_x1 _ _ (by rw [f_X10_search, c_checkFace hf, bV_rt, ao_69, a1, bV_ex])) (by rw [f_X11_search, r_isFace, iy, bI_ri, bI_t, if_neg (by decide), ao_70, r1, bI_ri, if_neg fv, f_X11_search_25, ao_70, r_h2, bI_ri, if_pos rfl, f_X11_search_41])
      exact ⟨h1, k, h2, b', o1, o2, o3, o4, o5.trans a2.1.g1, o6.trans a2.1.g1, by rw [a2.2.2.1] at o7; exact o7, by rw [a2.2.2.2.1] at o8; exact o8, fun z => a2.1.trans (o9 z), o10⟩
  · exact ok_ex R0 (c := 1) (b := 0) (by decide) (L_search_x0 _ _ (by rw [f_X10_search, c_checkFace_bad hx, bV_ex])) (by rw [f_X11_search, r_isFace, isIx_bad (show 32 < 10000 by omega) hx, bI_ri, bI_f, if_pos rfl, f_X11_search_25, ao_70, r_h1, bI_ri, if_pos rfl, f_X11_search_41])
