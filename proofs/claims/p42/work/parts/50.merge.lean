theorem si_si {h : am_H} {s k j : Nat} {v w : Int32} : m_si (m_si h s k j v) s k j w = m_si h s k j w := by
  unfold m_si
  congr 2
  funext a b c
  show (if a = s ∧ b = k ∧ c = j then w else if a = s ∧ b = k ∧ c = j then v else h.2.1 a b c) = _
  split <;> rfl
theorem bI_inj (a b : Bool) : (bI a = bI b) = (a = b) := by cases a <;> cases b <;> decide
theorem wi_same {s : Int32} {i : Nat} (hi : i < 32) : wi s i (bt s i) = s := by
  apply b_ext
  intro j hj
  rw [bt_wi _ hi _ hj]
  split
  · rename_i e; rw [e]
  · rfl
theorem tg_congr {h : am_H} {s1 s2 : Nat} (e : ∀ t, t < 30 → m_gi h s1 0 t = m_gi h s2 0 t) : (fun a b => a < 30 ∧ bt (m_gi h s1 0 a) b = true) = (fun a b => a < 30 ∧ bt (m_gi h s2 0 a) b = true) := by
  funext a b
  apply propext
  constructor
  · rintro ⟨h1, h2⟩; exact ⟨h1, by rw [← e a h1]; exact h2⟩
  · rintro ⟨h1, h2⟩; exact ⟨h1, by rw [e a h1]; exact h2⟩
/-- parents without t, with m instead -/
def npF (x : Int32) (t m : Nat) : Int32 := if bt x t = true then wi (wi x t false) m true else x
theorem sI_12e {k : Nat} {x : Int32} {h : am_H} {K : am_H → am_R} (hk : k < 30) : m_sI (some (12, 0)) (nI k) x h K = K (m_si h 12 0 k x) := sI_12 hk
section Merge
variable {Tn : Nat} {h : am_H}
theorem c_mk2 (H : ShC h) (e0 : m_gi h 21 0 0 = nI Tn) (hT : Tn ≤ 30) (hR : ∀ a b, a < 30 → bt (m_gi h 12 0 a) b = true → a < Tn) {t m : Nat} (ht : t < Tn) (hm : m < Tn) : ∀ (n k : Nat) (g : am_H), k ≤ Tn → Tn < k + n → Lp (pX [] [11, 12]) h g →
    (∀ j, m_gi g 11 0 j = if j < k ∧ m_gi h 11 0 j = nI t then nI m else m_gi h 11 0 j) → (∀ j, m_gi g 12 0 j = if j < k then npF (m_gi h 12 0 j) t m else m_gi h 12 0 j) →
    ∃ g', f_X7_makeAlias_2 n (21, 0) (nI t) (nI m) (nI k) g = m_rt g' none ∧ Lp (pX [] [11, 12, 13]) h g' ∧ (∀ j, m_gi g' 11 0 j = if j = t ∨ (j < Tn ∧ m_gi h 11 0 j = nI t) then nI m else m_gi h 11 0 j) ∧ (∀ j, m_gi g' 12 0 j = if j = t then 0 else if j < Tn then npF (m_gi h 12 0 j) t m else m_gi h 12 0 j) ∧
      ∀ a b, a < 30 → b < 32 → (bt (m_gi g' 13 0 a) b = true ↔ Relation.TransGen (fun a b => a < 30 ∧ bt (m_gi g' 12 0 a) b = true) a b)
  | 0, k, g, h1, h2, _, _, _ => by omega
  | n + 1, k, g, h1, h2, F, i1, i2 => by
    have H' : ShC g := H.frm F.1
    have e1 : m_gi g 21 0 0 = nI Tn := (F.1.1 21 0 0 rfl).trans e0
    rw [f_X7_makeAlias_2]
    simp only [gI_21, e1, i_le (show Tn < 10000 by omega) (show k < 10000 by omega)]
    by_cases hk : Tn ≤ k
    · rw [if_pos hk]
      have hkT : k = Tn := by omega
      have Fa : Lp (pX [] [11, 12]) h (m_si (m_si g 11 0 t (nI m)) 12 0 t 0) := (F.si (s := 11) (k := 0) (j := t) rfl).si (s := 12) (k := 0) (j := t) rfl
      have q12 : ∀ j, m_gi (m_si (m_si g 11 0 t (nI m)) 12 0 t 0) 12 0 j = if j = t then 0 else if j < Tn then npF (m_gi h 12 0 j) t m else m_gi h 12 0 j := fun j => by
        rw [gi_upJ]
        split
        · rfl
        · show m_gi g 12 0 j = _
          rw [i2, hkT]
      obtain ⟨g', r, F', tg⟩ := c_findAbove (h := (m_si (m_si g 11 0 t (nI m)) 12 0 t 0)) hT (H.frm Fa.1) ((Fa.1.1 21 0 0 rfl).trans e0) (fun a b ha hb => by
        rw [q12] at hb
        by_cases ea : a = t
        · omega
        · rw [if_neg ea] at hb
          by_cases eT : a < Tn
          · exact eT
          · rw [if_neg eT] at hb; exact hR a b ha hb)
      refine ⟨g', ?_, Fa.up.trans F'.up, fun j => ?_, fun j => ?_, fun a b ha hb => ?_⟩
      · simp only [gR_21, pc_mean H', sI_11 (show t < 30 by omega), gr_si, pc_par H', sI_12 (show t < 30 by omega), ao_21, r, bV_rt]
      · rw [F'.1.1 11 0 j rfl]
        show m_gi (m_si g 11 0 t (nI m)) 11 0 j = _
        rw [gi_upJ, i1, hkT]
        by_cases a : j = t
        · rw [if_pos a, if_pos (Or.inl a)]
        · rw [if_neg a]
          by_cases b : j < Tn ∧ m_gi h 11 0 j = nI t
          · rw [if_pos b, if_pos (Or.inr b)]
          · rw [if_neg b, if_neg (fun z => z.elim a b)]
      · rw [F'.1.1 12 0 j rfl, q12]
      · rw [tg a b ha hb]
        have : (fun a b => a < 30 ∧ bt (m_gi (m_si (m_si g 11 0 t (nI m)) 12 0 t 0) 12 0 a) b = true) = (fun a b => a < 30 ∧ bt (m_gi g' 12 0 a) b = true) := by
          funext a b
          rw [F'.1.1 12 0 a rfl]
        rw [this]
    · rw [if_neg hk]
      have hk30 : k < 30 := by omega
      have step : ∀ g1, Lp (pX [] [11, 12]) h g1 → (∀ j, m_gi g1 11 0 j = if j < k + 1 ∧ m_gi h 11 0 j = nI t then nI m else m_gi h 11 0 j) → (∀ j, m_gi g1 12 0 j = if j < k then npF (m_gi h 12 0 j) t m else m_gi h 12 0 j) →
          ∃ g', f_X7_makeAlias_27 (f_X7_makeAlias_2 n) (21, 0) (nI t) (nI m) (nI k) g1 = m_rt g' none ∧ Lp (pX [] [11, 12, 13]) h g' ∧ (∀ j, m_gi g' 11 0 j = if j = t ∨ (j < Tn ∧ m_gi h 11 0 j = nI t) then nI m else m_gi h 11 0 j) ∧ (∀ j, m_gi g' 12 0 j = if j = t then 0 else if j < Tn then npF (m_gi h 12 0 j) t m else m_gi h 12 0 j) ∧
          ∀ a b, a < 30 → b < 32 → (bt (m_gi g' 13 0 a) b = true ↔ Relation.TransGen (fun a b => a < 30 ∧ bt (m_gi g' 12 0 a) b = true) a b) := fun g1 F1 j1 j2 => by
        have H1 : ShC g1 := H.frm F1.1
        have x1 : m_gi g1 12 0 k = m_gi h 12 0 k := by rw [j2, if_neg (by omega)]
        have w1 : ∀ {x : Int32} {i : Nat} {g2 : am_H}, f_X10_with x (nI i) 0 g2 = m_ri g2 (wi x i false) := c_with (b := false)
        have w2 : ∀ {x : Int32} {i : Nat} {g2 : am_H}, f_X10_with x (nI i) 1 g2 = m_ri g2 (wi x i true) := c_with (b := true)
        simp only [f_X7_makeAlias_27, gR_21, pc_par H1, aI_12 hk30, x1, c_has (show t < 32 by omega), bJ_ri, w1, w2, sI_12 hk30, f_X7_makeAlias_62, nI_1, bI_eq0]
        by_cases hb : bt (m_gi h 12 0 k) t = true
        · rw [if_neg (by rw [hb]; simp)]
          refine c_mk2 H e0 hT hR ht hm n (k + 1) _ (by omega) (by omega) (F1.si (s := 12) (k := 0) (j := k) rfl) (fun j => j1 j) (fun j => ?_)
          rw [gi_upJ]
          by_cases e : j = k
          · subst e; rw [if_pos rfl, if_pos (by omega), npF, if_pos hb]
          · rw [if_neg e, j2]
            have : (j < k + 1) = (j < k) := propext (by omega)
            simp only [this]
        · rw [if_pos (by simpa using hb)]
          refine c_mk2 H e0 hT hR ht hm n (k + 1) _ (by omega) (by omega) F1 j1 (fun j => ?_)
          rw [j2]
          by_cases e : j = k
          · subst e; rw [if_neg (by omega), if_pos (by omega), npF, if_neg hb]
          · have : (j < k + 1) = (j < k) := propext (by omega)
            simp only [this]
      have y1 : m_gi g 11 0 k = m_gi h 11 0 k := by rw [i1, if_neg (fun z => by omega)]
      simp only [gR_21, pc_mean H', aI_11 hk30, sI_11 hk30, y1]
      by_cases ht' : m_gi h 11 0 k = nI t
      · rw [if_pos ht']
        refine step _ (F.si (s := 11) (k := 0) (j := k) rfl) (fun j => ?_) (fun j => i2 j)
        rw [gi_upJ]
        by_cases e : j = k
        · subst e; rw [if_pos rfl, if_pos ⟨by omega, ht'⟩]
        · rw [if_neg e, i1]
          have : (j < k + 1) = (j < k) := propext (by omega)
          simp only [this]
      · rw [if_neg ht']
        refine step _ F (fun j => ?_) i2
        rw [i1]
        by_cases e : j = k
        · subst e; rw [if_neg (fun z => ht' z.2), if_neg (fun z => ht' z.2)]
        · have : (j < k + 1) = (j < k) := propext (by omega)
          simp only [this]
theorem c_makeAlias (H : ShC h) (e0 : m_gi h 21 0 0 = nI Tn) (hT : Tn ≤ 30) (hR : ∀ a b, a < 30 → bt (m_gi h 12 0 a) b = true → a < Tn) {t m : Nat} (ht : t < Tn) (hm : m < Tn) :
    ∃ g', f_X7_makeAlias (21, 0) (nI t) (nI m) h = m_rt g' none ∧ Lp (pX [] [11, 12, 13]) h g' ∧ (∀ j, m_gi g' 11 0 j = if j = t ∨ (j < Tn ∧ m_gi h 11 0 j = nI t) then nI m else m_gi h 11 0 j) ∧ (∀ j, m_gi g' 12 0 j = if j = t then 0 else if j < Tn then npF (m_gi h 12 0 j) t m else m_gi h 12 0 j) ∧
      ∀ a b, a < 30 → b < 32 → (bt (m_gi g' 13 0 a) b = true ↔ Relation.TransGen (fun a b => a < 30 ∧ bt (m_gi g' 12 0 a) b = true) a b) := by
  obtain ⟨g, r, q⟩ := c_mk2 H e0 hT hR ht hm 5000 0 h (by omega) (by omega) (Lp.refl _ _) (fun j => by rw [if_neg (fun z => by omega)]) (fun j => by rw [if_neg (by omega)])
  rw [nI_0] at r
  refine ⟨g, ?_, q⟩
  rw [f_X7_makeAlias]
  exact r
theorem r_mg (G : ShM h) (e : m_gi h 70 0 20 = nI Tn) (hT : Tn ≤ 30) {W : Nat} (eW : m_gi h 70 0 4 = nI W) (hW : W ≤ 20) {t m : Nat} (ht : t < Tn) (x4 : Int32) : ∀ (n k : Nat) (g : am_H), k ≤ Tn → Tn < k + n → Lp (pX [] [48, 49]) h g →
    (∀ j, m_gi g 48 0 j = if j < k ∧ m_gi h 47 0 j = 2 ∧ m_gi h 48 0 j = nI t then nI m else m_gi h 48 0 j) → (∀ j, m_gi g 49 0 j = if j < k then npF (m_gi h 49 0 j) t m else m_gi h 49 0 j) →
    ∃ g', f_X11_merge_108 n (70, 0) (nI t) (nI m) x4 (nI k) g = m_ri g' x4 ∧ Lp (pX [] [42, 47, 48, 49]) h g' ∧ (∀ j, m_gi g' 42 0 j = if j < W then bI (wtP h j) else m_gi h 42 0 j) ∧ (∀ j, m_gi g' 47 0 j = if j = t then 2 else m_gi h 47 0 j) ∧ (∀ j, m_gi g' 48 0 j = if j = t ∨ (j < Tn ∧ m_gi h 47 0 j = 2 ∧ m_gi h 48 0 j = nI t) then nI m else m_gi h 48 0 j) ∧ (∀ j, m_gi g' 49 0 j = if j = t then 0 else if j < Tn then npF (m_gi h 49 0 j) t m else m_gi h 49 0 j)
  | 0, k, g, h1, h2, _, _, _ => by omega
  | n + 1, k, g, h1, h2, F, i1, i2 => by
    have G' : ShM g := G.frm F.1
    have e' : m_gi g 70 0 20 = nI Tn := (F.1.1 70 0 20 rfl).trans e
    rw [f_X11_merge_108]
    simp only [gI_70, e', i_le (show Tn < 10000 by omega) (show k < 10000 by omega)]
    by_cases hk : Tn ≤ k
    · rw [if_pos hk]
      have hkT : k = Tn := by omega
      have Fa : Lp (pX [] [47, 48, 49]) h (m_si (m_si (m_si g 47 0 t 2) 48 0 t (nI m)) 49 0 t 0) := ((F.up.si (s := 47) (k := 0) (j := t) rfl).si (s := 48) (k := 0) (j := t) rfl).si (s := 49) (k := 0) (j := t) rfl
      obtain ⟨g', r, F', w⟩ := r_letsWait (h := (m_si (m_si (m_si g 47 0 t 2) 48 0 t (nI m)) 49 0 t 0)) (W := W) (G.frm Fa.1) ((Fa.1.1 70 0 4 rfl).trans eW) hW
      refine ⟨g', ?_, Fa.up.trans F'.up, fun j => ?_, fun j => ?_, fun j => ?_, fun j => ?_⟩
      · simp only [gR_70, pm_21 G', sI_47 (show t < 30 by omega), gr_si, pm_22 G', sI_48 (show t < 30 by omega), pm_23 G', sI_49 (show t < 30 by omega), ao_70, r, bV_rt]
      · rw [w]
        have q1 : wtP (m_si (m_si (m_si g 47 0 t 2) 48 0 t (nI m)) 49 0 t 0) j = wtP h j := by
          unfold wtP
          rw [Fa.1.1 42 0 j rfl, Fa.1.1 40 0 j rfl]
        rw [q1, Fa.1.1 42 0 j rfl]
      · rw [F'.1.1 47 0 j rfl]
        show m_gi (m_si g 47 0 t 2) 47 0 j = _
        rw [gi_upJ, F.1.1 47 0 j rfl]
      · rw [F'.1.1 48 0 j rfl]
        show m_gi (m_si (m_si g 47 0 t 2) 48 0 t (nI m)) 48 0 j = _
        rw [gi_upJ]
        by_cases a : j = t
        · rw [if_pos a, if_pos (Or.inl a)]
        · rw [if_neg a]
          show m_gi g 48 0 j = _
          rw [i1, hkT]
          by_cases b : j < Tn ∧ m_gi h 47 0 j = 2 ∧ m_gi h 48 0 j = nI t
          · rw [if_pos b, if_pos (Or.inr b)]
          · rw [if_neg b, if_neg (fun z => z.elim a b)]
      · rw [F'.1.1 49 0 j rfl, gi_upJ]
        split
        · rfl
        · show m_gi g 49 0 j = _
          rw [i2, hkT]
    · rw [if_neg hk]
      have hk30 : k < 30 := by omega
      have x47 : m_gi g 47 0 k = m_gi h 47 0 k := F.1.1 47 0 k rfl
      have x48 : m_gi g 48 0 k = m_gi h 48 0 k := by rw [i1, if_neg (fun z => by omega)]
      have x49 : m_gi g 49 0 k = m_gi h 49 0 k := by rw [i2, if_neg (by omega)]
      have step : ∀ v : Int32, v = (if m_gi h 47 0 k = 2 ∧ m_gi h 48 0 k = nI t then nI m else m_gi h 48 0 k) →
          ∃ g', f_X11_merge_156 (f_X11_merge_108 n) (70, 0) (nI t) (nI m) x4 (nI k) v (nI k) (some (48, 0)) g = m_ri g' x4 ∧ Lp (pX [] [42, 47, 48, 49]) h g' ∧ (∀ j, m_gi g' 42 0 j = if j < W then bI (wtP h j) else m_gi h 42 0 j) ∧ (∀ j, m_gi g' 47 0 j = if j = t then 2 else m_gi h 47 0 j) ∧ (∀ j, m_gi g' 48 0 j = if j = t ∨ (j < Tn ∧ m_gi h 47 0 j = 2 ∧ m_gi h 48 0 j = nI t) then nI m else m_gi h 48 0 j) ∧ (∀ j, m_gi g' 49 0 j = if j = t then 0 else if j < Tn then npF (m_gi h 49 0 j) t m else m_gi h 49 0 j) := fun v hv => by
        have fin : ∀ y : Int32, y = npF (m_gi h 49 0 k) t m →
            ∃ g', f_X11_merge_108 n (70, 0) (nI t) (nI m) x4 (nI (k + 1)) (m_si (m_si g 48 0 k v) 49 0 k y) = m_ri g' x4 ∧ Lp (pX [] [42, 47, 48, 49]) h g' ∧ (∀ j, m_gi g' 42 0 j = if j < W then bI (wtP h j) else m_gi h 42 0 j) ∧ (∀ j, m_gi g' 47 0 j = if j = t then 2 else m_gi h 47 0 j) ∧ (∀ j, m_gi g' 48 0 j = if j = t ∨ (j < Tn ∧ m_gi h 47 0 j = 2 ∧ m_gi h 48 0 j = nI t) then nI m else m_gi h 48 0 j) ∧ (∀ j, m_gi g' 49 0 j = if j = t then 0 else if j < Tn then npF (m_gi h 49 0 j) t m else m_gi h 49 0 j) := fun y hy => by
          refine r_mg G e hT eW hW ht x4 n (k + 1) _ (by omega) (by omega) ((F.si (s := 48) (k := 0) (j := k) rfl).si (s := 49) (k := 0) (j := k) rfl) (fun j => ?_) (fun j => ?_)
          · show m_gi (m_si g 48 0 k v) 48 0 j = _
            rw [gi_upJ]
            by_cases q : j = k
            · subst q
              rw [if_pos rfl, hv]
              by_cases b : m_gi h 47 0 j = 2 ∧ m_gi h 48 0 j = nI t
              · rw [if_pos b, if_pos ⟨by omega, b⟩]
              · rw [if_neg b, if_neg (fun z => b z.2)]
            · rw [if_neg q, i1]
              have : (j < k + 1) = (j < k) := propext (by omega)
              simp only [this]
          · rw [gi_upJ]
            by_cases q : j = k
            · subst q; rw [if_pos rfl, if_pos (by omega), hy]
            · rw [if_neg q]
              show m_gi g 49 0 j = _
              rw [i2]
              have : (j < k + 1) = (j < k) := propext (by omega)
              simp only [this]
        simp only [f_X11_merge_156, sI_48 hk30, gR_70, gr_si, pm_23 G', aI_49 hk30, gi_ne (show 49 ≠ 48 by decide), x49, r_has (show t < 32 by omega), bI_ri, bI_eq0, f_X11_merge_204, sI_49 hk30, nI_1, one_eq, wi_f, wi_t]
        by_cases hb : bt (m_gi h 49 0 k) t = true
        · rw [if_neg (by rw [hb]; simp)]
          exact fin _ (by rw [npF, if_pos hb])
        · rw [if_pos (by simpa using hb)]
          exact fin _ (by rw [npF, if_neg hb])
      simp only [gR_70, pm_22 G', pm_21 G', aI_47 hk30, aI_48 hk30, x47, x48, f_X11_merge_149]
      by_cases a : m_gi h 47 0 k = 2
      · rw [if_pos a]
        by_cases b : m_gi h 48 0 k = nI t
        · rw [if_pos b]; exact step _ (by rw [if_pos ⟨a, b⟩])
        · rw [if_neg b]; exact step _ (by rw [if_neg (fun z => b z.2)])
      · rw [if_neg a]; exact step _ (by rw [if_neg (fun z => a z.1)])
theorem r_merge108 (G : ShM h) (e : m_gi h 70 0 20 = nI Tn) (hT : Tn ≤ 30) {W : Nat} (eW : m_gi h 70 0 4 = nI W) (hW : W ≤ 20) {t m : Nat} (ht : t < Tn) (x4 : Int32) :
    ∃ g', f_X11_merge_108 5000 (70, 0) (nI t) (nI m) x4 0 h = m_ri g' x4 ∧ Lp (pX [] [42, 47, 48, 49]) h g' ∧ (∀ j, m_gi g' 42 0 j = if j < W then bI (wtP h j) else m_gi h 42 0 j) ∧ (∀ j, m_gi g' 47 0 j = if j = t then 2 else m_gi h 47 0 j) ∧ (∀ j, m_gi g' 48 0 j = if j = t ∨ (j < Tn ∧ m_gi h 47 0 j = 2 ∧ m_gi h 48 0 j = nI t) then nI m else m_gi h 48 0 j) ∧ (∀ j, m_gi g' 49 0 j = if j = t then 0 else if j < Tn then npF (m_gi h 49 0 j) t m else m_gi h 49 0 j) := by
  obtain ⟨g, r, q⟩ := r_mg G e hT eW hW (m := m) ht x4 5000 0 h (by omega) (by omega) (Lp.refl _ _) (fun j => by rw [if_neg (fun z => by omega)]) (fun j => by rw [if_neg (by omega)])
  rw [nI_0] at r
  exact ⟨g, r, q⟩
end Merge
