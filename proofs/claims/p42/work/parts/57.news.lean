/-! ## news -/
theorem max_eq (a b : Int32) : m_max a b = if a ≤ b then b else a := by
  unfold m_max
  by_cases h2 : a < b
  · rw [if_pos h2, if_pos (Int32.le_of_lt h2)]
  · rw [if_neg h2]
    by_cases h1 : a ≤ b
    · rw [if_pos h1]; exact Int32.le_antisymm h1 (Int32.not_lt.mp h2)
    · rw [if_neg h1]
theorem lt_min {x a b : Int32} : (x < m_min a b) ↔ x < a ∧ x < b := by
  unfold m_min
  by_cases h1 : b < a
  · rw [if_pos h1]
    exact ⟨fun z => ⟨Int32.lt_trans z h1, z⟩, fun z => z.2⟩
  · rw [if_neg h1]
    exact ⟨fun z => ⟨z, Int32.lt_of_lt_of_le z (Int32.not_lt.mp h1)⟩, fun z => z.1⟩
def outD (h : am_H) (w c : Nat) : Int32 := if m_gi h 36 0 (8 * w + c) ≤ m_gi h 37 0 w then m_gi h 37 0 w else m_gi h 36 0 (8 * w + c)
def hitP (x v : Int32) : Bool := !decide (v = -1) && !decide (x < v)
def nwR (h : am_H) (p w : Nat) (x : Int32) : Nat → Bool
  | 0 => hitP x (m_gi h 66 0 (20 * p + w))
  | n + 1 => nwR h p w x n || (bt (m_gi h 34 0 w) n && toldP h p w && hitP x (m_gi h 67 0 (12 * p + n)))
def nwsP (h : am_H) (p w c : Nat) : Bool := !decide (m_gi h 37 0 w = -1) && seenP h p w && !ownP h p w && decide (m_gi h 68 0 (8 * (20 * p + w) + c) = 0) && nwR h p w (outD h w c) 12
def fdA (h : am_H) (p : Nat) (s : Int32) : Nat → Int32
  | 0 => 2001
  | n + 1 => if bt s n then m_min (fdA h p s n) (m_gi h 6 p n) else fdA h p s n
section News
variable {W Cn : Nat} {h : am_H}
theorem out_le (c : RWc W h) (p : RWp W h) {w : Nat} (hw : w < W) (np : ¬ m_gi h 37 0 w = -1) {n j : Nat} (hn : m_gi h 35 0 w = nI n) (hn8 : n ≤ 8) (hj : j < n) : outD h w j < 2001 ∧ m_gi h 16 w j = m_gi h 36 0 (8 * w + j) := by
  obtain ⟨n', a1, a2, a3, a4⟩ := c.1 w hw
  have e : n' = n := (nI_eq (show n' < 2 ^ 31 by omega) (show n < 2 ^ 31 by omega)).mp (a3.symm.trans hn)
  subst e
  obtain ⟨b1, D, b2, b3⟩ := a4 j hj
  refine ⟨?_, b1⟩
  obtain ⟨_, q⟩ := p w hw
  rcases q with q | ⟨E, q1, q2, _⟩
  · exact absurd q np
  · unfold outD
    rw [b3, q2]
    split
    · exact nI_lt (b := 2001) (by omega) (by decide)
    · exact nI_lt (b := 2001) (by omega) (by decide)
theorem c_fda6 (H : ShC h) {p : Nat} (hp : p < 12) (s : Int32) : ∀ (n k : Nat), k ≤ 12 → 12 < k + n → f_X3_firstDayOfAny_6 n (26, p) s (fdA h p s k) (nI k) h = m_ri h (fdA h p s 12)
  | 0, k, h1, h2 => by omega
  | n + 1, k, h1, h2 => by
    rw [f_X3_firstDayOfAny_6]
    simp only [i12_le (show k < 10000 by omega)]
    by_cases hk : 12 ≤ k
    · rw [if_pos hk, show k = 12 by omega]
    · rw [if_neg hk]
      have ih := c_fda6 H hp s n (k + 1) (by omega) (by omega)
      rw [fdA] at ih
      simp only [c_has (show k < 32 by omega), bJ_ri, bI_eq0, gR_26, pc_pd H hp, aI_6 (show k < 12 by omega), f_X3_firstDayOfAny_31, nI_1]
      cases hb : bt s k
      · rw [hb] at ih; simpa using ih
      · rw [hb] at ih; simpa using ih
theorem c_fda (H : ShC h) {p : Nat} (hp : p < 12) (s : Int32) : f_X3_firstDayOfAny (26, p) s h = m_ri h (fdA h p s 12) := by
  have := c_fda6 H hp s 5000 0 (by omega) (by omega)
  rw [fdA, nI_0] at this
  rw [f_X3_firstDayOfAny]
  exact this
theorem hit_sub {x a b : Int32} (hx : x < 2001) (e : (a = 2001 ∧ b = -1) ∨ ∃ D : Nat, D ≤ 2000 ∧ a = nI D ∧ b = nI D) : hitP x b = !decide (x < a) := by
  unfold hitP
  rcases e with ⟨e1, e2⟩ | ⟨D, hD, e1, e2⟩
  · rw [e1, e2, decide_eq_true hx]; rfl
  · rw [e1, e2, decide_eq_false (nI_m1 (by omega))]; rfl
theorem nw_fd (b : RSb h) {p w : Nat} (hp : p < 12) (hw : w < 20) {x : Int32} (hx : x < 2001) : ∀ n, n ≤ 12 → (!decide (x < m_min (m_gi h 5 p w) (fdA h p (if toldP h p w then m_gi h 34 0 w else 0) n))) = nwR h p w x n
  | 0, _ => by
    rw [fdA, nwR, hit_sub hx (b.1 p w hp hw)]
    congr 1
    rw [Bool.eq_iff_iff, decide_eq_true_eq, decide_eq_true_eq, lt_min]
    exact ⟨fun z => z.1, fun z => ⟨z, hx⟩⟩
  | n + 1, hn => by
    have ih := nw_fd b hp hw hx n (by omega)
    rw [fdA, nwR, ← ih, hit_sub hx (b.2 p n hp (by omega))]
    cases ht : toldP h p w
    · simp [b_0]
    · simp only [if_true, Bool.and_true]
      cases hb : bt (m_gi h 34 0 w) n
      · simp
      · simp only [if_true, Bool.true_and]
        rw [Bool.eq_iff_iff, Bool.or_eq_true]
        simp only [Bool.not_eq_true', decide_eq_false_iff_not, lt_min]
        grind
theorem setOf_false : ∀ n, setOf (fun _ => false) n = 0
  | 0 => rfl
  | n + 1 => by
    rw [setOf, setOf_false n]
    apply b_ext
    intro i hi
    show bt (0 &&& _) i = _
    rw [b_and, b_0, Bool.false_and]
theorem c_cof4 (H : ShC h) (N : RWn W h) (pp : RWp W h) (c : RWc W h) {w : Nat} (hw : w < W) {C : Nat} (hC : m_gi h 35 0 w = nI C) (hC8 : C ≤ 8) (np : ¬ m_gi h 37 0 w = -1) (x : Int32) : ∀ (n k : Nat), k ≤ C → C < k + n → f_X9_chaptersOutFrom_4 n (27, w) x (setOf (fun j => !decide (outD h w j < x)) k) (nI k) h = m_ri h (setOf (fun j => !decide (outD h w j < x)) C)
  | 0, k, h1, h2 => by omega
  | n + 1, k, h1, h2 => by
    obtain ⟨n', a1, a2, a3, a4⟩ := c.1 w hw
    rw [f_X9_chaptersOutFrom_4]
    simp only [gI_27, a2.trans (a3.symm.trans hC), i_le (show C < 10000 by omega) (show k < 10000 by omega)]
    by_cases hk : C ≤ k
    · rw [if_pos hk, show k = C by omega]
    · rw [if_neg hk]
      have hk2 : k < C := by omega
      have ih := c_cof4 H N pp c hw hC hC8 np x n (k + 1) (by omega) (by omega)
      rw [setOf] at ih
      have o := (out_le c pp hw np hC hC8 hk2).2
      have w0 : ∀ {x : Int32} {i : Nat} {g2 : am_H}, f_X10_with x (nI i) 0 g2 = m_ri g2 (wi x i false) := c_with (b := false)
      have w1 : ∀ {x : Int32} {i : Nat} {g2 : am_H}, f_X10_with x (nI i) 1 g2 = m_ri g2 (wi x i true) := c_with (b := true)
      simp only [ao_27, f_X9_outDay, gR_27, (N.2.2.2.2.2 w hw).2, aI_16 (show k < 8 by omega), o, gI_27, (pp w hw).1, max_eq, bI_ri, f_X9_chaptersOutFrom_28, w0, w1, bJ_ri, nI_1]
      rw [show (if m_gi h 36 0 (8 * w + k) ≤ m_gi h 37 0 w then m_gi h 37 0 w else m_gi h 36 0 (8 * w + k)) = outD h w k from rfl]
      by_cases q : outD h w k < x
      · rw [if_pos q]; rw [decide_eq_true q] at ih; exact ih
      · rw [if_neg q]; rw [decide_eq_false q] at ih; exact ih
theorem c_cof (H : ShC h) (N : RWn W h) (pp : RWp W h) (c : RWc W h) {w : Nat} (hw : w < W) {C : Nat} (hC : m_gi h 35 0 w = nI C) (hC8 : C ≤ 8) (np : ¬ m_gi h 37 0 w = -1) (x : Int32) : f_X9_chaptersOutFrom (27, w) x h = m_ri h (setOf (fun j => !decide (outD h w j < x)) C) := by
  have := c_cof4 H N pp c hw hC hC8 np x 5000 0 (by omega) (by omega)
  rw [setOf, nI_0] at this
  rw [f_X9_chaptersOutFrom]
  exact this
theorem c_newChapters (H : ShC h) (N : RWn W h) (e69 : m_gi h 69 0 0 = m_gi h 70 0 1) (a : RWa W h) (pp : RWp W h) (l : RWl W h) (o : RWo W Cn h) (C : RCo Cn h) (c : RWc W h) (b : RSb h) {p w n : Nat} (hp : p < 12) (hw : w < W) (hn : m_gi h 35 0 w = nI n) (hn8 : n ≤ 8)
    (dg : ∀ j, j < 8 → m_gi h 68 0 (8 * (20 * p + w) + j) = bI (bt (m_gi h 7 p w) j)) : f_X10_newChapters (69, 0) (nI p) (nI w) h = m_ri h (setOf (nwsP h p w) n) := by
  have h20 : w < 20 := Nat.lt_of_lt_of_le hw N.1
  have hp32 : p < 32 := by omega
  have z0 : ∀ b1 : Bool, b1 = true → (∀ j, nwsP h p w j = false) → setOf (nwsP h p w) n = 0 := fun _ _ q => by
    rw [show nwsP h p w = fun _ => false from funext q, setOf_false]
  simp only [f_X10_newChapters_42, f_X10_newChapters, gR_69, pc_works H, aR_19 h20, (N.2.2.2.2.2 w hw).1, pc_people H, aR_18 hp, pc_per H hp, ao_27, c_isPosted pp hw, bI_ri, bI_eq0, gI_69, e69, c_isSeenBy a pp l o C hw hp32, c_isOwnedBy a hw hp32, gR_26, pc_wd H hp, aI_5 h20, c_ownersToldTo a pp l o C hw hp32, ao_26, c_fda H hp, pc_dg H hp, aI_7 h20]
  by_cases np : m_gi h 37 0 w = -1
  · rw [decide_eq_true np]
    simp only [Bool.not_true, if_true]
    rw [z0 true rfl (fun j => by unfold nwsP; rw [decide_eq_true np]; rfl)]
  · rw [decide_eq_false np]
    simp only [Bool.not_false, Bool.true_eq_false, if_false]
    cases hs : seenP h p w
    · simp only [if_true]
      rw [z0 true rfl (fun j => by unfold nwsP; rw [hs, Bool.and_false]; rfl)]
    · simp only [Bool.true_eq_false, if_false]
      cases ho : ownP h p w
      · simp only [if_true]
        rw [c_cof H N pp c hw hn hn8 np, bI_ri]
        simp only [pc_dg H hp, aI_7 h20]
        congr 1
        apply b_ext
        intro i hi
        rw [b_and, bt_not _ hi, bt_setOf _ (by omega) hi, bt_setOf _ (by omega) hi]
        by_cases hin : i < n
        · rw [decide_eq_true hin, Bool.true_and, Bool.true_and, nw_fd b hp h20 (out_le c pp hw np hn hn8 hin).1 12 (Nat.le_refl _)]
          unfold nwsP
          rw [decide_eq_false np, hs, ho, dg i (by omega)]
          cases bt (m_gi h 7 p w) i <;> cases nwR h p w (outD h w i) 12 <;> rfl
        · rw [decide_eq_false hin]; rfl
      · simp only [Bool.true_eq_false, if_false]
        rw [z0 true rfl (fun j => by unfold nwsP; rw [ho]; simp)]
theorem r_outDay (G : ShM h) {w c : Nat} (hw : w < 20) (hc : c < 8) : f_X11_outDay (70, 0) (nI w) (nI c) h = m_ri h (outD h w c) := by
  have m : (8 : Int32) * nI w + nI c = nI (8 * w + c) := by
    show nI 8 * nI w + nI c = _
    rw [pk_mul, nI_add]
  simp only [f_X11_outDay_32, f_X11_outDay, gR_70, pm_8 G, m, aI_36 (show 8 * w + c < 160 by omega), pm_9 G, aI_37 hw, outD]
  split <;> rfl
theorem r_nw93 (G : ShM h) (a : RWa W h) (o : RWo W Cn h) (C : RCo Cn h) {p w : Nat} (hp : p < 12) (hw : w < W) (h20 : w < 20) (x : Int32) : ∀ (n k : Nat), k ≤ 12 → 12 < k + n → f_X11_isNews_93 n (70, 0) (nI p) (nI w) x (bI (nwR h p w x k)) (nI k) h = m_ri h (bI (nwR h p w x 12))
  | 0, k, h1, h2 => by omega
  | n + 1, k, h1, h2 => by
    rw [f_X11_isNews_93]
    simp only [i12_le (show k < 10000 by omega), rz_bI]
    by_cases hk : 12 ≤ k
    · rw [if_pos hk, show k = 12 by omega]
    · rw [if_neg hk]
      have hk2 : k < 12 := by omega
      have m : (12 : Int32) * nI p + nI k = nI (12 * p + k) := by
        show nI 12 * nI p + nI k = _
        rw [pk_mul, nI_add]
      have ih := r_nw93 G a o C hp hw h20 x n (k + 1) (by omega) (by omega)
      rw [nwR] at ih
      have ih0 : ∀ v : Bool, v = (nwR h p w x k || (bt (m_gi h 34 0 w) k && toldP h p w && hitP x (m_gi h 67 0 (12 * p + k)))) → f_X11_isNews_93 n (70, 0) (nI p) (nI w) x (bI v) (nI (k + 1)) h = m_ri h (bI (nwR h p w x 12)) := fun v hv => by rw [hv]; exact ih
      have i1 := ih0 true
      have i0 := ih0 false
      rw [bI_t] at i1
      rw [bI_f] at i0
      simp only [gR_70, pm_6 G, aI_34 h20, r_has (show k < 32 by omega), bI_ri, bI_eq0, ao_70, r_areTold G a o C hw h20 (show p < 32 by omega), pm_45 G, m, aI_67 (show 12 * p + k < 144 by omega), f_X11_isNews_164, f_X11_isNews_163, f_X11_isNews_159, f_X11_isNews_139, f_X11_isNews_138, nI_1, if_true]
      cases h1 : bt (m_gi h 34 0 w) k <;> cases h2 : toldP h p w <;> cases h3 : nwR h p w x k <;> by_cases h4 : m_gi h 67 0 (12 * p + k) = -1 <;> by_cases h5 : x < m_gi h 67 0 (12 * p + k) <;> simp [h1, h2, h3, h4, h5, hitP] at i1 i0 ⊢ <;> first | exact i1 | exact i0
theorem r_nw (G : ShM h) (a : RWa W h) (o : RWo W Cn h) (C : RCo Cn h) {p w : Nat} (hp : p < 12) (hw : w < W) (h20 : w < 20) (x : Int32) : f_X11_isNews_93 5000 (70, 0) (nI p) (nI w) x (bI (hitP x (m_gi h 66 0 (20 * p + w)))) 0 h = m_ri h (bI (nwR h p w x 12)) := by
  have := r_nw93 G a o C hp hw h20 x 5000 0 (by omega) (by omega)
  rw [nwR, nI_0] at this
  exact this
theorem r_isNews (G : ShM h) (a : RWa W h) (o : RWo W Cn h) (C : RCo Cn h) {p w c : Nat} (hp : p < 12) (hw : w < W) (h20 : w < 20) (hc : c < 8) : f_X11_isNews (70, 0) (nI p) (nI w) (nI c) h = m_ri h (bI (nwsP h p w c)) := by
  have m1 : (20 : Int32) * nI p + nI w = nI (20 * p + w) := by
    show nI 20 * nI p + nI w = _
    rw [pk_mul, nI_add]
  have m2 : (8 : Int32) * nI (20 * p + w) + nI c = nI (8 * (20 * p + w) + c) := by
    show nI 8 * nI (20 * p + w) + nI c = _
    rw [pk_mul, nI_add]
  have k := r_nw G a o C hp hw h20 (outD h w c)
  have k0 : ∀ v : Bool, v = hitP (outD h w c) (m_gi h 66 0 (20 * p + w)) → f_X11_isNews_93 5000 (70, 0) (nI p) (nI w) (outD h w c) (bI v) 0 h = m_ri h (bI (nwR h p w (outD h w c) 12)) := fun v hv => by rw [hv]; exact k
  have k1 := k0 true
  have k2 := k0 false
  rw [bI_t] at k1
  rw [bI_f] at k2
  have hx : hitP (outD h w c) (m_gi h 66 0 (20 * p + w)) = (!decide (m_gi h 66 0 (20 * p + w) = -1) && !decide (outD h w c < m_gi h 66 0 (20 * p + w))) := rfl
  rw [f_X11_isNews, gR_70, pm_9 G, aI_37 h20]
  by_cases np : m_gi h 37 0 w = -1
  · rw [if_pos np, f_X11_isNews_47, rz_0]
    unfold nwsP
    rw [decide_eq_true np]; rfl
  · rw [if_neg np, ao_70, r_isSeen G a o C hw h20 (show p < 32 by omega), bI_ri]
    cases hs : seenP h p w
    · rw [bI_f, if_pos rfl, f_X11_isNews_47, rz_0]
      unfold nwsP
      rw [hs, Bool.and_false]; rfl
    · rw [bI_t, if_neg (by decide), ao_70, r_isOwner G a hw h20 (show p < 32 by omega), bI_ri]
      cases ho : ownP h p w
      · rw [bI_f, if_pos rfl, gR_70, pm_46 G, m1, m2, aI_68 (show 8 * (20 * p + w) + c < 1920 by omega)]
        by_cases hd : m_gi h 68 0 (8 * (20 * p + w) + c) = 0
        · rw [if_pos hd, ao_70, r_outDay G h20 hc, bI_ri, gR_70, pm_44 G, aI_66 (show 20 * p + w < 240 by omega)]
          have fin : nwsP h p w c = nwR h p w (outD h w c) 12 := by
            unfold nwsP
            rw [decide_eq_false np, hs, ho, decide_eq_true hd]; rfl
          rw [fin]
          by_cases h1 : m_gi h 66 0 (20 * p + w) = -1
          · rw [if_pos h1, f_X11_isNews_87, f_X11_isNews_88]
            exact k2 (by rw [hx, decide_eq_true h1]; rfl)
          · rw [if_neg h1]
            by_cases h2 : outD h w c < m_gi h 66 0 (20 * p + w)
            · rw [if_pos h2, f_X11_isNews_87, f_X11_isNews_88]
              exact k2 (by rw [hx, decide_eq_true h2, Bool.not_true, Bool.and_false])
            · rw [if_neg h2, f_X11_isNews_88]
              exact k1 (by rw [hx, decide_eq_false h1, decide_eq_false h2]; rfl)
        · rw [if_neg hd, f_X11_isNews_47, rz_0]
          unfold nwsP
          rw [decide_eq_false hd]; simp; rfl
      · rw [bI_t, if_neg (by decide), f_X11_isNews_47, rz_0]
        unfold nwsP
        rw [ho]; simp; rfl
end News
