/-! ## the two as they are made -/
def Bd (h : am_H) (g : Nat → Nat → Int32) (L M : List Nat) (P : List (Nat × Nat × Nat)) (c s : Nat) : Prop := (∀ a ∈ L, m_nx h a = 0) ∧ (∀ a ∈ M, ∀ j, m_gi h a 0 j = 0) ∧ m_gi h 1 = g ∧ (∀ q ∈ P, m_gr h q.1 0 q.2.1 = some (q.2.2, 0)) ∧ m_nc h = c ∧ m_ns h = s
theorem Bd.al {h : am_H} {g : Nat → Nat → Int32} {L M : List Nat} {P : List (Nat × Nat × Nat)} {c s t n : Nat} (B : Bd h g (t :: L) M P c s) (h1 : t ≠ 1) (hL : t ∉ L) (hP : ∀ q ∈ P, q.1 ≠ t) : Bd (m_al h t n) g L (t :: M) P (c + 1) (s + n) := by
  obtain ⟨b1, b2, b3, b4, b5, b6⟩ := B
  refine ⟨fun a ha => ?_, fun a ha j => ?_, ?_, fun q hq => ?_, ?_, ?_⟩
  · rw [nx_al (fun z => by rw [z] at ha; exact hL ha)]; exact b1 a (List.mem_cons_of_mem _ ha)
  · rw [m_gi_al]
    by_cases e : a = t
    · rw [if_pos ⟨e, (b1 t List.mem_cons_self).symm⟩]
    · rw [if_neg (fun z => e z.1)]
      rcases List.mem_cons.mp ha with z | z
      · exact absurd z e
      · exact b2 a z j
  · rw [gi_al (fun z => h1 z.symm)]; exact b3
  · rw [gr_al (hP q hq)]; exact b4 q hq
  · rw [nc_al, b5]
  · rw [ns_al, b6]
theorem Bd.sr {h : am_H} {g : Nat → Nat → Int32} {L M : List Nat} {P : List (Nat × Nat × Nat)} {c s : Nat} (B : Bd h g L M P c s) (o j t : Nat) (hP : ∀ q ∈ P, ¬ (q.1 = o ∧ q.2.1 = j)) : Bd (m_sr h o 0 j (some (t, 0))) g L M ((o, j, t) :: P) c s := by
  obtain ⟨b1, b2, b3, b4, b5, b6⟩ := B
  refine ⟨b1, b2, b3, fun q hq => ?_, b5, b6⟩
  rw [m_gr_sr]
  rcases List.mem_cons.mp hq with z | z
  · rw [z, if_pos ⟨rfl, rfl, rfl⟩]
  · rw [if_neg (fun y => hP q z ⟨y.1, y.2.2⟩)]; exact b4 q z
theorem new0 {h : am_H} {g : Nat → Nat → Int32} {L M : List Nat} {P : List (Nat × Nat × Nat)} {c s t n : Nat} (B : Bd h g (t :: L) M P c s) {K : Nat × Nat → am_H → am_R} : m_new t n h K = K (t, 0) (m_al h t n) := by
  rw [new_eq, B.1 t List.mem_cons_self]
def PAf (a _ : Nat) : Bool := Nat.blt a 31 || Nat.beq a 69
theorem PAf_le {A : List Nat} (hA : ∀ x ∈ A, 31 ≤ x ∧ x ≠ 69) (a j : Nat) (h : PAf a j = true) : pX [] A a j = true := by
  have q : a < 31 ∨ a = 69 := by
    unfold PAf at h
    rw [Bool.or_eq_true] at h
    rcases h with h | h
    · exact Or.inl (Nat.le_of_ble_eq_true h)
    · exact Or.inr (Nat.eq_of_beq_eq_true h)
  have n1 : ((1000 :: A).contains a) = false := by
    rw [Bool.eq_false_iff]
    intro z
    rw [List.contains_iff_mem] at z
    rcases List.mem_cons.mp z with z | z
    · omega
    · have := hA a z; omega
  have n2 : (((70, 0) :: ([] : List (Nat × Nat))).contains (a, j)) = false := by
    rw [Bool.eq_false_iff]
    intro z
    rw [List.contains_iff_mem] at z
    rcases List.mem_cons.mp z with z | z
    · have := congrArg Prod.fst z
      simp only at this
      omega
    · cases z
  unfold pX
  rw [n1, n2]; rfl
theorem c_i0 {h1 : am_H} {g : Nat → Nat → Int32} (b0 : Bd h1 g (17 :: 18 :: 19 :: 20 :: 21 :: 11 :: 12 :: 13 :: 22 :: 14 :: 15 :: 23 :: 8 :: 9 :: 10 :: 24 :: 2 :: 3 :: 4 :: 25 :: 26 :: 5 :: 6 :: 7 :: 70 :: 31 :: 32 :: 33 :: 34 :: 35 :: 36 :: 37 :: 38 :: 39 :: 40 :: 41 :: 42 :: 43 :: 44 :: 45 :: 46 :: 47 :: 48 :: 49 :: 50 :: 51 :: 52 :: 53 :: 54 :: 55 :: 56 :: 57 :: 58 :: 59 :: 60 :: 61 :: 62 :: 63 :: 64 :: 65 :: 66 :: 67 :: 68 :: 71 :: 27 :: 16 :: 28 :: 29 :: 30 :: []) [69] [] 1 13) : ∃ hB, f_X10_init (69, 0) h1 = f_X10_init_94 5000 (69, 0) 0 hB ∧ Bd hB g [26, 5, 6, 7, 70, 31, 32, 33, 34, 35, 36, 37, 38, 39, 40, 41, 42, 43, 44, 45, 46, 47, 48, 49, 50, 51, 52, 53, 54, 55, 56, 57, 58, 59, 60, 61, 62, 63, 64, 65, 66, 67, 68, 71, 27, 16, 28, 29, 30] [25, 4, 3, 2, 24, 10, 9, 8, 23, 15, 14, 22, 13, 12, 11, 21, 20, 19, 18, 17, 69] [(69, 11, 25), (69, 10, 24), (24, 3, 4), (24, 2, 3), (24, 0, 2), (69, 9, 23), (23, 2, 10), (23, 1, 9), (23, 0, 8), (69, 8, 22), (22, 2, 15), (22, 0, 14), (69, 7, 21), (21, 3, 13), (21, 2, 12), (21, 1, 11), (69, 5, 20), (69, 3, 19), (69, 2, 18), (69, 1, 17)] 21 768 := by
  have b1 := b0.al (n := 32) (by decide) (by decide) (by decide)
  have b2 := b1.sr 69 1 17 (by decide)
  have b3 := b2.al (n := 12) (by decide) (by decide) (by decide)
  have b4 := b3.sr 69 2 18 (by decide)
  have b5 := b4.al (n := 20) (by decide) (by decide) (by decide)
  have b6 := b5.sr 69 3 19 (by decide)
  have b7 := b6.al (n := 6) (by decide) (by decide) (by decide)
  have b8 := b7.sr 69 5 20 (by decide)
  have b9 := b8.al (n := 4) (by decide) (by decide) (by decide)
  have b10 := b9.al (n := 30) (by decide) (by decide) (by decide)
  have b11 := b10.sr 21 1 11 (by decide)
  have b12 := b11.al (n := 30) (by decide) (by decide) (by decide)
  have b13 := b12.sr 21 2 12 (by decide)
  have b14 := b13.al (n := 30) (by decide) (by decide) (by decide)
  have b15 := b14.sr 21 3 13 (by decide)
  have b16 := b15.sr 69 7 21 (by decide)
  have b17 := b16.al (n := 3) (by decide) (by decide) (by decide)
  have b18 := b17.al (n := 60) (by decide) (by decide) (by decide)
  have b19 := b18.sr 22 0 14 (by decide)
  have b20 := b19.al (n := 5) (by decide) (by decide) (by decide)
  have b21 := b20.sr 22 2 15 (by decide)
  have b22 := b21.sr 69 8 22 (by decide)
  have b23 := b22.al (n := 4) (by decide) (by decide) (by decide)
  have b24 := b23.al (n := 61) (by decide) (by decide) (by decide)
  have b25 := b24.sr 23 0 8 (by decide)
  have b26 := b25.al (n := 61) (by decide) (by decide) (by decide)
  have b27 := b26.sr 23 1 9 (by decide)
  have b28 := b27.al (n := 61) (by decide) (by decide) (by decide)
  have b29 := b28.sr 23 2 10 (by decide)
  have b30 := b29.sr 69 9 23 (by decide)
  have b31 := b30.al (n := 4) (by decide) (by decide) (by decide)
  have b32 := b31.al (n := 8) (by decide) (by decide) (by decide)
  have b33 := b32.sr 24 0 2 (by decide)
  have b34 := b33.al (n := 8) (by decide) (by decide) (by decide)
  have b35 := b34.sr 24 2 3 (by decide)
  have b36 := b35.al (n := 256) (by decide) (by decide) (by decide)
  have b37 := b36.sr 24 3 4 (by decide)
  have b38 := b37.sr 69 10 24 (by decide)
  have b39 := b38.al (n := 60) (by decide) (by decide) (by decide)
  have b40 := b39.sr 69 11 25 (by decide)
  exact ⟨_, by rw [f_X10_init, new0 b0, pR_69, new0 b2, pR_69, new0 b4, pR_69, new0 b6, pR_69, new0 b8, f_X7_init, new0 b9, pR_21, new0 b11, pR_21, new0 b13, pR_21, bW_rt, pR_69, new0 b16, f_X8_init, new0 b17, pR_22, new0 b19, f_X4_init, bW_rt, pR_22, bW_rt, pR_69, new0 b22, f_X5_init, new0 b23, pR_23, new0 b25, pR_23, new0 b27, pR_23, bW_rt, pR_69, new0 b30, f_X2_init, new0 b31, pR_24, new0 b33, pR_24, new0 b35, pR_24, bW_rt, pR_69, new0 b38, pR_69], b40⟩
theorem c_i94 {hB : am_H} (e1 : m_gr hB 69 0 1 = some (17, 0)) : ∀ (n k : Nat) (g : am_H), k ≤ 32 → 32 < k + n → Lp (pX [] [17]) hB g → (∀ j, j < k → m_gi g 17 0 j = one j) →
    ∃ g', f_X10_init_94 n (69, 0) (nI k) g = f_X10_init_117 5000 (69, 0) 0 g' ∧ Lp (pX [] [17]) hB g' ∧ ∀ j, j < 32 → m_gi g' 17 0 j = one j
  | 0, k, g, h1, h2, _, _ => by omega
  | n + 1, k, g, h1, h2, L, V => by
    have i32 : ((32 : Int32) ≤ nI k) = (32 ≤ k) := i_le (a := 32) (by omega) (by omega)
    rw [f_X10_init_94]
    by_cases hk : 32 ≤ k
    · rw [if_pos (show (32 : Int32) ≤ nI k by rw [i32]; exact hk)]
      exact ⟨g, rfl, L, fun j hj => V j (by omega)⟩
    · rw [if_neg (show ¬ (32 : Int32) ≤ nI k by rw [i32]; exact hk), gR_69, (L.1.2.1 69 0 1 rfl).trans e1, sI_17 (show k < 32 by omega), one_eq, nI_1]
      refine c_i94 e1 n (k + 1) _ (by omega) (by omega) (L.si rfl) (fun j hj => ?_)
      rw [gi_upJ]
      by_cases ej : j = k
      · rw [if_pos ej, ej]
      · rw [if_neg ej]; exact V j (by omega)
theorem c_fl5 {p : Nat} : ∀ (n k : Nat) (g : am_H), k ≤ 20 → 20 < k + n → (∀ j, j < k → m_gi g 5 p j = 2001) →
    ∃ g', f_J7_fill_53178_5 n (some (5, p)) 2001 (nI k) (nI 20) g = m_rt g' none ∧ Lp (pX [] [5]) g g' ∧ (∀ j, j < 20 → m_gi g' 5 p j = 2001) ∧ ∀ b, b ≠ p → ∀ j, m_gi g' 5 b j = m_gi g 5 b j
  | 0, k, g, h1, h2, _ => by omega
  | n + 1, k, g, h1, h2, V => by
    have ik : (nI 20 ≤ nI k) = (20 ≤ k) := i_le (by omega) (by omega)
    rw [f_J7_fill_53178_5]
    by_cases hk : 20 ≤ k
    · rw [if_pos (show nI 20 ≤ nI k by rw [ik]; exact hk)]
      exact ⟨g, rfl, Lp.refl _ g, fun j hj => V j (by omega), fun _ _ _ => rfl⟩
    · rw [if_neg (show ¬ nI 20 ≤ nI k by rw [ik]; exact hk), sI_5 (show k < 20 by omega), nI_1]
      obtain ⟨g', a, b, c, d⟩ := c_fl5 (p := p) n (k + 1) (m_si g 5 p k 2001) (by omega) (by omega) (fun j hj => by
        rw [gi_upJ]
        by_cases ej : j = k
        · rw [if_pos ej]
        · rw [if_neg ej]; exact V j (by omega))
      exact ⟨g', a, ((Lp.refl _ g).si rfl).trans b, c, fun b hb j => by rw [d b hb, gi_neK hb]⟩
theorem c_fl6 {p : Nat} : ∀ (n k : Nat) (g : am_H), k ≤ 12 → 12 < k + n → (∀ j, j < k → m_gi g 6 p j = 2001) →
    ∃ g', f_J7_fill_53178_5 n (some (6, p)) 2001 (nI k) (nI 12) g = m_rt g' none ∧ Lp (pX [] [6]) g g' ∧ (∀ j, j < 12 → m_gi g' 6 p j = 2001) ∧ ∀ b, b ≠ p → ∀ j, m_gi g' 6 b j = m_gi g 6 b j
  | 0, k, g, h1, h2, _ => by omega
  | n + 1, k, g, h1, h2, V => by
    have ik : (nI 12 ≤ nI k) = (12 ≤ k) := i_le (by omega) (by omega)
    rw [f_J7_fill_53178_5]
    by_cases hk : 12 ≤ k
    · rw [if_pos (show nI 12 ≤ nI k by rw [ik]; exact hk)]
      exact ⟨g, rfl, Lp.refl _ g, fun j hj => V j (by omega), fun _ _ _ => rfl⟩
    · rw [if_neg (show ¬ nI 12 ≤ nI k by rw [ik]; exact hk), sI_6 (show k < 12 by omega), nI_1]
      obtain ⟨g', a, b, c, d⟩ := c_fl6 (p := p) n (k + 1) (m_si g 6 p k 2001) (by omega) (by omega) (fun j hj => by
        rw [gi_upJ]
        by_cases ej : j = k
        · rw [if_pos ej]
        · rw [if_neg ej]; exact V j (by omega))
      exact ⟨g', a, ((Lp.refl _ g).si rfl).trans b, c, fun b hb j => by rw [d b hb, gi_neK hb]⟩
theorem ln_5 {q : Nat} {K : Int32 → am_R} : m_len (some (5, q)) K = K (nI 20) := rfl
theorem ln_6 {q : Nat} {K : Int32 → am_R} : m_len (some (6, q)) K = K (nI 12) := rfl
theorem c_fill5 {p : Nat} (g : am_H) : ∃ g', f_J7_fill_53178 (some (5, p)) 2001 g = m_rt g' none ∧ Lp (pX [] [5]) g g' ∧ (∀ j, j < 20 → m_gi g' 5 p j = 2001) ∧ ∀ b, b ≠ p → ∀ j, m_gi g' 5 b j = m_gi g 5 b j := by
  have := c_fl5 (p := p) 5000 0 g (by omega) (by omega) (fun j hj => by omega)
  rw [nI_0] at this
  rw [f_J7_fill_53178, ln_5]
  exact this
theorem c_fill6 {p : Nat} (g : am_H) : ∃ g', f_J7_fill_53178 (some (6, p)) 2001 g = m_rt g' none ∧ Lp (pX [] [6]) g g' ∧ (∀ j, j < 12 → m_gi g' 6 p j = 2001) ∧ ∀ b, b ≠ p → ∀ j, m_gi g' 6 b j = m_gi g 6 b j := by
  have := c_fl6 (p := p) 5000 0 g (by omega) (by omega) (fun j hj => by omega)
  rw [nI_0] at this
  rw [f_J7_fill_53178, ln_6]
  exact this
abbrev PPs : Nat → Nat → Bool := pX [] [26, 1026, 5, 1005, 6, 1006, 7, 1007, 18]
/-- PEOPLE up to k are made -/
def PQ (hB g : am_H) (k : Nat) : Prop := Frm PPs hB g ∧ m_nx g 26 = k ∧ m_nx g 5 = k ∧ m_nx g 6 = k ∧ m_nx g 7 = k ∧ (∀ p, p < k → m_gr g 18 0 p = some (26, p) ∧ m_gr g 26 p 1 = some (5, p) ∧ m_gr g 26 p 2 = some (6, p) ∧ m_gr g 26 p 3 = some (7, p)) ∧
  (∀ p, p < k → (∀ j, m_gi g 26 p j = 0) ∧ (∀ j, m_gi g 7 p j = 0) ∧ (∀ j, j < 20 → m_gi g 5 p j = 2001) ∧ ∀ j, j < 12 → m_gi g 6 p j = 2001) ∧ m_nc g = m_nc hB + 4 * k ∧ m_ns g = m_ns hB + 56 * k
theorem PQ_step {hB g : am_H} {k : Nat} (hk : k < 12) (Q : PQ hB g k) : ∃ g', m_new 26 4 g (fun a39 h40 => m_bW (f_X3_init a39 h40) fun h41 => m_sR (some (18, 0)) 4 3 (nI k) (some a39) h41 fun h43 => m_rt h43 none) = m_rt g' none ∧ (∀ K : am_H → am_R, m_new 26 4 g (fun a39 h40 => m_bW (f_X3_init a39 h40) fun h41 => m_sR (some (18, 0)) 4 3 (nI k) (some a39) h41 fun h43 => K h43) = K g') ∧ PQ hB g' (k + 1) := by
  obtain ⟨F, n26, n5, n6, n7, gr, gi, nc, ns⟩ := Q
  obtain ⟨gB, a1, a2, a3, a4⟩ := c_fill5 (p := k) (m_sr (m_al (m_sr (m_al (m_sr (m_al (m_al g 26 4) 5 20) 26 k 1 (some (5, k))) 6 12) 26 k 2 (some (6, k))) 7 20) 26 k 3 (some (7, k)))
  obtain ⟨gC, b1, b2, b3, b4⟩ := c_fill6 (p := k) gB
  have m5 : m_nx (m_al g 26 4) 5 = k := by rw [nx_al (by decide), n5]
  have m6 : m_nx (m_sr (m_al (m_al g 26 4) 5 20) 26 k 1 (some (5, k))) 6 = k := by rw [nx_sr, nx_al (by decide), nx_al (by decide), n6]
  have m7 : m_nx (m_sr (m_al (m_sr (m_al (m_al g 26 4) 5 20) 26 k 1 (some (5, k))) 6 12) 26 k 2 (some (6, k))) 7 = k := by rw [nx_sr, nx_al (by decide), nx_sr, nx_al (by decide), nx_al (by decide), n7]
  have gA : ∀ q j, m_gr (m_sr (m_al (m_sr (m_al (m_sr (m_al (m_al g 26 4) 5 20) 26 k 1 (some (5, k))) 6 12) 26 k 2 (some (6, k))) 7 20) 26 k 3 (some (7, k))) 26 q j = if q = k then (if j = 1 then some (5, k) else if j = 2 then some (6, k) else if j = 3 then some (7, k) else none) else m_gr g 26 q j := fun q j => by
    simp only [m_gr_sr, m_gr_al, n26]
    by_cases e : q = k
    · subst e
      by_cases j1 : j = 1
      · subst j1; simp
      · by_cases j2 : j = 2
        · subst j2; simp
        · by_cases j3 : j = 3
          · subst j3; simp
          · simp [j1, j2, j3]
    · simp [e]
  have g18 : ∀ q j, m_gr gC 18 q j = m_gr g 18 q j := fun q j => by
    rw [b2.1.2.1 18 q j rfl, a2.1.2.1 18 q j rfl]
    simp only [m_gr_sr, m_gr_al]; simp
  have gC26 : ∀ q j, m_gr gC 26 q j = m_gr (m_sr (m_al (m_sr (m_al (m_sr (m_al (m_al g 26 4) 5 20) 26 k 1 (some (5, k))) 6 12) 26 k 2 (some (6, k))) 7 20) 26 k 3 (some (7, k))) 26 q j := fun q j => by rw [b2.1.2.1 26 q j rfl, a2.1.2.1 26 q j rfl]
  have x3 : f_X3_init (26, k) (m_al g 26 4) = m_rt gC none := by
    rw [f_X3_init, new_eq, m5, pR_26, new_eq, m6, pR_26, new_eq, m7, pR_26, gR_26, gA, if_pos rfl, if_pos rfl, a1, bV_rt, gR_26, a2.1.2.1 26 k 2 rfl, gA, if_pos rfl, if_neg (by decide), if_pos rfl, b1, bV_rt]
  have K1 : ∀ K : am_H → am_R, m_new 26 4 g (fun a39 h40 => m_bW (f_X3_init a39 h40) fun h41 => m_sR (some (18, 0)) 4 3 (nI k) (some a39) h41 fun h43 => K h43) = K (m_sr gC 18 0 k (some (26, k))) := fun K => by
    rw [new_eq, n26, x3, bW_rt, sR_18 hk]
  refine ⟨m_sr gC 18 0 k (some (26, k)), K1 (fun h43 => m_rt h43 none), K1, ?_⟩
  have FA : Frm PPs hB (m_sr (m_al (m_sr (m_al (m_sr (m_al (m_al g 26 4) 5 20) 26 k 1 (some (5, k))) 6 12) 26 k 2 (some (6, k))) 7 20) 26 k 3 (some (7, k))) := ((((((F.al (s := 26) (n := 4) (fun _ => rfl) rfl).al (s := 5) (n := 20) (fun _ => rfl) rfl).sr (s := 26) (k := k) (j := 1) (v := some (5, k)) rfl).al (s := 6) (n := 12) (fun _ => rfl) rfl).sr (s := 26) (k := k) (j := 2) (v := some (6, k)) rfl).al (s := 7) (n := 20) (fun _ => rfl) rfl).sr (s := 26) (k := k) (j := 3) (v := some (7, k)) rfl
  have FC : Frm PPs hB (m_sr gC 18 0 k (some (26, k))) := ((FA.trans a2.1.up).trans b2.1.up).sr rfl
  have nxC : ∀ a, a ≠ 0 → m_nx gC a = m_nx (m_sr (m_al (m_sr (m_al (m_sr (m_al (m_al g 26 4) 5 20) 26 k 1 (some (5, k))) 6 12) 26 k 2 (some (6, k))) 7 20) 26 k 3 (some (7, k))) a := fun a ha => by
    have p5 : pX [] [5] (a + 1000) 0 = true := by
      simp only [pX, List.contains_cons, List.contains_nil]
      simp; omega
    have p6 : pX [] [6] (a + 1000) 0 = true := by
      simp only [pX, List.contains_cons, List.contains_nil]
      simp; omega
    rw [b2.1.2.2 a p6, a2.1.2.2 a p5]
  have iA : ∀ a, a ≠ 5 → a ≠ 6 → a ≠ 0 → ∀ b j, (a, j) ≠ (70, 0) → a ≠ 1000 → m_gi gC a b j = m_gi (m_sr (m_al (m_sr (m_al (m_sr (m_al (m_al g 26 4) 5 20) 26 k 1 (some (5, k))) 6 12) 26 k 2 (some (6, k))) 7 20) 26 k 3 (some (7, k))) a b j := fun a h5 h6 h0 b j hn h1 => by
    have p5 : pX [] [5] a j = true := by
      simp only [pX, List.contains_cons, List.contains_nil]
      simp [h5, h1]
      intro z1 z2; exact hn (by rw [z1, z2])
    have p6 : pX [] [6] a j = true := by
      simp only [pX, List.contains_cons, List.contains_nil]
      simp [h6, h1]
      intro z1 z2; exact hn (by rw [z1, z2])
    rw [b2.1.1 a b j p6, a2.1.1 a b j p5]
  refine ⟨FC, ?_, ?_, ?_, ?_, fun p hp => ?_, fun p hp => ⟨fun j => ?_, fun j => ?_, fun j hj => ?_, fun j hj => ?_⟩, ?_, ?_⟩
  · rw [nx_sr, nxC 26 (by decide), nx_sr, nx_al (by decide), nx_sr, nx_al (by decide), nx_sr, nx_al (by decide), nx_als, n26]
  · rw [nx_sr, nxC 5 (by decide), nx_sr, nx_al (by decide), nx_sr, nx_al (by decide), nx_sr, nx_als, nx_al (by decide), n5]
  · rw [nx_sr, nxC 6 (by decide), nx_sr, nx_al (by decide), nx_sr, nx_als, nx_sr, nx_al (by decide), nx_al (by decide), n6]
  · rw [nx_sr, nxC 7 (by decide), nx_sr, nx_als, nx_sr, nx_al (by decide), nx_sr, nx_al (by decide), nx_al (by decide), n7]
  · have e18 : m_gr (m_sr gC 18 0 k (some (26, k))) 18 0 p = if p = k then some (26, k) else m_gr g 18 0 p := by
      rw [m_gr_sr, g18]; simp
    have e26 : ∀ j, m_gr (m_sr gC 18 0 k (some (26, k))) 26 p j = m_gr (m_sr (m_al (m_sr (m_al (m_sr (m_al (m_al g 26 4) 5 20) 26 k 1 (some (5, k))) 6 12) 26 k 2 (some (6, k))) 7 20) 26 k 3 (some (7, k))) 26 p j := fun j => by rw [gr_ne (by decide), gC26]
    rw [e18, e26, e26, e26, gA, gA, gA]
    by_cases e : p = k
    · subst e
      simp only [if_true]
      exact ⟨by first | trivial | rfl, by first | trivial | rfl, by first | trivial | rfl, by first | trivial | rfl⟩
    · simp only [if_neg e]
      exact gr p (by omega)
  · rw [gi_sr, iA 26 (by decide) (by decide) (by decide) p j (by simp) (by decide)]
    simp only [gi_sr, m_gi_al, n26]
    by_cases e : p = k
    · simp [e]
    · simp [e]; exact (gi p (by omega)).1 j
  · rw [gi_sr, iA 7 (by decide) (by decide) (by decide) p j (by simp) (by decide)]
    simp only [gi_sr, m_gi_al, m7]
    by_cases e : p = k
    · simp [e]
    · simp [e]; exact (gi p (by omega)).2.1 j
  · rw [gi_sr, b2.1.1 5 p j rfl]
    by_cases e : p = k
    · rw [e]; exact a3 j hj
    · rw [a4 p e]
      simp only [gi_sr, m_gi_al, m5]
      simp [e]; exact (gi p (by omega)).2.2.1 j hj
  · rw [gi_sr]
    by_cases e : p = k
    · rw [e]; exact b3 j hj
    · rw [b4 p e, a2.1.1 6 p j rfl]
      simp only [gi_sr, m_gi_al, m6]
      simp [e]; exact (gi p (by omega)).2.2.2 j hj
  · rw [nc_sr, b2.2.2.1, a2.2.2.1, nc_sr, nc_al, nc_sr, nc_al, nc_sr, nc_al, nc_al, nc]; omega
  · rw [ns_sr, b2.2.2.2.1, a2.2.2.2.1, ns_sr, ns_al, ns_sr, ns_al, ns_sr, ns_al, ns_al, ns]; omega
theorem c_i117 {hB : am_H} (e2 : m_gr hB 69 0 2 = some (18, 0)) : ∀ (n k : Nat) (g : am_H), k ≤ 12 → 12 < k + n → PQ hB g k → ∃ g', f_X10_init_117 n (69, 0) (nI k) g = m_rt g' none ∧ PQ hB g' 12
  | 0, k, g, h1, h2, _ => by omega
  | n + 1, k, g, h1, h2, Q => by
    have i12 : ((12 : Int32) ≤ nI k) = (12 ≤ k) := i_le (a := 12) (by omega) (by omega)
    rw [f_X10_init_117]
    by_cases hk : 12 ≤ k
    · rw [if_pos (show (12 : Int32) ≤ nI k by rw [i12]; exact hk)]
      have ek : k = 12 := by omega
      subst ek
      exact ⟨g, rfl, Q⟩
    · obtain ⟨g', _, q1, q2⟩ := PQ_step (show k < 12 by omega) Q
      rw [if_neg (show ¬ (12 : Int32) ≤ nI k by rw [i12]; exact hk), gR_69, (Q.1.2.1 69 0 2 rfl).trans e2, q1 (fun h43 => f_X10_init_117 n (69, 0) (nI k + 1) h43), nI_1]
      exact c_i117 e2 n (k + 1) g' (by omega) (by omega) q2
theorem c_init {h1 : am_H} {g : Nat → Nat → Int32} (b0 : Bd h1 g (17 :: 18 :: 19 :: 20 :: 21 :: 11 :: 12 :: 13 :: 22 :: 14 :: 15 :: 23 :: 8 :: 9 :: 10 :: 24 :: 2 :: 3 :: 4 :: 25 :: 26 :: 5 :: 6 :: 7 :: 70 :: 31 :: 32 :: 33 :: 34 :: 35 :: 36 :: 37 :: 38 :: 39 :: 40 :: 41 :: 42 :: 43 :: 44 :: 45 :: 46 :: 47 :: 48 :: 49 :: 50 :: 51 :: 52 :: 53 :: 54 :: 55 :: 56 :: 57 :: 58 :: 59 :: 60 :: 61 :: 62 :: 63 :: 64 :: 65 :: 66 :: 67 :: 68 :: 71 :: 27 :: 16 :: 28 :: 29 :: 30 :: []) [69] [] 1 13) : ∃ hB h94 hC, f_X10_init (69, 0) h1 = m_rt hC none ∧ Bd hB g [26, 5, 6, 7, 70, 31, 32, 33, 34, 35, 36, 37, 38, 39, 40, 41, 42, 43, 44, 45, 46, 47, 48, 49, 50, 51, 52, 53, 54, 55, 56, 57, 58, 59, 60, 61, 62, 63, 64, 65, 66, 67, 68, 71, 27, 16, 28, 29, 30] [25, 4, 3, 2, 24, 10, 9, 8, 23, 15, 14, 22, 13, 12, 11, 21, 20, 19, 18, 17, 69] [(69, 11, 25), (69, 10, 24), (24, 3, 4), (24, 2, 3), (24, 0, 2), (69, 9, 23), (23, 2, 10), (23, 1, 9), (23, 0, 8), (69, 8, 22), (22, 2, 15), (22, 0, 14), (69, 7, 21), (21, 3, 13), (21, 2, 12), (21, 1, 11), (69, 5, 20), (69, 3, 19), (69, 2, 18), (69, 1, 17)] 21 768 ∧ Lp (pX [] [17]) hB h94 ∧ (∀ j, j < 32 → m_gi h94 17 0 j = one j) ∧ PQ h94 hC 12 := by
  obtain ⟨hB, a1, a2⟩ := c_i0 b0
  obtain ⟨h94, c1, c2, c3⟩ := c_i94 (hB := hB) (a2.2.2.2.1 (69, 1, 17) (by decide)) 5000 0 hB (by omega) (by omega) (Lp.refl _ hB) (fun j hj => by omega)
  rw [nI_0] at c1
  have nx : ∀ a, (pX [] [17] (a + 1000) 0 = true) → a ∈ [26, 5, 6, 7, 70, 31, 32, 33, 34, 35, 36, 37, 38, 39, 40, 41, 42, 43, 44, 45, 46, 47, 48, 49, 50, 51, 52, 53, 54, 55, 56, 57, 58, 59, 60, 61, 62, 63, 64, 65, 66, 67, 68, 71, 27, 16, 28, 29, 30] → m_nx h94 a = 0 := fun a pa ha => (c2.1.2.2 a pa).trans (a2.1 a ha)
  have Q0 : PQ h94 h94 0 := ⟨Frm.refl _ h94, nx 26 rfl (by decide), nx 5 rfl (by decide), nx 6 rfl (by decide), nx 7 rfl (by decide), fun p hp => by omega, fun p hp => by omega, rfl, rfl⟩
  obtain ⟨hC, d1, d2⟩ := c_i117 (hB := h94) ((c2.1.2.1 69 0 2 rfl).trans (a2.2.2.2.1 (69, 2, 18) (by decide))) 5000 0 h94 (by omega) (by omega) Q0
  rw [nI_0] at d1
  exact ⟨hB, h94, hC, a1.trans (c1.trans d1), a2, c2, c3, d2⟩
theorem r_i0 {h1 : am_H} {g : Nat → Nat → Int32} (b0 : Bd h1 g [31, 32, 33, 34, 35, 36, 37, 38, 39, 40, 41, 42, 43, 44, 45, 46, 47, 48, 49, 50, 51, 52, 53, 54, 55, 56, 57, 58, 59, 60, 61, 62, 63, 64, 65, 66, 67, 68, 71, 27, 16, 28, 29, 30] [70] [] 70 1487) : ∃ hM, f_X11_init (70, 0) h1 = f_X11_init_316 5000 (70, 0) 0 hM ∧ Bd hM g [71, 27, 16, 28, 29, 30] [68, 67, 66, 65, 64, 63, 62, 61, 60, 59, 58, 57, 56, 55, 54, 53, 52, 51, 50, 49, 48, 47, 46, 45, 44, 43, 42, 41, 40, 39, 38, 37, 36, 35, 34, 33, 32, 31, 70] [(70, 46, 68), (70, 45, 67), (70, 44, 66), (70, 43, 65), (70, 42, 64), (70, 41, 63), (70, 40, 62), (70, 39, 61), (70, 38, 60), (70, 36, 59), (70, 35, 58), (70, 34, 57), (70, 33, 56), (70, 32, 55), (70, 31, 54), (70, 28, 53), (70, 27, 52), (70, 26, 51), (70, 25, 50), (70, 23, 49), (70, 22, 48), (70, 21, 47), (70, 19, 46), (70, 18, 45), (70, 16, 44), (70, 15, 43), (70, 14, 42), (70, 13, 41), (70, 12, 40), (70, 11, 39), (70, 10, 38), (70, 9, 37), (70, 8, 36), (70, 7, 35), (70, 6, 34), (70, 5, 33), (70, 3, 32), (70, 2, 31)] 108 5413 ∧ Frm PAf h1 hM := by
  have b1 := b0.al (n := 144) (by decide) (by decide) (by decide)
  have b2 := b1.sr 70 2 31 (by decide)
  have b3 := b2.al (n := 32) (by decide) (by decide) (by decide)
  have b4 := b3.sr 70 3 32 (by decide)
  have b5 := b4.al (n := 20) (by decide) (by decide) (by decide)
  have b6 := b5.sr 70 5 33 (by decide)
  have b7 := b6.al (n := 20) (by decide) (by decide) (by decide)
  have b8 := b7.sr 70 6 34 (by decide)
  have b9 := b8.al (n := 20) (by decide) (by decide) (by decide)
  have b10 := b9.sr 70 7 35 (by decide)
  have b11 := b10.al (n := 160) (by decide) (by decide) (by decide)
  have b12 := b11.sr 70 8 36 (by decide)
  have b13 := b12.al (n := 20) (by decide) (by decide) (by decide)
  have b14 := b13.sr 70 9 37 (by decide)
  have b15 := b14.al (n := 20) (by decide) (by decide) (by decide)
  have b16 := b15.sr 70 10 38 (by decide)
  have b17 := b16.al (n := 20) (by decide) (by decide) (by decide)
  have b18 := b17.sr 70 11 39 (by decide)
  have b19 := b18.al (n := 20) (by decide) (by decide) (by decide)
  have b20 := b19.sr 70 12 40 (by decide)
  have b21 := b20.al (n := 20) (by decide) (by decide) (by decide)
  have b22 := b21.sr 70 13 41 (by decide)
  have b23 := b22.al (n := 20) (by decide) (by decide) (by decide)
  have b24 := b23.sr 70 14 42 (by decide)
  have b25 := b24.al (n := 20) (by decide) (by decide) (by decide)
  have b26 := b25.sr 70 15 43 (by decide)
  have b27 := b26.al (n := 20) (by decide) (by decide) (by decide)
  have b28 := b27.sr 70 16 44 (by decide)
  have b29 := b28.al (n := 6) (by decide) (by decide) (by decide)
  have b30 := b29.sr 70 18 45 (by decide)
  have b31 := b30.al (n := 6) (by decide) (by decide) (by decide)
  have b32 := b31.sr 70 19 46 (by decide)
  have b33 := b32.al (n := 30) (by decide) (by decide) (by decide)
  have b34 := b33.sr 70 21 47 (by decide)
  have b35 := b34.al (n := 30) (by decide) (by decide) (by decide)
  have b36 := b35.sr 70 22 48 (by decide)
  have b37 := b36.al (n := 30) (by decide) (by decide) (by decide)
  have b38 := b37.sr 70 23 49 (by decide)
  have b39 := b38.al (n := 60) (by decide) (by decide) (by decide)
  have b40 := b39.sr 70 25 50 (by decide)
  have b41 := b40.al (n := 64) (by decide) (by decide) (by decide)
  have b42 := b41.sr 70 26 51 (by decide)
  have b43 := b42.al (n := 64) (by decide) (by decide) (by decide)
  have b44 := b43.sr 70 27 52 (by decide)
  have b45 := b44.al (n := 64) (by decide) (by decide) (by decide)
  have b46 := b45.sr 70 28 53 (by decide)
  have b47 := b46.al (n := 8) (by decide) (by decide) (by decide)
  have b48 := b47.sr 70 31 54 (by decide)
  have b49 := b48.al (n := 8) (by decide) (by decide) (by decide)
  have b50 := b49.sr 70 32 55 (by decide)
  have b51 := b50.al (n := 8) (by decide) (by decide) (by decide)
  have b52 := b51.sr 70 33 56 (by decide)
  have b53 := b52.al (n := 8) (by decide) (by decide) (by decide)
  have b54 := b53.sr 70 34 57 (by decide)
  have b55 := b54.al (n := 64) (by decide) (by decide) (by decide)
  have b56 := b55.sr 70 35 58 (by decide)
  have b57 := b56.al (n := 256) (by decide) (by decide) (by decide)
  have b58 := b57.sr 70 36 59 (by decide)
  have b59 := b58.al (n := 60) (by decide) (by decide) (by decide)
  have b60 := b59.sr 70 38 60 (by decide)
  have b61 := b60.al (n := 60) (by decide) (by decide) (by decide)
  have b62 := b61.sr 70 39 61 (by decide)
  have b63 := b62.al (n := 60) (by decide) (by decide) (by decide)
  have b64 := b63.sr 70 40 62 (by decide)
  have b65 := b64.al (n := 60) (by decide) (by decide) (by decide)
  have b66 := b65.sr 70 41 63 (by decide)
  have b67 := b66.al (n := 60) (by decide) (by decide) (by decide)
  have b68 := b67.sr 70 42 64 (by decide)
  have b69 := b68.al (n := 60) (by decide) (by decide) (by decide)
  have b70 := b69.sr 70 43 65 (by decide)
  have b71 := b70.al (n := 240) (by decide) (by decide) (by decide)
  have b72 := b71.sr 70 44 66 (by decide)
  have b73 := b72.al (n := 144) (by decide) (by decide) (by decide)
  have b74 := b73.sr 70 45 67 (by decide)
  have b75 := b74.al (n := 1920) (by decide) (by decide) (by decide)
  have b76 := b75.sr 70 46 68 (by decide)
  exact ⟨_, by rw [f_X11_init, new0 b0, pR_70, new0 b2, pR_70, new0 b4, pR_70, new0 b6, pR_70, new0 b8, pR_70, new0 b10, pR_70, new0 b12, pR_70, new0 b14, pR_70, new0 b16, pR_70, new0 b18, pR_70, new0 b20, pR_70, new0 b22, pR_70, new0 b24, pR_70, new0 b26, pR_70, new0 b28, pR_70, new0 b30, pR_70, new0 b32, pR_70, new0 b34, pR_70, new0 b36, pR_70, new0 b38, pR_70, new0 b40, pR_70, new0 b42, pR_70, new0 b44, pR_70, new0 b46, pR_70, new0 b48, pR_70, new0 b50, pR_70, new0 b52, pR_70, new0 b54, pR_70, new0 b56, pR_70, new0 b58, pR_70, new0 b60, pR_70, new0 b62, pR_70, new0 b64, pR_70, new0 b66, pR_70, new0 b68, pR_70, new0 b70, pR_70, new0 b72, pR_70, new0 b74, pR_70], b76, (((((((((((((((((((((((((((((((((((((((((((((((((((((((((((((((((((((((((((((Frm.refl PAf h1).al (s := 31) (n := 144) (fun _ => rfl) rfl).sr (s := 70) (k := 0) (j := 2) (v := some (31, 0)) rfl).al (s := 32) (n := 32) (fun _ => rfl) rfl).sr (s := 70) (k := 0) (j := 3) (v := some (32, 0)) rfl).al (s := 33) (n := 20) (fun _ => rfl) rfl).sr (s := 70) (k := 0) (j := 5) (v := some (33, 0)) rfl).al (s := 34) (n := 20) (fun _ => rfl) rfl).sr (s := 70) (k := 0) (j := 6) (v := some (34, 0)) rfl).al (s := 35) (n := 20) (fun _ => rfl) rfl).sr (s := 70) (k := 0) (j := 7) (v := some (35, 0)) rfl).al (s := 36) (n := 160) (fun _ => rfl) rfl).sr (s := 70) (k := 0) (j := 8) (v := some (36, 0)) rfl).al (s := 37) (n := 20) (fun _ => rfl) rfl).sr (s := 70) (k := 0) (j := 9) (v := some (37, 0)) rfl).al (s := 38) (n := 20) (fun _ => rfl) rfl).sr (s := 70) (k := 0) (j := 10) (v := some (38, 0)) rfl).al (s := 39) (n := 20) (fun _ => rfl) rfl).sr (s := 70) (k := 0) (j := 11) (v := some (39, 0)) rfl).al (s := 40) (n := 20) (fun _ => rfl) rfl).sr (s := 70) (k := 0) (j := 12) (v := some (40, 0)) rfl).al (s := 41) (n := 20) (fun _ => rfl) rfl).sr (s := 70) (k := 0) (j := 13) (v := some (41, 0)) rfl).al (s := 42) (n := 20) (fun _ => rfl) rfl).sr (s := 70) (k := 0) (j := 14) (v := some (42, 0)) rfl).al (s := 43) (n := 20) (fun _ => rfl) rfl).sr (s := 70) (k := 0) (j := 15) (v := some (43, 0)) rfl).al (s := 44) (n := 20) (fun _ => rfl) rfl).sr (s := 70) (k := 0) (j := 16) (v := some (44, 0)) rfl).al (s := 45) (n := 6) (fun _ => rfl) rfl).sr (s := 70) (k := 0) (j := 18) (v := some (45, 0)) rfl).al (s := 46) (n := 6) (fun _ => rfl) rfl).sr (s := 70) (k := 0) (j := 19) (v := some (46, 0)) rfl).al (s := 47) (n := 30) (fun _ => rfl) rfl).sr (s := 70) (k := 0) (j := 21) (v := some (47, 0)) rfl).al (s := 48) (n := 30) (fun _ => rfl) rfl).sr (s := 70) (k := 0) (j := 22) (v := some (48, 0)) rfl).al (s := 49) (n := 30) (fun _ => rfl) rfl).sr (s := 70) (k := 0) (j := 23) (v := some (49, 0)) rfl).al (s := 50) (n := 60) (fun _ => rfl) rfl).sr (s := 70) (k := 0) (j := 25) (v := some (50, 0)) rfl).al (s := 51) (n := 64) (fun _ => rfl) rfl).sr (s := 70) (k := 0) (j := 26) (v := some (51, 0)) rfl).al (s := 52) (n := 64) (fun _ => rfl) rfl).sr (s := 70) (k := 0) (j := 27) (v := some (52, 0)) rfl).al (s := 53) (n := 64) (fun _ => rfl) rfl).sr (s := 70) (k := 0) (j := 28) (v := some (53, 0)) rfl).al (s := 54) (n := 8) (fun _ => rfl) rfl).sr (s := 70) (k := 0) (j := 31) (v := some (54, 0)) rfl).al (s := 55) (n := 8) (fun _ => rfl) rfl).sr (s := 70) (k := 0) (j := 32) (v := some (55, 0)) rfl).al (s := 56) (n := 8) (fun _ => rfl) rfl).sr (s := 70) (k := 0) (j := 33) (v := some (56, 0)) rfl).al (s := 57) (n := 8) (fun _ => rfl) rfl).sr (s := 70) (k := 0) (j := 34) (v := some (57, 0)) rfl).al (s := 58) (n := 64) (fun _ => rfl) rfl).sr (s := 70) (k := 0) (j := 35) (v := some (58, 0)) rfl).al (s := 59) (n := 256) (fun _ => rfl) rfl).sr (s := 70) (k := 0) (j := 36) (v := some (59, 0)) rfl).al (s := 60) (n := 60) (fun _ => rfl) rfl).sr (s := 70) (k := 0) (j := 38) (v := some (60, 0)) rfl).al (s := 61) (n := 60) (fun _ => rfl) rfl).sr (s := 70) (k := 0) (j := 39) (v := some (61, 0)) rfl).al (s := 62) (n := 60) (fun _ => rfl) rfl).sr (s := 70) (k := 0) (j := 40) (v := some (62, 0)) rfl).al (s := 63) (n := 60) (fun _ => rfl) rfl).sr (s := 70) (k := 0) (j := 41) (v := some (63, 0)) rfl).al (s := 64) (n := 60) (fun _ => rfl) rfl).sr (s := 70) (k := 0) (j := 42) (v := some (64, 0)) rfl).al (s := 65) (n := 60) (fun _ => rfl) rfl).sr (s := 70) (k := 0) (j := 43) (v := some (65, 0)) rfl).al (s := 66) (n := 240) (fun _ => rfl) rfl).sr (s := 70) (k := 0) (j := 44) (v := some (66, 0)) rfl).al (s := 67) (n := 144) (fun _ => rfl) rfl).sr (s := 70) (k := 0) (j := 45) (v := some (67, 0)) rfl).al (s := 68) (n := 1920) (fun _ => rfl) rfl).sr (s := 70) (k := 0) (j := 46) (v := some (68, 0)) rfl)⟩
theorem r_i359 {hM : am_H} (e : m_gr hM 70 0 45 = some (67, 0)) : ∀ (n k : Nat) (g : am_H), k ≤ 144 → 144 < k + n → Lp (pX [] [67]) hM g → (∀ j, j < k → m_gi g 67 0 j = -1) →
    ∃ g', f_X11_init_359 n (70, 0) (nI k) g = m_rt g' none ∧ Lp (pX [] [67]) hM g' ∧ ∀ j, j < 144 → m_gi g' 67 0 j = -1
  | 0, k, g, h1, h2, _, _ => by omega
  | n + 1, k, g, h1, h2, L, V => by
    have ik : ((144 : Int32) ≤ nI k) = (144 ≤ k) := i_le (a := 144) (by omega) (by omega)
    rw [f_X11_init_359]
    by_cases hk : 144 ≤ k
    · rw [if_pos (show (144 : Int32) ≤ nI k by rw [ik]; exact hk)]
      exact ⟨g, rfl, L, fun j hj => V j (by omega)⟩
    · rw [if_neg (show ¬ (144 : Int32) ≤ nI k by rw [ik]; exact hk), gR_70, (L.1.2.1 70 0 45 rfl).trans e, sI_67 (show k < 144 by omega), nI_1]
      refine r_i359 e n (k + 1) _ (by omega) (by omega) (L.si rfl) (fun j hj => ?_)
      rw [gi_upJ]
      by_cases ej : j = k
      · rw [if_pos ej]
      · rw [if_neg ej]; exact V j (by omega)
theorem r_i337 {hM : am_H} (e : m_gr hM 70 0 44 = some (66, 0)) : ∀ (n k : Nat) (g : am_H), k ≤ 240 → 240 < k + n → Lp (pX [] [66]) hM g → (∀ j, j < k → m_gi g 66 0 j = -1) →
    ∃ g', f_X11_init_337 n (70, 0) (nI k) g = f_X11_init_359 5000 (70, 0) 0 g' ∧ Lp (pX [] [66]) hM g' ∧ ∀ j, j < 240 → m_gi g' 66 0 j = -1
  | 0, k, g, h1, h2, _, _ => by omega
  | n + 1, k, g, h1, h2, L, V => by
    have ik : ((240 : Int32) ≤ nI k) = (240 ≤ k) := i_le (a := 240) (by omega) (by omega)
    rw [f_X11_init_337]
    by_cases hk : 240 ≤ k
    · rw [if_pos (show (240 : Int32) ≤ nI k by rw [ik]; exact hk)]
      exact ⟨g, rfl, L, fun j hj => V j (by omega)⟩
    · rw [if_neg (show ¬ (240 : Int32) ≤ nI k by rw [ik]; exact hk), gR_70, (L.1.2.1 70 0 44 rfl).trans e, sI_66 (show k < 240 by omega), nI_1]
      refine r_i337 e n (k + 1) _ (by omega) (by omega) (L.si rfl) (fun j hj => ?_)
      rw [gi_upJ]
      by_cases ej : j = k
      · rw [if_pos ej]
      · rw [if_neg ej]; exact V j (by omega)
theorem r_i316 {hM : am_H} (e : m_gr hM 70 0 3 = some (32, 0)) : ∀ (n k : Nat) (g : am_H), k ≤ 32 → 32 < k + n → Lp (pX [] [32]) hM g → (∀ j, j < k → m_gi g 32 0 j = nI j) →
    ∃ g', f_X11_init_316 n (70, 0) (nI k) g = f_X11_init_337 5000 (70, 0) 0 g' ∧ Lp (pX [] [32]) hM g' ∧ ∀ j, j < 32 → m_gi g' 32 0 j = nI j
  | 0, k, g, h1, h2, _, _ => by omega
  | n + 1, k, g, h1, h2, L, V => by
    have ik : ((32 : Int32) ≤ nI k) = (32 ≤ k) := i_le (a := 32) (by omega) (by omega)
    rw [f_X11_init_316]
    by_cases hk : 32 ≤ k
    · rw [if_pos (show (32 : Int32) ≤ nI k by rw [ik]; exact hk)]
      exact ⟨g, rfl, L, fun j hj => V j (by omega)⟩
    · rw [if_neg (show ¬ (32 : Int32) ≤ nI k by rw [ik]; exact hk), gR_70, (L.1.2.1 70 0 3 rfl).trans e, sI_32 (show k < 32 by omega), nI_1]
      refine r_i316 e n (k + 1) _ (by omega) (by omega) (L.si rfl) (fun j hj => ?_)
      rw [gi_upJ]
      by_cases ej : j = k
      · rw [if_pos ej, ej]
      · rw [if_neg ej]; exact V j (by omega)
theorem r_init {h1 : am_H} {g : Nat → Nat → Int32} (b0 : Bd h1 g [31, 32, 33, 34, 35, 36, 37, 38, 39, 40, 41, 42, 43, 44, 45, 46, 47, 48, 49, 50, 51, 52, 53, 54, 55, 56, 57, 58, 59, 60, 61, 62, 63, 64, 65, 66, 67, 68, 71, 27, 16, 28, 29, 30] [70] [] 70 1487) : ∃ hM hE, f_X11_init (70, 0) h1 = m_rt hE none ∧ Bd hM g [71, 27, 16, 28, 29, 30] [68, 67, 66, 65, 64, 63, 62, 61, 60, 59, 58, 57, 56, 55, 54, 53, 52, 51, 50, 49, 48, 47, 46, 45, 44, 43, 42, 41, 40, 39, 38, 37, 36, 35, 34, 33, 32, 31, 70] [(70, 46, 68), (70, 45, 67), (70, 44, 66), (70, 43, 65), (70, 42, 64), (70, 41, 63), (70, 40, 62), (70, 39, 61), (70, 38, 60), (70, 36, 59), (70, 35, 58), (70, 34, 57), (70, 33, 56), (70, 32, 55), (70, 31, 54), (70, 28, 53), (70, 27, 52), (70, 26, 51), (70, 25, 50), (70, 23, 49), (70, 22, 48), (70, 21, 47), (70, 19, 46), (70, 18, 45), (70, 16, 44), (70, 15, 43), (70, 14, 42), (70, 13, 41), (70, 12, 40), (70, 11, 39), (70, 10, 38), (70, 9, 37), (70, 8, 36), (70, 7, 35), (70, 6, 34), (70, 5, 33), (70, 3, 32), (70, 2, 31)] 108 5413 ∧ Frm PAf h1 hM ∧ Lp (pX [] [32, 66, 67]) hM hE ∧ (∀ j, j < 32 → m_gi hE 32 0 j = nI j) ∧ (∀ j, j < 240 → m_gi hE 66 0 j = -1) ∧ ∀ j, j < 144 → m_gi hE 67 0 j = -1 := by
  obtain ⟨hM, a1, a2, a3⟩ := r_i0 b0
  obtain ⟨h2, c1, c2, c3⟩ := r_i316 (hM := hM) (a2.2.2.2.1 (70, 3, 32) (by decide)) 5000 0 hM (by omega) (by omega) (Lp.refl _ hM) (fun j hj => by omega)
  obtain ⟨h3, d1, d2, d3⟩ := r_i337 (hM := h2) ((c2.1.2.1 70 0 44 rfl).trans (a2.2.2.2.1 (70, 44, 66) (by decide))) 5000 0 h2 (by omega) (by omega) (Lp.refl _ h2) (fun j hj => by omega)
  obtain ⟨hE, e1, e2, e3⟩ := r_i359 (hM := h3) ((d2.1.2.1 70 0 45 rfl).trans ((c2.1.2.1 70 0 45 rfl).trans (a2.2.2.2.1 (70, 45, 67) (by decide)))) 5000 0 h3 (by omega) (by omega) (Lp.refl _ h3) (fun j hj => by omega)
  rw [nI_0] at c1 d1 e1
  exact ⟨hM, hE, a1.trans (c1.trans (d1.trans e1)), a2, a3, (c2.up.trans d2.up).trans e2.up, fun j hj => by rw [e2.1.1 32 0 j rfl, d2.1.1 32 0 j rfl]; exact c3 j hj, fun j hj => by rw [e2.1.1 66 0 j rfl]; exact d3 j hj, e3⟩
def PEx (a j : Nat) : Bool := PAf a j && pX [] [17, 26, 1026, 5, 1005, 6, 1006, 7, 1007, 18] a j
theorem init_rr (n : Nat) (xs : Nat → Int32) : ∃ hC hE, f_X10_init (69, 0) (m_al (am_h0 n xs) 69 13) = m_rt hC none ∧ m_nx (am_h0 n xs) 69 = 0 ∧ m_nx hC 70 = 0 ∧ f_X11_init (70, 0) (m_al hC 70 47) = m_rt hE none ∧ m_nx hE 71 = 0 ∧ RR 0 0 0 0 0 (m_al hE 71 1) ∧ m_gi (m_al hE 71 1) 1 = m_gi (am_h0 n xs) 1 ∧ m_nc (m_al hE 71 1) ≤ 1000 ∧ m_ns (m_al hE 71 1) ≤ 100000 := by
  have b0 : Bd (am_h0 n xs) (m_gi (am_h0 n xs) 1) (69 :: (17 :: 18 :: 19 :: 20 :: 21 :: 11 :: 12 :: 13 :: 22 :: 14 :: 15 :: 23 :: 8 :: 9 :: 10 :: 24 :: 2 :: 3 :: 4 :: 25 :: 26 :: 5 :: 6 :: 7 :: 70 :: 31 :: 32 :: 33 :: 34 :: 35 :: 36 :: 37 :: 38 :: 39 :: 40 :: 41 :: 42 :: 43 :: 44 :: 45 :: 46 :: 47 :: 48 :: 49 :: 50 :: 51 :: 52 :: 53 :: 54 :: 55 :: 56 :: 57 :: 58 :: 59 :: 60 :: 61 :: 62 :: 63 :: 64 :: 65 :: 66 :: 67 :: 68 :: 71 :: 27 :: 16 :: 28 :: 29 :: 30 :: [])) [] [] 0 0 := ⟨fun a ha => if_neg ((by decide : ∀ a ∈ (69 :: (17 :: 18 :: 19 :: 20 :: 21 :: 11 :: 12 :: 13 :: 22 :: 14 :: 15 :: 23 :: 8 :: 9 :: 10 :: 24 :: 2 :: 3 :: 4 :: 25 :: 26 :: 5 :: 6 :: 7 :: 70 :: 31 :: 32 :: 33 :: 34 :: 35 :: 36 :: 37 :: 38 :: 39 :: 40 :: 41 :: 42 :: 43 :: 44 :: 45 :: 46 :: 47 :: 48 :: 49 :: 50 :: 51 :: 52 :: 53 :: 54 :: 55 :: 56 :: 57 :: 58 :: 59 :: 60 :: 61 :: 62 :: 63 :: 64 :: 65 :: 66 :: 67 :: 68 :: 71 :: 27 :: 16 :: 28 :: 29 :: 30 :: [])), a ≠ 1) a ha), fun a ha => (nomatch ha), rfl, fun q hq => (nomatch hq), rfl, rfl⟩
  have b1 := b0.al (n := 13) (by decide) (by decide) (by decide)
  obtain ⟨hB, h94, hC, a1, a2, a3, a4, a5⟩ := c_init b1
  obtain ⟨F, n26, n5, n6, n7, gr, gi, nc, ns⟩ := id a5
  have FBC : Frm (pX [] [17, 26, 1026, 5, 1005, 6, 1006, 7, 1007, 18]) hB hC := a3.1.up.trans F.up
  have nxC : ∀ a ∈ [70, 31, 32, 33, 34, 35, 36, 37, 38, 39, 40, 41, 42, 43, 44, 45, 46, 47, 48, 49, 50, 51, 52, 53, 54, 55, 56, 57, 58, 59, 60, 61, 62, 63, 64, 65, 66, 67, 68, 71, 27, 16, 28, 29, 30], m_nx hC a = 0 := fun a ha => (FBC.2.2 a ((by decide : ∀ a ∈ [70, 31, 32, 33, 34, 35, 36, 37, 38, 39, 40, 41, 42, 43, 44, 45, 46, 47, 48, 49, 50, 51, 52, 53, 54, 55, 56, 57, 58, 59, 60, 61, 62, 63, 64, 65, 66, 67, 68, 71, 27, 16, 28, 29, 30], pX [] [17, 26, 1026, 5, 1005, 6, 1006, 7, 1007, 18] (a + 1000) 0 = true) a ha)).trans (a2.1 a ((by decide : ∀ a ∈ [70, 31, 32, 33, 34, 35, 36, 37, 38, 39, 40, 41, 42, 43, 44, 45, 46, 47, 48, 49, 50, 51, 52, 53, 54, 55, 56, 57, 58, 59, 60, 61, 62, 63, 64, 65, 66, 67, 68, 71, 27, 16, 28, 29, 30], a ∈ [26, 5, 6, 7, 70, 31, 32, 33, 34, 35, 36, 37, 38, 39, 40, 41, 42, 43, 44, 45, 46, 47, 48, 49, 50, 51, 52, 53, 54, 55, 56, 57, 58, 59, 60, 61, 62, 63, 64, 65, 66, 67, 68, 71, 27, 16, 28, 29, 30]) a ha))
  have b2 : Bd hC (m_gi (am_h0 n xs) 1) [70, 31, 32, 33, 34, 35, 36, 37, 38, 39, 40, 41, 42, 43, 44, 45, 46, 47, 48, 49, 50, 51, 52, 53, 54, 55, 56, 57, 58, 59, 60, 61, 62, 63, 64, 65, 66, 67, 68, 71, 27, 16, 28, 29, 30] [] [] 69 1440 := ⟨nxC, fun a ha => (nomatch ha), FBC.g1.trans a2.2.2.1, fun q hq => (nomatch hq), by rw [nc, a3.2.2.1, a2.2.2.2.2.1], by rw [ns, a3.2.2.2.1, a2.2.2.2.2.2]⟩
  have b3 := b2.al (n := 47) (by decide) (by decide) (by decide)
  obtain ⟨hM, hE, c1, c2, c3, c4, c5, c6, c7⟩ := r_init b3
  have FR : Frm (pX [] [32, 66, 67, 71, 1071]) hM (m_al hE 71 1) := Frm.al (s := 71) (n := 1) c4.1.up (fun _ => rfl) rfl
  have FC1 : Frm PAf hC hM := ((Frm.refl PAf hC).al (s := 70) (n := 47) (fun _ => rfl) rfl).trans c3
  have FC : Frm PAf hC (m_al hE 71 1) := (FC1.trans (c4.1.mono (PAf_le (by decide)))).al (s := 71) (n := 1) (fun _ => rfl) rfl
  have FB : Frm PEx hB (m_al hE 71 1) := (FBC.mono (fun a j q => by unfold PEx at q; rw [Bool.and_eq_true] at q; exact q.2)).trans (FC.mono (fun a j q => by unfold PEx at q; rw [Bool.and_eq_true] at q; exact q.1))
  have z := a2.2.1
  have y := c2.2.1
  have pt := a2.2.2.2.1
  have pm := c2.2.2.2.1
  have nxE : m_nx hE 71 = 0 := (c4.1.2.2 71 rfl).trans (c2.1 71 (by decide))
  have iC : ∀ a j, PEx a j = true → a ∈ [25, 4, 3, 2, 24, 10, 9, 8, 23, 15, 14, 22, 13, 12, 11, 21, 20, 19, 18, 17, 69] → m_gi (m_al hE 71 1) a 0 j = 0 := fun a j p ha => (FB.1 a 0 j p).trans (z a ha j)
  have iM : ∀ a j, pX [] [32, 66, 67, 71, 1071] a j = true → a ∈ [68, 67, 66, 65, 64, 63, 62, 61, 60, 59, 58, 57, 56, 55, 54, 53, 52, 51, 50, 49, 48, 47, 46, 45, 44, 43, 42, 41, 40, 39, 38, 37, 36, 35, 34, 33, 32, 31, 70] → m_gi (m_al hE 71 1) a 0 j = 0 := fun a j p ha => (FR.1 a 0 j p).trans (y a ha j)
  have gC : ∀ a j t, PEx a j = true → (a, j, t) ∈ [(69, 11, 25), (69, 10, 24), (24, 3, 4), (24, 2, 3), (24, 0, 2), (69, 9, 23), (23, 2, 10), (23, 1, 9), (23, 0, 8), (69, 8, 22), (22, 2, 15), (22, 0, 14), (69, 7, 21), (21, 3, 13), (21, 2, 12), (21, 1, 11), (69, 5, 20), (69, 3, 19), (69, 2, 18), (69, 1, 17)] → m_gr (m_al hE 71 1) a 0 j = some (t, 0) := fun a j t p ha => (FB.2.1 a 0 j p).trans (pt (a, j, t) ha)
  have gM : ∀ a j t, pX [] [32, 66, 67, 71, 1071] a j = true → (a, j, t) ∈ [(70, 46, 68), (70, 45, 67), (70, 44, 66), (70, 43, 65), (70, 42, 64), (70, 41, 63), (70, 40, 62), (70, 39, 61), (70, 38, 60), (70, 36, 59), (70, 35, 58), (70, 34, 57), (70, 33, 56), (70, 32, 55), (70, 31, 54), (70, 28, 53), (70, 27, 52), (70, 26, 51), (70, 25, 50), (70, 23, 49), (70, 22, 48), (70, 21, 47), (70, 19, 46), (70, 18, 45), (70, 16, 44), (70, 15, 43), (70, 14, 42), (70, 13, 41), (70, 12, 40), (70, 11, 39), (70, 10, 38), (70, 9, 37), (70, 8, 36), (70, 7, 35), (70, 6, 34), (70, 5, 33), (70, 3, 32), (70, 2, 31)] → m_gr (m_al hE 71 1) a 0 j = some (t, 0) := fun a j t p ha => (FR.2.1 a 0 j p).trans (pm (a, j, t) ha)
  have nx0 : ∀ a, pX [] [32, 66, 67, 71, 1071] (a + 1000) 0 = true → a ∈ [71, 27, 16, 28, 29, 30] → m_nx (m_al hE 71 1) a = 0 := fun a p ha => (FR.2.2 a p).trans (c2.1 a ha)
  have E1 : m_gi (m_al hE 71 1) 1 = m_gi (am_h0 n xs) 1 := FR.g1.trans c2.2.2.1
  have e32 : ∀ j, j < 32 → m_gi (m_al hE 71 1) 32 0 j = nI j := fun j hj => by rw [gi_al (by decide)]; exact c5 j hj
  have e66 : ∀ j, j < 240 → m_gi (m_al hE 71 1) 66 0 j = -1 := fun j hj => by rw [gi_al (by decide)]; exact c6 j hj
  have e67 : ∀ j, j < 144 → m_gi (m_al hE 71 1) 67 0 j = -1 := fun j hj => by rw [gi_al (by decide)]; exact c7 j hj
  have e17 : ∀ j, j < 32 → m_gi (m_al hE 71 1) 17 0 j = one j := fun j hj => by rw [FC.1 17 0 j rfl, F.1 17 0 j rfl]; exact a4 j hj
  have p26 : ∀ p j, p < 12 → m_gi (m_al hE 71 1) 26 p j = 0 := fun p j hp => by rw [FC.1 26 p j rfl]; exact (gi p hp).1 j
  have p7 : ∀ p j, p < 12 → m_gi (m_al hE 71 1) 7 p j = 0 := fun p j hp => by rw [FC.1 7 p j rfl]; exact (gi p hp).2.1 j
  have p5 : ∀ p j, p < 12 → j < 20 → m_gi (m_al hE 71 1) 5 p j = 2001 := fun p j hp hj => by rw [FC.1 5 p j rfl]; exact (gi p hp).2.2.1 j hj
  have p6 : ∀ p j, p < 12 → j < 12 → m_gi (m_al hE 71 1) 6 p j = 2001 := fun p j hp hj => by rw [FC.1 6 p j rfl]; exact (gi p hp).2.2.2 j hj
  refine ⟨hC, hE, a1, rfl, nxC 70 (by decide), c1, nxE, ?_, E1, ?_, ?_⟩
  · generalize m_al hE 71 1 = h' at *
    refine ⟨?_, ?_, ?_, ?_, ?_, ?_, ?_, ?_, ?_, ?_, ?_, ?_, ?_, ?_, ?_, ?_, ?_, ?_, ?_, ?_, ?_, ?_, ?_, ?_⟩
    · exact ⟨gC 69 1 17 rfl (by decide), gC 69 2 18 rfl (by decide), gC 69 3 19 rfl (by decide), gC 69 5 20 rfl (by decide), gC 69 7 21 rfl (by decide), gC 69 8 22 rfl (by decide), gC 69 9 23 rfl (by decide), gC 69 10 24 rfl (by decide), gC 69 11 25 rfl (by decide), gC 21 1 11 rfl (by decide), gC 21 2 12 rfl (by decide), gC 21 3 13 rfl (by decide), gC 22 0 14 rfl (by decide), gC 22 2 15 rfl (by decide), gC 23 0 8 rfl (by decide), gC 23 1 9 rfl (by decide), gC 23 2 10 rfl (by decide), gC 24 0 2 rfl (by decide), gC 24 2 3 rfl (by decide), gC 24 3 4 rfl (by decide), fun k hk => by
        rw [FC.2.1 18 0 k rfl, FC.2.1 26 k 1 rfl, FC.2.1 26 k 2 rfl, FC.2.1 26 k 3 rfl]; exact gr k hk⟩
    · exact ⟨gM 70 2 31 rfl (by decide), gM 70 3 32 rfl (by decide), gM 70 5 33 rfl (by decide), gM 70 6 34 rfl (by decide), gM 70 7 35 rfl (by decide), gM 70 8 36 rfl (by decide), gM 70 9 37 rfl (by decide), gM 70 10 38 rfl (by decide), gM 70 11 39 rfl (by decide), gM 70 12 40 rfl (by decide), gM 70 13 41 rfl (by decide), gM 70 14 42 rfl (by decide), gM 70 15 43 rfl (by decide), gM 70 16 44 rfl (by decide), gM 70 18 45 rfl (by decide), gM 70 19 46 rfl (by decide), gM 70 21 47 rfl (by decide), gM 70 22 48 rfl (by decide), gM 70 23 49 rfl (by decide), gM 70 25 50 rfl (by decide), gM 70 26 51 rfl (by decide), gM 70 27 52 rfl (by decide), gM 70 28 53 rfl (by decide), gM 70 31 54 rfl (by decide), gM 70 32 55 rfl (by decide), gM 70 33 56 rfl (by decide), gM 70 34 57 rfl (by decide), gM 70 35 58 rfl (by decide), gM 70 36 59 rfl (by decide), gM 70 38 60 rfl (by decide), gM 70 39 61 rfl (by decide), gM 70 40 62 rfl (by decide), gM 70 41 63 rfl (by decide), gM 70 42 64 rfl (by decide), gM 70 43 65 rfl (by decide), gM 70 44 66 rfl (by decide), gM 70 45 67 rfl (by decide), gM 70 46 68 rfl (by decide)⟩
    · exact ⟨0, by omega, iC 69 0 rfl (by decide), iM 70 1 rfl (by decide)⟩
    · exact ⟨fun p o hp ho => by rw [iM 31 _ rfl (by decide), p26 p 0 hp, b_0, bI_f], fun p i hp _ => by rw [p26 p 0 hp, b_0]⟩
    · exact ⟨fun f hf => ⟨f, hf, e32 f hf⟩, fun f g hf hg => by
        rw [e17 f hf, e32 f hf, e32 g hg, bt_one hf hg, Bool.eq_iff_iff, decide_eq_true_eq, decide_eq_true_eq, i_eq (by omega) (by omega)]
        exact ⟨fun z => z.symm, fun z => z.symm⟩⟩
    · exact ⟨by omega, iC 69 4 rfl (by decide), iM 70 4 rfl (by decide), nx0 27 rfl (by decide), nx0 16 rfl (by decide), fun k hk => by omega⟩
    · exact fun k hk => by omega
    · exact ⟨fun k hk => by omega, fun k _ hk => iM 35 k rfl (by decide)⟩
    · exact fun k hk => by omega
    · exact ⟨fun k hk => by omega, fun k hk => by rw [iM 38 k rfl (by decide)]; rfl, fun k _ hk => iM 38 k rfl (by decide)⟩
    · exact fun k hk => by omega
    · exact ⟨fun k hk => by omega, fun k i hk _ => by rw [iM 40 k rfl (by decide), b_0], fun k _ hk => iM 40 k rfl (by decide)⟩
    · exact ⟨fun k hk => by omega, fun k i hk _ => by rw [iM 41 k rfl (by decide), b_0], fun k _ hk => iM 41 k rfl (by decide)⟩
    · exact ⟨fun k hk => by omega, fun k hk => by rw [iM 42 k rfl (by decide)]; rfl, fun k _ hk => iM 42 k rfl (by decide)⟩
    · exact ⟨fun k hk => by omega, fun k hk => by rw [iM 43 k rfl (by decide)]; rfl, fun k _ hk => iM 43 k rfl (by decide)⟩
    · exact ⟨fun k hk => by omega, fun k _ hk => iM 44 k rfl (by decide)⟩
    · exact ⟨by omega, iC 69 6 rfl (by decide), iM 70 17 rfl (by decide), nx0 28 rfl (by decide), fun c hc => by omega⟩
    · exact ⟨by omega, iC 21 0 rfl (by decide), iM 70 20 rfl (by decide), fun t ht => by omega, fun t _ ht => iM 47 t rfl (by decide)⟩
    · refine ⟨fun t ht => (by rw [iC 12 t rfl (by decide), iM 49 t rfl (by decide)]), fun t u ht hb => (by rw [iM 49 t rfl (by decide), b_0] at hb; cases hb), fun t u ht hu => ?_⟩
      rw [iC 13 t rfl (by decide), b_0]
      refine ⟨fun z => (by cases z), fun z => ?_⟩
      have : ∃ a, bt (m_gi h' 49 0 a) u = true := by
        cases z with
        | single r => exact ⟨_, r.2⟩
        | tail _ r => exact ⟨_, r.2⟩
      obtain ⟨a, ha⟩ := this
      rw [iM 49 a rfl (by decide), b_0] at ha
      cases ha
    · exact ⟨0, by omega, iC 22 1 rfl (by decide), iM 70 24 rfl (by decide), fun i hi => by omega⟩
    · exact ⟨by omega, iC 24 1 rfl (by decide), iM 70 30 rfl (by decide), nx0 29 rfl (by decide), fun k hk => by omega⟩
    · exact ⟨by omega, iC 69 12 rfl (by decide), iM 70 37 rfl (by decide), nx0 30 rfl (by decide), fun k hk => by omega, fun k hk => by rw [iM 63 k rfl (by decide), iM 64 k rfl (by decide), iM 65 k rfl (by decide)]; exact ⟨rfl, rfl, rfl⟩, fun k _ hk => ⟨iM 63 k rfl (by decide), iM 65 k rfl (by decide)⟩⟩
    · exact ⟨fun p w hp hw => Or.inl ⟨p5 p w hp hw, e66 _ (by omega)⟩, fun p q hp hq => Or.inl ⟨p6 p q hp hq, e67 _ (by omega)⟩⟩
    · exact ⟨fun p w c hp hw hc => by rw [iM 68 _ rfl (by decide), p7 p w hp, b_0, bI_f], fun t ht => by rw [iC 13 t rfl (by decide), b_0], fun k hk => by omega⟩
  · rw [nc_al, c4.2.2.1, c2.2.2.2.2.1]; decide
  · rw [ns_al, c4.2.2.2.1, c2.2.2.2.2.2]; decide
