/-! ## both objects as they are made -/
section EQI
variable {S : Nat × Nat → Bool} {ρ : Nat × Nat → Nat × Nat} {d d1 d2 : Nat → Nat} {h g h1 g1 : am_H}
theorem qa_pR (O : RhoOk S ρ) (R : eqR S ρ h g) {o v : Option (Nat × Nat)} {ci j : Nat} {K K' : am_H → am_R} (ok : okp S o) (ov : okp S v) (k : ∀ h1 g1, eqR S ρ h1 g1 → (∀ s, m_nx h1 s = m_nx h s ∧ m_nx g1 s = m_nx g s) → eqQA S ρ d h1 g1 (K h1) (K' g1)) : eqQA S ρ d h g (m_pR o ci j v h K) (m_pR (o.map ρ) ci j (v.map ρ) g K') :=
  qa_as ok fun a sa _ => qa_ck (isO_rho O sa ci) fun _ => eqQA.step (eqS.sr O R sa j ov) (k _ _ (eqS.sr O R sa j ov).1 (fun _ => ⟨rfl, rfl⟩))
theorem qa_sI (O : RhoOk S ρ) (R : eqR S ρ h g) {o : Option (Nat × Nat)} {i x : Int32} {K K' : am_H → am_R} (ok : okp S o) (k : ∀ h1 g1, eqR S ρ h1 g1 → (∀ s, m_nx h1 s = m_nx h s ∧ m_nx g1 s = m_nx g s) → eqQA S ρ d h1 g1 (K h1) (K' g1)) : eqQA S ρ d h g (m_sI o i x h K) (m_sI (o.map ρ) i x g K') :=
  qa_as ok fun a sa _ => qa_ck (by rw [isA_rho O sa, (O.1 a sa).2.2.1]) fun _ => eqQA.step (eqS.si O R sa _ x) (k _ _ (eqS.si O R sa _ x).1 (fun _ => ⟨rfl, rfl⟩))
theorem qa_sR (O : RhoOk S ρ) (R : eqR S ρ h g) {o v : Option (Nat × Nat)} {t c : Nat} {i : Int32} {K K' : am_H → am_R} (ok : okp S o) (ov : okp S v) (k : ∀ h1 g1, eqR S ρ h1 g1 → (∀ s, m_nx h1 s = m_nx h s ∧ m_nx g1 s = m_nx g s) → eqQA S ρ d h1 g1 (K h1) (K' g1)) : eqQA S ρ d h g (m_sR o t c i v h K) (m_sR (o.map ρ) t c i (v.map ρ) g K') :=
  qa_as ok fun a sa _ => qa_as ov fun w sw _ => qa_ck (by rw [isO_rho O sw, isQ_rho O sa, (O.1 a sa).2.2.1]) fun _ => eqQA.step (eqS.sr O R sa _ (okp_s sw)) (k _ _ (eqS.sr O R sa _ (okp_s sw)).1 (fun _ => ⟨rfl, rfl⟩))
def ds (d1 d2 : Nat → Nat) (s : Nat) : Nat := d1 s + d2 s
theorem qa_bWB {r r' : am_R} {k k' : am_H → am_R} (a : eqQA S ρ d1 h g r r') (b : ∀ h1 g1, eqR S ρ h1 g1 → (∀ s, m_nx h1 s = m_nx h s + d1 s ∧ m_nx g1 s = m_nx g s + d1 s) → eqQA S ρ d2 h1 g1 (k h1) (k' g1)) : eqQA S ρ (ds d1 d2) h g (m_bW r k) (m_bW r' k') := by
  rcases a with ⟨rfl, rfl⟩ | ⟨h', g', o, o', rfl, rfl, a3, a4, a5⟩
  · exact qa_none
  · rcases o with (_ | x | x | x) | x <;> rcases o' with (_ | y | y | y) | y <;> first | exact a4.elim | exact qa_none | skip
    have n : ∀ s, m_nx h' s = m_nx h s + d1 s ∧ m_nx g' s = m_nx g s + d1 s := fun s => by
      obtain ⟨e, e1, e2⟩ := a3.2.2.2.1
      have q1 := a5 _ rfl s
      have q2 := e2 s
      omega
    rcases b h' g' a3.1 n with B | ⟨h2, g2, o, o', b1, b2, b3, b4, b5⟩
    · exact Or.inl B
    · exact Or.inr ⟨h2, g2, o, o', b1, b2, a3.trans b3, b4, fun v e s => by rw [b5 v e s, (n s).1]; unfold ds; omega⟩
/-- where the next things at these places come to lie -/
def NBx (S : Nat × Nat → Bool) (ρ : Nat × Nat → Nat × Nat) (L : List Nat) (h g : am_H) : Prop := ∀ s, s ∈ L → S (s, m_nx h s) = true ∧ ρ (s, m_nx h s) = (s, m_nx g s)
theorem NBx.mv {L : List Nat} (A : NBx S ρ L h g) (n : ∀ s, m_nx h1 s = m_nx h s ∧ m_nx g1 s = m_nx g s) : NBx S ρ L h1 g1 := fun s hs => by rw [(n s).1, (n s).2]; exact A s hs
theorem NBx.al {t n m : Nat} {L : List Nat} (A : NBx S ρ (t :: L) h g) (hL : t ∉ L) : NBx S ρ L (m_al h t n) (m_al g t m) := fun s hs => by
  have hst : s ≠ t := fun z => hL (z ▸ hs)
  rw [nx_al hst, nx_al hst]; exact A s (List.mem_cons_of_mem _ hs)
theorem NBx.mvd {L L' : List Nat} (A : NBx S ρ L h g) {d : Nat → Nat} (n : ∀ s, m_nx h1 s = m_nx h s + d s ∧ m_nx g1 s = m_nx g s + d s) (hs : ∀ s, s ∈ L' → s ∈ L) (h0 : ∀ s, s ∈ L' → d s = 0) : NBx S ρ L' h1 g1 := fun s q => by
  rw [(n s).1, (n s).2, h0 s q]; exact A s (hs s q)
theorem qa_np (O : RhoOk S ρ) (R : eqR S ρ h g) {t n ci j : Nat} {L : List Nat} {a0 : Nat × Nat} (s_a0 : S a0 = true) (A : NBx S ρ (t :: L) h g) (hL : t ∉ L) {K K' : am_H → am_R} (k : ∀ h3 g3, eqR S ρ h3 g3 → NBx S ρ L h3 g3 → (∀ s, s ≠ t → m_nx h3 s = m_nx h s ∧ m_nx g3 s = m_nx g s) → eqQA S ρ d h3 g3 (K h3) (K' g3)) : eqQA S ρ (dp t d) h g (m_new t n h fun a h2 => m_pR (some a0) ci j (some a) h2 K) (m_new t n g fun a h2 => m_pR (some (ρ a0)) ci j (some a) h2 K') := by
  obtain ⟨ss, e⟩ := A t List.mem_cons_self
  refine qa_new O R ss e (fun R => ?_)
  exact qa_pR O R (okp_s s_a0) (okp_s ss) (fun h3 g3 R n => k h3 g3 R ((A.al hL).mv n) (fun s hs => ⟨by rw [(n s).1, nx_al hs], by rw [(n s).2, nx_al hs]⟩))
/-- the same, where what is made is made of more -/
theorem qa_nbp (O : RhoOk S ρ) (R : eqR S ρ h g) {t n ci j : Nat} {L1 L : List Nat} {a0 : Nat × Nat} (s_a0 : S a0 = true) (A : NBx S ρ (t :: (L1 ++ L)) h g) (hL : t ∉ L1 ++ L) (h0 : ∀ s, s ∈ L → d1 s = 0) {F : Nat × Nat → am_H → am_R} (hF : ∀ (a : Nat × Nat) (h g : am_H), a.1 = t → S a = true → eqR S ρ h g → NBx S ρ L1 h g → eqQA S ρ d1 h g (F a h) (F (ρ a) g)) {K K' : am_H → am_R} (k : ∀ h3 g3, eqR S ρ h3 g3 → NBx S ρ L h3 g3 → (∀ s, s ≠ t → d1 s = 0 → m_nx h3 s = m_nx h s ∧ m_nx g3 s = m_nx g s) → eqQA S ρ d2 h3 g3 (K h3) (K' g3)) : eqQA S ρ (dp t (ds d1 d2)) h g (m_new t n h fun a h2 => m_bW (F a h2) fun h3 => m_pR (some a0) ci j (some a) h3 K) (m_new t n g fun a h2 => m_bW (F a h2) fun h3 => m_pR (some (ρ a0)) ci j (some a) h3 K') := by
  obtain ⟨ss, e⟩ := A t List.mem_cons_self
  have A1 := A.al (n := n) (m := n) hL
  refine qa_new O R ss e (fun R => ?_)
  refine qa_bWB (hF _ _ _ rfl ss R (fun s hs => A1 s (List.mem_append_left _ hs))) (fun h1 g1 R m => ?_)
  have A2 : NBx S ρ L h1 g1 := A1.mvd m (fun s hs => List.mem_append_right _ hs) h0
  refine qa_pR O R (okp_s s_a0) (okp_s ss) (fun h3 g3 R n => k h3 g3 R (A2.mv n) (fun s hs hd => ⟨?_, ?_⟩))
  · rw [(n s).1, (m s).1, hd, nx_al hs]; rfl
  · rw [(n s).2, (m s).2, hd, nx_al hs]; rfl
end EQI
section INI
variable {b : Bool} {h g : am_H}
def LL : List Nat := [17, 18, 19, 20, 21, 11, 12, 13, 22, 14, 15, 23, 8, 9, 10, 24, 2, 3, 4, 25]
def d7 : Nat → Nat := dp 11 (dp 12 (dp 13 d0))
def d8 : Nat → Nat := dp 14 (dp 15 (ds d0 d0))
def d5 : Nat → Nat := dp 8 (dp 9 (dp 10 d0))
def d2i : Nat → Nat := dp 2 (dp 3 (dp 4 d0))
def d3 : Nat → Nat := dp 5 (dp 6 (dp 7 d0))
def dl : Nat → Nat → Nat
  | 0 => d0
  | m + 1 => dp 26 (ds d3 (dl m))
def FK (b : Bool) (k : Nat) (h g : am_H) : Prop := ∀ s, s ∈ [26, 5, 6, 7] → m_nx h s = k ∧ m_nx g s = k + 12 * bN b
theorem FK.mv {k : Nat} {h1 g1 : am_H} (A : FK b k h g) (n : ∀ s, m_nx h1 s = m_nx h s ∧ m_nx g1 s = m_nx g s) : FK b k h1 g1 := fun s hs => by rw [(n s).1, (n s).2]; exact A s hs
theorem FK.nb {k : Nat} (A : FK b k h g) (hk : k < 12) : NBx Sc (rhoS b) [26, 5, 6, 7] h g := fun s hs => by
  obtain ⟨e1, e2⟩ := A s hs
  rw [e1, e2]
  simp only [List.mem_cons, List.not_mem_nil, or_false] at hs
  have q : s ≠ 69 ∧ (s = 5 ∨ s = 6 ∨ s = 7 ∨ s = 26) := by omega
  refine ⟨?_, ?_⟩
  · rcases hs with rfl | rfl | rfl | rfl <;> rfl
  · unfold rhoS
    rw [if_neg q.1, if_pos q.2, if_pos hk]
theorem ei_X7 (a0 : Nat × Nat) (h g : am_H) (_ : a0.1 = 21) (s_a0 : Sc a0 = true) (R : eqR Sc (rhoS b) h g) (A : NBx Sc (rhoS b) [11, 12, 13] h g) : eqQA Sc (rhoS b) d7 h g (f_X7_init a0 h) (f_X7_init (rhoS b a0) g) := by
  rw [f_X7_init, f_X7_init]
  refine qa_np (rhoS_ok b) R s_a0 A (by decide) (fun h g R A _ => ?_)
  refine qa_np (rhoS_ok b) R s_a0 A (by decide) (fun h g R A _ => ?_)
  refine qa_np (rhoS_ok b) R s_a0 A (by decide) (fun h g R A _ => ?_)
  exact eqQ.toA (q_rtn R)
theorem ei_X5 (a0 : Nat × Nat) (h g : am_H) (_ : a0.1 = 23) (s_a0 : Sc a0 = true) (R : eqR Sc (rhoS b) h g) (A : NBx Sc (rhoS b) [8, 9, 10] h g) : eqQA Sc (rhoS b) d5 h g (f_X5_init a0 h) (f_X5_init (rhoS b a0) g) := by
  rw [f_X5_init, f_X5_init]
  refine qa_np (rhoS_ok b) R s_a0 A (by decide) (fun h g R A _ => ?_)
  refine qa_np (rhoS_ok b) R s_a0 A (by decide) (fun h g R A _ => ?_)
  refine qa_np (rhoS_ok b) R s_a0 A (by decide) (fun h g R A _ => ?_)
  exact eqQ.toA (q_rtn R)
theorem ei_X2 (a0 : Nat × Nat) (h g : am_H) (_ : a0.1 = 24) (s_a0 : Sc a0 = true) (R : eqR Sc (rhoS b) h g) (A : NBx Sc (rhoS b) [2, 3, 4] h g) : eqQA Sc (rhoS b) d2i h g (f_X2_init a0 h) (f_X2_init (rhoS b a0) g) := by
  rw [f_X2_init, f_X2_init]
  refine qa_np (rhoS_ok b) R s_a0 A (by decide) (fun h g R A _ => ?_)
  refine qa_np (rhoS_ok b) R s_a0 A (by decide) (fun h g R A _ => ?_)
  refine qa_np (rhoS_ok b) R s_a0 A (by decide) (fun h g R A _ => ?_)
  exact eqQ.toA (q_rtn R)
theorem ei_X8 (a0 : Nat × Nat) (h g : am_H) (_ : a0.1 = 22) (s_a0 : Sc a0 = true) (R : eqR Sc (rhoS b) h g) (A : NBx Sc (rhoS b) [14, 15] h g) : eqQA Sc (rhoS b) d8 h g (f_X8_init a0 h) (f_X8_init (rhoS b a0) g) := by
  rw [f_X8_init, f_X8_init]
  refine qa_np (rhoS_ok b) R s_a0 A (by decide) (fun h g R A _ => ?_)
  refine qa_nbp (rhoS_ok b) R (L1 := []) (L := []) s_a0 A (by decide) (fun _ _ => rfl) (F := f_X4_init) (fun a h g _ sa R _ => eqQ.toA (e_X4_init (rhoS_ok b) R a sa)) (fun h g R A _ => ?_)
  exact eqQ.toA (q_rtn R)
theorem ei_X3 (a0 : Nat × Nat) (h g : am_H) (s_a0 : Sc a0 = true) (R : eqR Sc (rhoS b) h g) (A : NBx Sc (rhoS b) [5, 6, 7] h g) : eqQA Sc (rhoS b) d3 h g (f_X3_init a0 h) (f_X3_init (rhoS b a0) g) := by
  rw [f_X3_init, f_X3_init]
  refine qa_np (rhoS_ok b) R s_a0 A (by decide) (fun h g R A _ => ?_)
  refine qa_np (rhoS_ok b) R s_a0 A (by decide) (fun h g R A _ => ?_)
  refine qa_np (rhoS_ok b) R s_a0 A (by decide) (fun h g R A _ => ?_)
  refine qa_gR (rhoS_ok b) R (okp_s s_a0) (fun o p => ?_)
  refine qa_bV (e_J7_fill_53178 (rhoS_ok b) R _ p _) (fun h g R _ => ?_)
  refine qa_gR (rhoS_ok b) R (okp_s s_a0) (fun o p => ?_)
  refine qa_bV (e_J7_fill_53178 (rhoS_ok b) R _ p _) (fun h g R _ => ?_)
  exact eqQ.toA (q_rtn R)
theorem ei_117 (a0 : Nat × Nat) (s_a0 : Sc a0 = true) : ∀ (m n k : Nat) (h g : am_H), k + m = 12 → m < n → eqR Sc (rhoS b) h g → FK b k h g → eqQA Sc (rhoS b) (dl m) h g (f_X10_init_117 n a0 (nI k) h) (f_X10_init_117 n (rhoS b a0) (nI k) g)
  | _, 0, _, _, _, _, hn, _, _ => by omega
  | 0, n + 1, k, h, g, hk, hn, R, A => by
    rw [f_X10_init_117, f_X10_init_117, if_pos (show (12 : Int32) ≤ nI k from (nI_leI (a := 12) (b := k) (by omega) (by omega)).mpr (by omega)), if_pos (show (12 : Int32) ≤ nI k from (nI_leI (a := 12) (b := k) (by omega) (by omega)).mpr (by omega))]
    exact eqQ.toA (q_rtn R)
  | m + 1, n + 1, k, h, g, hk, hn, R, A => by
    have hk2 : ¬ (12 : Int32) ≤ nI k := fun z => by have := (nI_leI (a := 12) (b := k) (by omega) (by omega)).mp z; omega
    rw [f_X10_init_117, f_X10_init_117, if_neg hk2, if_neg hk2]
    have B := A.nb (by omega)
    obtain ⟨ss, e⟩ := B 26 List.mem_cons_self
    have B1 := B.al (n := 4) (m := 4) (by decide)
    refine qa_gR (rhoS_ok b) R (okp_s s_a0) (fun o p => ?_)
    refine qa_new (rhoS_ok b) R ss e (fun R => ?_)
    refine qa_bWB (ei_X3 _ _ _ ss R B1) (fun h1 g1 R m1 => ?_)
    refine qa_sR (rhoS_ok b) R p (okp_s ss) (fun h3 g3 R n3 => ?_)
    rw [nI_1]
    refine ei_117 a0 s_a0 m n (k + 1) h3 g3 (by omega) (by omega) R (fun s hs => ?_)
    obtain ⟨f1, f2⟩ := A s hs
    rw [(n3 s).1, (n3 s).2, (m1 s).1, (m1 s).2]
    by_cases z : s = 26
    · subst z
      have q : m_nx (m_al h 26 4) 26 = m_nx h 26 + 1 ∧ m_nx (m_al g 26 4) 26 = m_nx g 26 + 1 := ⟨rfl, rfl⟩
      rw [q.1, q.2, show d3 26 = 0 by decide, f1, f2]; omega
    · rw [nx_al z, nx_al z, f1, f2]
      have q : d3 s = 1 := (by decide : ∀ s, s ∈ [26, 5, 6, 7] → s ≠ 26 → d3 s = 1) s hs z
      rw [q]; omega
theorem ei_94 (a0 : Nat × Nat) (s_a0 : Sc a0 = true) : ∀ (n : Nat) (x : Int32) (h g : am_H), eqR Sc (rhoS b) h g → FK b 0 h g → eqQA Sc (rhoS b) (dl 12) h g (f_X10_init_94 n a0 x h) (f_X10_init_94 n (rhoS b a0) x g)
  | 0, _, _, _, _, _ => qa_none
  | n + 1, x, h, g, R, A => by
    rw [f_X10_init_94, f_X10_init_94]
    refine qa_ite (fun _ => ei_117 a0 s_a0 12 5000 0 h g (by omega) (by omega) R A) (fun _ => ?_)
    refine qa_gR (rhoS_ok b) R (okp_s s_a0) (fun o p => ?_)
    refine qa_sI (rhoS_ok b) R p (fun h1 g1 R m => ?_)
    exact ei_94 a0 s_a0 n _ h1 g1 R (A.mv m)
def dI : Nat → Nat := dp 17 (dp 18 (dp 19 (dp 20 (dp 21 (ds d7 (dp 22 (ds d8 (dp 23 (ds d5 (dp 24 (ds d2i (dp 25 (dl 12)))))))))))))
theorem ei_X10 (R : eqR Sc (rhoS b) h g) (A : NBx Sc (rhoS b) LL h g) (F : FK b 0 h g) : eqQA Sc (rhoS b) dI h g (f_X10_init (69, 0) h) (f_X10_init (rhoS b (69, 0)) g) := by
  have s69 : Sc (69, 0) = true := rfl
  have mv : ∀ {t : Nat} {h1 g1 : am_H} {h g : am_H}, t ∉ [26, 5, 6, 7] → FK b 0 h g → (∀ s, s ≠ t → m_nx h1 s = m_nx h s ∧ m_nx g1 s = m_nx g s) → FK b 0 h1 g1 := fun {t h1 g1 h g} ht F n s hs => by
    have := n s (fun z => ht (z ▸ hs))
    rw [this.1, this.2]; exact F s hs
  have mv2 : ∀ {t : Nat} {d : Nat → Nat} {h1 g1 : am_H} {h g : am_H}, t ∉ [26, 5, 6, 7] → (∀ s, s ∈ [26, 5, 6, 7] → d s = 0) → FK b 0 h g → (∀ s, s ≠ t → d s = 0 → m_nx h1 s = m_nx h s ∧ m_nx g1 s = m_nx g s) → FK b 0 h1 g1 := fun {t d h1 g1 h g} ht hd F n s hs => by
    have := n s (fun z => ht (z ▸ hs)) (hd s hs)
    rw [this.1, this.2]; exact F s hs
  rw [f_X10_init, f_X10_init]
  unfold LL at A
  refine qa_np (rhoS_ok b) R s69 A (by decide) (fun h g R A n => ?_)
  have F := mv (by decide) F n
  refine qa_np (rhoS_ok b) R s69 A (by decide) (fun h g R A n => ?_)
  have F := mv (by decide) F n
  refine qa_np (rhoS_ok b) R s69 A (by decide) (fun h g R A n => ?_)
  have F := mv (by decide) F n
  refine qa_np (rhoS_ok b) R s69 A (by decide) (fun h g R A n => ?_)
  have F := mv (by decide) F n
  refine qa_nbp (rhoS_ok b) R (L1 := [11, 12, 13]) (L := [22, 14, 15, 23, 8, 9, 10, 24, 2, 3, 4, 25]) s69 A (by decide) (by decide) (fun a h g e sa R A => ei_X7 a h g e sa R A) (fun h g R A n => ?_)
  have F := mv2 (by decide) (by decide) F n
  refine qa_nbp (rhoS_ok b) R (L1 := [14, 15]) (L := [23, 8, 9, 10, 24, 2, 3, 4, 25]) s69 A (by decide) (by decide) (fun a h g e sa R A => ei_X8 a h g e sa R A) (fun h g R A n => ?_)
  have F := mv2 (by decide) (by decide) F n
  refine qa_nbp (rhoS_ok b) R (L1 := [8, 9, 10]) (L := [24, 2, 3, 4, 25]) s69 A (by decide) (by decide) (fun a h g e sa R A => ei_X5 a h g e sa R A) (fun h g R A n => ?_)
  have F := mv2 (by decide) (by decide) F n
  refine qa_nbp (rhoS_ok b) R (L1 := [2, 3, 4]) (L := [25]) s69 A (by decide) (by decide) (fun a h g e sa R A => ei_X2 a h g e sa R A) (fun h g R A n => ?_)
  have F := mv2 (by decide) (by decide) F n
  refine qa_np (rhoS_ok b) R s69 A (by decide) (fun h g R A n => ?_)
  exact ei_94 (69, 0) s69 5000 0 h g R (mv (by decide) F n)
end INI
def dM : Nat → Nat := dp 31 (dp 32 (dp 33 (dp 34 (dp 35 (dp 36 (dp 37 (dp 38 (dp 39 (dp 40 (dp 41 (dp 42 (dp 43 (dp 44 (dp 45 (dp 46 (dp 47 (dp 48 (dp 49 (dp 50 (dp 51 (dp 52 (dp 53 (dp 54 (dp 55 (dp 56 (dp 57 (dp 58 (dp 59 (dp 60 (dp 61 (dp 62 (dp 63 (dp 64 (dp 65 (dp 66 (dp 67 (dp 68 (d0))))))))))))))))))))))))))))))))))))))
def LM : List Nat := [31, 32, 33, 34, 35, 36, 37, 38, 39, 40, 41, 42, 43, 44, 45, 46, 47, 48, 49, 50, 51, 52, 53, 54, 55, 56, 57, 58, 59, 60, 61, 62, 63, 64, 65, 66, 67, 68]
theorem ei_X11 {h : am_H} (R : eqR Sm id h h) (A : NBx Sm id LM h h) : eqQA Sm id dM h h (f_X11_init (70, 0) h) (f_X11_init (70, 0) h) := by
  have s70 : Sm (70, 0) = true := rfl
  have key : ∀ g, eqR Sm id h g → NBx Sm id LM h g → eqQA Sm id dM h g (f_X11_init (70, 0) h) (f_X11_init (id (70, 0)) g) := fun g R A => by
    rw [f_X11_init, f_X11_init]
    unfold LM at A
    refine qa_np id_ok R s70 A (by decide) (fun h g R A _ => ?_)
    refine qa_np id_ok R s70 A (by decide) (fun h g R A _ => ?_)
    refine qa_np id_ok R s70 A (by decide) (fun h g R A _ => ?_)
    refine qa_np id_ok R s70 A (by decide) (fun h g R A _ => ?_)
    refine qa_np id_ok R s70 A (by decide) (fun h g R A _ => ?_)
    refine qa_np id_ok R s70 A (by decide) (fun h g R A _ => ?_)
    refine qa_np id_ok R s70 A (by decide) (fun h g R A _ => ?_)
    refine qa_np id_ok R s70 A (by decide) (fun h g R A _ => ?_)
    refine qa_np id_ok R s70 A (by decide) (fun h g R A _ => ?_)
    refine qa_np id_ok R s70 A (by decide) (fun h g R A _ => ?_)
    refine qa_np id_ok R s70 A (by decide) (fun h g R A _ => ?_)
    refine qa_np id_ok R s70 A (by decide) (fun h g R A _ => ?_)
    refine qa_np id_ok R s70 A (by decide) (fun h g R A _ => ?_)
    refine qa_np id_ok R s70 A (by decide) (fun h g R A _ => ?_)
    refine qa_np id_ok R s70 A (by decide) (fun h g R A _ => ?_)
    refine qa_np id_ok R s70 A (by decide) (fun h g R A _ => ?_)
    refine qa_np id_ok R s70 A (by decide) (fun h g R A _ => ?_)
    refine qa_np id_ok R s70 A (by decide) (fun h g R A _ => ?_)
    refine qa_np id_ok R s70 A (by decide) (fun h g R A _ => ?_)
    refine qa_np id_ok R s70 A (by decide) (fun h g R A _ => ?_)
    refine qa_np id_ok R s70 A (by decide) (fun h g R A _ => ?_)
    refine qa_np id_ok R s70 A (by decide) (fun h g R A _ => ?_)
    refine qa_np id_ok R s70 A (by decide) (fun h g R A _ => ?_)
    refine qa_np id_ok R s70 A (by decide) (fun h g R A _ => ?_)
    refine qa_np id_ok R s70 A (by decide) (fun h g R A _ => ?_)
    refine qa_np id_ok R s70 A (by decide) (fun h g R A _ => ?_)
    refine qa_np id_ok R s70 A (by decide) (fun h g R A _ => ?_)
    refine qa_np id_ok R s70 A (by decide) (fun h g R A _ => ?_)
    refine qa_np id_ok R s70 A (by decide) (fun h g R A _ => ?_)
    refine qa_np id_ok R s70 A (by decide) (fun h g R A _ => ?_)
    refine qa_np id_ok R s70 A (by decide) (fun h g R A _ => ?_)
    refine qa_np id_ok R s70 A (by decide) (fun h g R A _ => ?_)
    refine qa_np id_ok R s70 A (by decide) (fun h g R A _ => ?_)
    refine qa_np id_ok R s70 A (by decide) (fun h g R A _ => ?_)
    refine qa_np id_ok R s70 A (by decide) (fun h g R A _ => ?_)
    refine qa_np id_ok R s70 A (by decide) (fun h g R A _ => ?_)
    refine qa_np id_ok R s70 A (by decide) (fun h g R A _ => ?_)
    refine qa_np id_ok R s70 A (by decide) (fun h g R A _ => ?_)
    exact eqQ.toA (e_X11_init_316 id_ok 5000 R (70, 0) s70 0)
  exact key h R A
