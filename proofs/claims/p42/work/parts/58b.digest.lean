/-! ## digest -/
def dgH (h : am_H) (p k j i : Nat) : Bool := decide (i / 160 = p) && (decide (i / 8 % 20 < k) || (decide (i / 8 % 20 = k) && decide (i % 8 < j))) && decide (i % 8 < Cw h (i / 8 % 20)) && nwsP h p (i / 8 % 20) (i % 8)
theorem dgH_end {h : am_H} {p k i : Nat} : dgH h p k (Cw h k) i = dgH h p (k + 1) 0 i := by
  unfold dgH
  by_cases e : i / 8 % 20 = k
  · rw [e]
    by_cases e2 : i % 8 < Cw h k
    · simp [e2]
    · simp [e2]
  · have : (i / 8 % 20 < k + 1) = (i / 8 % 20 < k) := propext (by omega)
    simp [e, this]
theorem dgH_next {h : am_H} {p k j i : Nat} (hk : k < 20) (hj : j < 8) (hC : j < Cw h k) : dgH h p k (j + 1) i = if i = 8 * (20 * p + k) + j then nwsP h p k j else dgH h p k j i := by
  unfold dgH
  by_cases e : i = 8 * (20 * p + k) + j
  · subst e
    have a1 : (8 * (20 * p + k) + j) / 160 = p := by omega
    have a2 : (8 * (20 * p + k) + j) / 8 % 20 = k := by omega
    have a3 : (8 * (20 * p + k) + j) % 8 = j := by omega
    rw [a1, a2, a3]
    simp [hC]
  · rw [if_neg e]
    by_cases e1 : i / 160 = p
    · by_cases e2 : i / 8 % 20 = k
      · have e3 : ¬ i % 8 = j := fun z => e (by omega)
        have : (i % 8 < j + 1) = (i % 8 < j) := propext (by omega)
        simp only [this]
      · simp [e2]
    · simp [e1]
theorem dgH_no {h : am_H} {p k j : Nat} (hk : k < 20) (hj : j < 8) : dgH h p k j (8 * (20 * p + k) + j) = false := by
  unfold dgH
  have a2 : (8 * (20 * p + k) + j) / 8 % 20 = k := by omega
  have a3 : (8 * (20 * p + k) + j) % 8 = j := by omega
  rw [a2, a3]
  simp
theorem dgH_00 {h : am_H} {p i : Nat} : dgH h p 0 0 i = false := by
  unfold dgH
  simp
theorem nwsP_frm {P : Nat → Nat → Bool} {h g : am_H} (F : Frm P h g) {p w c : Nat} (e68 : m_gi g 68 0 (8 * (20 * p + w) + c) = m_gi h 68 0 (8 * (20 * p + w) + c)) (p1 : P 70 1 = true := by rfl) (p2 : ∀ j, P 34 j = true := by intro _; rfl) (p3 : ∀ j, P 36 j = true := by intro _; rfl) (p4 : ∀ j, P 37 j = true := by intro _; rfl) (p5 : ∀ j, P 38 j = true := by intro _; rfl) (p6 : ∀ j, P 39 j = true := by intro _; rfl) (p7 : ∀ j, P 45 j = true := by intro _; rfl) (p8 : ∀ j, P 46 j = true := by intro _; rfl) (p9 : ∀ j, P 66 j = true := by intro _; rfl) (p10 : ∀ j, P 67 j = true := by intro _; rfl) : nwsP g p w c = nwsP h p w c :=
  nwsP_cong (fun a ha => funext fun k' => funext fun j' => F.1 a k' j' (by rcases ha with rfl | rfl | rfl | rfl | rfl | rfl | rfl | rfl | rfl <;> first | exact p2 _ | exact p3 _ | exact p4 _ | exact p5 _ | exact p6 _ | exact p7 _ | exact p8 _ | exact p9 _ | exact p10 _)) e68 (F.1 70 0 1 p1)
section Digest
variable {W Cn : Nat} {h : am_H}
theorem c_dg16 (H : ShC h) (N : RWn W h) (e69 : m_gi h 69 0 0 = m_gi h 70 0 1) (a : RWa W h) (pp : RWp W h) (l : RWl W h) (o : RWo W Cn h) (C : RCo Cn h) (c : RWc W h) (b : RSb h) (D : RDg h) {p : Nat} (hp : p < 12) : ∀ (n k : Nat) (g : am_H), k ≤ W → W < k + n → Lp (pX [] [7]) h g →
    (∀ q j, m_gi g 7 q j = if q = p ∧ j < k then m_gi h 7 p j ||| setOf (nwsP h p j) (Cw h j) else m_gi h 7 q j) →
    ∃ g', f_X10_digest_16 n (69, 0) (nI p) (some (26, p)) (nI (sumD h p k)) (nI k) g = m_ri g' (nI (sumD h p W)) ∧ Lp (pX [] [7]) h g' ∧ ∀ q j, m_gi g' 7 q j = if q = p ∧ j < W then m_gi h 7 p j ||| setOf (nwsP h p j) (Cw h j) else m_gi h 7 q j
  | 0, k, g, h1, h2, L, V => by omega
  | n + 1, k, g, h1, h2, L, V => by
    have hW := N.1
    have F := L.1
    have N' : RWn W g := N.frm F
    rw [f_X10_digest_16]
    simp only [gI_69, N'.2.1, i_le (show W < 10000 by omega) (show k < 10000 by omega)]
    by_cases hk : W ≤ k
    · have ek : k = W := by omega
      rw [if_pos hk, ek]
      exact ⟨g, rfl, L, by rw [ek] at V; exact V⟩
    · rw [if_neg hk]
      have hkW : k < W := by omega
      have h20 : k < 20 := by omega
      obtain ⟨c1, c2⟩ := Cw_of c hkW
      have cc : m_gi g 35 0 k = nI (Cw h k) := (F.1 35 0 k rfl).trans c2
      have dg : ∀ j, j < 8 → m_gi g 68 0 (8 * (20 * p + k) + j) = bI (bt (m_gi g 7 p k) j) := fun j hj => by
        rw [F.1 68 0 _ rfl, V, if_neg (by omega)]
        exact D p k j hp h20 hj
      have e69' : m_gi g 69 0 0 = m_gi g 70 0 1 := by rw [F.1 69 0 0 rfl, F.1 70 0 1 rfl]; exact e69
      have e := c_newChapters (H.frm F) N' e69' (a.frm F) (pp.frm F) (l.frm F) (o.frm F) (C.frm F) (c.frm F) (b.frm F) hp hkW cc c1 dg
      rw [setOf_congr (fun i _ => nwsP_frm F (F.1 68 0 _ rfl))] at e
      have hb : ∀ i, 12 ≤ i → bt (setOf (nwsP h p k) (Cw h k)) i = false := fun i hi => bt_set_hi _ (n := Cw h k) (by omega) (by omega)
      simp only [ao_69, e, bI_ri, gR_26, pc_dg (H.frm F) hp, aI_7 h20, sI_7 h20, c_bits12 hb, pcn_setOf (P := nwsP h p k) (show Cw h k ≤ 32 by omega), nI_1, nI_add]
      have V' : ∀ q j, m_gi (m_si g 7 p k (m_gi g 7 p k ||| setOf (nwsP h p k) (Cw h k))) 7 q j = if q = p ∧ j < k + 1 then m_gi h 7 p j ||| setOf (nwsP h p j) (Cw h j) else m_gi h 7 q j := fun q j => by
        rw [m_gi_si]
        by_cases e1 : q = p
        · by_cases e2 : j = k
          · rw [if_pos ⟨rfl, e1, e2⟩, V, if_neg (by omega), if_pos ⟨e1, by omega⟩, e2]
          · rw [if_neg (by omega), V]
            by_cases e3 : j < k
            · rw [if_pos ⟨e1, e3⟩, if_pos ⟨e1, by omega⟩]
            · rw [if_neg (by omega), if_neg (by omega)]
        · rw [if_neg (by omega), V, if_neg (by omega), if_neg (by omega)]
      exact c_dg16 H N e69 a pp l o C c b D hp n (k + 1) _ (by omega) (by omega) (L.si rfl) V'
theorem c_dg5 (H : ShC h) (N : RWn W h) (e69 : m_gi h 69 0 0 = m_gi h 70 0 1) (a : RWa W h) (pp : RWp W h) (l : RWl W h) (o : RWo W Cn h) (C : RCo Cn h) (c : RWc W h) (b : RSb h) (D : RDg h) {p : Nat} (hp : p < 12) :
    ∃ g', f_X10_digest_16 5000 (69, 0) (nI p) (some (26, p)) 0 0 h = m_ri g' (nI (sumD h p W)) ∧ Lp (pX [] [7]) h g' ∧ ∀ q j, m_gi g' 7 q j = if q = p ∧ j < W then m_gi h 7 p j ||| setOf (nwsP h p j) (Cw h j) else m_gi h 7 q j := by
  have := c_dg16 H N e69 a pp l o C c b D hp 5000 0 h (by omega) (by have := N.1; omega) (Lp.refl _ h) (fun q j => by rw [if_neg (by omega)])
  rw [sumD, nI_0] at this
  exact this
theorem c_dg_f (H : ShC h) {p : Nat} (hp : p < 12) {g : am_H} {v : Int32} (r : f_X10_digest_16 5000 (69, 0) (nI p) (some (26, p)) 0 0 h = m_ri g v) : f_X10_digest (69, 0) (nI p) h = m_ri g v := by
  rw [f_X10_digest, c_checkPerson hp, bV_rt, gR_69, pc_people H, aR_18 hp, pc_per H hp]
  exact r
theorem r_dg38 (G : ShM h) (a : RWa W h) (o : RWo W Cn h) (C : RCo Cn h) {p k n : Nat} (hp : p < 12) (hk : k < W) (h20 : k < 20) (hn : m_gi h 35 0 k = nI n) (hn8 : n ≤ 8) (hnC : n = Cw h k) (rc : Nat × Nat → Int32 → Int32 → Int32 → Int32 → am_H → am_R) (s : Nat) : ∀ (m j : Nat) (g : am_H), j ≤ n → n < j + m → Lp (pX [] [68]) h g → (∀ i, m_gi g 68 0 i = if dgH h p k j i = true then 1 else m_gi h 68 0 i) →
    ∃ g', f_X11_digest_38 rc m (70, 0) (nI p) (nI (s + cnt (nwsP h p k) j)) 1 (nI k) (nI j) g = rc (70, 0) (nI p) (nI (s + cnt (nwsP h p k) n)) 1 (nI (k + 1)) g' ∧ Lp (pX [] [68]) h g' ∧ ∀ i, m_gi g' 68 0 i = if dgH h p (k + 1) 0 i = true then 1 else m_gi h 68 0 i
  | 0, j, g, h1, h2, L, V => by omega
  | m + 1, j, g, h1, h2, L, V => by
    have F := L.1
    rw [f_X11_digest_38]
    have cc : m_gi g 35 0 k = nI n := (F.1 35 0 k rfl).trans hn
    simp only [gR_70, pm_7 (G.frm F), aI_35 h20, cc, i_le (show n < 10000 by omega) (show j < 10000 by omega), nI_1]
    by_cases hj : n ≤ j
    · have ej : j = n := by omega
      rw [if_pos hj, ej]
      refine ⟨g, rfl, L, fun i => ?_⟩
      rw [← dgH_end, ← hnC, V, ej]
    · rw [if_neg hj]
      have hj8 : j < 8 := by omega
      have e := r_isNews (G.frm F) (a.frm F) (o.frm F) (C.frm F) hp hk h20 hj8
      have e2 : nwsP g p k j = nwsP h p k j := nwsP_frm F (by rw [V, dgH_no h20 hj8]; rfl)
      rw [e2] at e
      have ix : (8 : Int32) * ((20 : Int32) * nI p + nI k) + nI j = nI (8 * (20 * p + k) + j) := by
        show nI 8 * (nI 20 * nI p + nI k) + nI j = _
        rw [pk_mul, nI_add, pk_mul, nI_add]
      simp only [ao_70, e, bI_ri, bI_eq0, f_X11_digest_84, pm_46 (G.frm F), ix, sZ_68 nz_1 (show 8 * (20 * p + k) + j < 1920 by omega), nI_1]
      cases hb : nwsP h p k j
      · rw [if_pos rfl]
        have := r_dg38 G a o C hp hk h20 hn hn8 hnC rc s m (j + 1) g (by omega) (by omega) L (fun i => by
          rw [dgH_next h20 hj8 (by omega), V, hb]
          by_cases ei : i = 8 * (20 * p + k) + j
          · rw [if_pos ei, ei, dgH_no h20 hj8]
          · rw [if_neg ei])
        rw [cnt, hb] at this
        exact this
      · rw [if_neg (by decide)]
        have := r_dg38 G a o C hp hk h20 hn hn8 hnC rc s m (j + 1) (m_si g 68 0 (8 * (20 * p + k) + j) 1) (by omega) (by omega) (L.si rfl) (fun i => by
          rw [dgH_next h20 hj8 (by omega), m_gi_si, hb]
          by_cases ei : i = 8 * (20 * p + k) + j
          · rw [if_pos ⟨rfl, rfl, ei⟩, if_pos ei, if_pos rfl]
          · rw [if_neg (fun z => ei z.2.2), if_neg ei, V])
        rw [cnt, hb] at this
        exact this
theorem r_dg22 (G : ShM h) (e4 : m_gi h 70 0 4 = nI W) (hW : W ≤ 20) (a : RWa W h) (o : RWo W Cn h) (C : RCo Cn h) (c : RWc W h) {p : Nat} (hp : p < 12) (fu : Nat) (hfu : 100 ≤ fu) : ∀ (n k : Nat) (g : am_H), k ≤ W → W < k + n →
    (∀ m, f_X11_digest_38 (f_X11_digest_22 m) 5000 = f_X11_digest_38 (f_X11_digest_22 m) fu) → Lp (pX [] [68]) h g → (∀ i, m_gi g 68 0 i = if dgH h p k 0 i = true then 1 else m_gi h 68 0 i) →
    ∃ g', f_X11_digest_22 n (70, 0) (nI p) (nI (sumD h p k)) 1 (nI k) g = m_ri g' (nI (sumD h p W)) ∧ Lp (pX [] [68]) h g' ∧ ∀ i, m_gi g' 68 0 i = if dgH h p W 0 i = true then 1 else m_gi h 68 0 i
  | 0, k, g, h1, h2, _, L, V => by omega
  | n + 1, k, g, h1, h2, hf, L, V => by
    have F := L.1
    rw [f_X11_digest_22, hf]
    simp only [gI_70, (F.1 70 0 4 rfl).trans e4, i_le (show W < 10000 by omega) (show k < 10000 by omega), f_X11_digest_96]
    by_cases hk : W ≤ k
    · have ek : k = W := by omega
      rw [if_pos hk, ek]
      exact ⟨g, rfl, L, by rw [ek] at V; exact V⟩
    · rw [if_neg hk, if_neg (by decide)]
      have hkW : k < W := by omega
      obtain ⟨c1, c2⟩ := Cw_of c hkW
      obtain ⟨g1, q1, q2, q3⟩ := r_dg38 G a o C hp hkW (by omega) c2 c1 rfl (f_X11_digest_22 n) (sumD h p k) fu 0 g (by omega) (by omega) L V
      rw [cnt, Nat.add_zero, nI_0] at q1
      rw [q1]
      exact r_dg22 G e4 hW a o C c hp fu hfu n (k + 1) g1 (by omega) (by omega) hf q2 q3
theorem r_dg5 (G : ShM h) (e4 : m_gi h 70 0 4 = nI W) (hW : W ≤ 20) (a : RWa W h) (o : RWo W Cn h) (C : RCo Cn h) (c : RWc W h) {p : Nat} (hp : p < 12) :
    ∃ g', f_X11_digest_22 5000 (70, 0) (nI p) 0 1 0 h = m_ri g' (nI (sumD h p W)) ∧ Lp (pX [] [68]) h g' ∧ ∀ i, m_gi g' 68 0 i = if dgH h p W 0 i = true then 1 else m_gi h 68 0 i := by
  have := r_dg22 G e4 hW a o C c hp 5000 (by omega) 5000 0 h (by omega) (by omega) (fun _ => rfl) (Lp.refl _ h) (fun i => by rw [dgH_00]; rfl)
  rw [sumD, nI_0] at this
  exact this
theorem r_dg0 {x y : Int32} : ∀ n, f_X11_digest_22 (n + 1) (70, 0) x y 0 0 h = m_ri h y := fun n => by
  rw [f_X11_digest_22]
  simp only [gI_70, f_X11_digest_96, if_true, ite_self]
theorem r_dg0' {x y : Int32} : f_X11_digest_22 5000 (70, 0) x y 0 0 h = m_ri h y := r_dg0 4999
theorem r_dgOk {p : Nat} (hp : p < 12) {g : am_H} {v : Int32} (r : f_X11_digest_22 5000 (70, 0) (nI p) 0 1 0 (m_si h 70 0 0 0) = m_ri g v) : f_X11_digest (70, 0) (nI p) h = m_ri g v := by
  rw [f_X11_digest, r_isPerson, isIx_ok (show 12 < 10000 by omega) hp, bI_ri, bI_t, if_neg (by decide), f_X11_digest_15, ao_70, r_h0, bI_ri]
  exact r
theorem r_dgBad {x : Int32} (hx : x < 0 ∨ nI 12 ≤ x) : f_X11_digest (70, 0) x h = m_ri (m_si h 70 0 0 1) 0 := by
  rw [f_X11_digest, r_isPerson, isIx_bad (show 12 < 10000 by omega) hx, bI_ri, bI_f, if_pos rfl, f_X11_digest_15, ao_70, r_h1, bI_ri, r_dg0']
end Digest
theorem sumD_cong {g h : am_H} {p : Nat} (e1 : ∀ w, Cw g w = Cw h w) (e2 : ∀ w c, nwsP g p w c = nwsP h p w c) : ∀ n, sumD g p n = sumD h p n
  | 0 => rfl
  | n + 1 => by rw [sumD, sumD, sumD_cong e1 e2 n, e1, show nwsP g p n = nwsP h p n from funext (e2 n)]
theorem sumD_le {h : am_H} {p W : Nat} (hc : ∀ w, w < W → Cw h w ≤ 8) : ∀ n, n ≤ W → sumD h p n ≤ 8 * n
  | 0, _ => Nat.le_refl _
  | n + 1, hn => by
    rw [sumD]
    have h1 := sumD_le (p := p) hc n (by omega)
    have h2 := cnt_le (nwsP h p n) (Cw h n)
    have h3 := hc n (by omega)
    omega
theorem op_digest {W Cn Tn Sn Qn : Nat} {h : am_H} (R : RR W Cn Tn Sn Qn h) (x : Int32) : OpOK h (f_G_digest (some (69, 0)) x (some (71, 0)) h) (f_X11_digest (70, 0) x) vI := by
  have R0 := R
  obtain ⟨H, G, rDay, rBlk, rSam, N, rWa, rWc, rWp, rWl, rWo, rWt, rWf, rWw, rWs, rWk, rCo, rTg, rPa, rTp, rSg, rCm, rSb, rDg, rIv⟩ := R
  have hW := N.1
  obtain ⟨D, hD, d1, d2⟩ := id rDay
  rcases ix_cases x (n := 12) (by omega) with ⟨p, hp, rfl⟩ | hx
  · obtain ⟨g1, a1, a2, a3⟩ := c_dg5 H N (d1.trans d2.symm) rWa rWp rWl rWo rCo rWc rSb rDg hp
    have Fs : Frm (pX [] [7]) h (m_si (m_sl g1 71 0 0 (vI (nI (sumD h p W)))) 70 0 0 0) := (a2.1.sl).si rfl
    have eC : ∀ w, Cw (m_si (m_sl g1 71 0 0 (vI (nI (sumD h p W)))) 70 0 0 0) w = Cw h w := fun w => by unfold Cw; rw [Fs.1 35 0 w rfl]
    have eN : ∀ q w c, nwsP (m_si (m_sl g1 71 0 0 (vI (nI (sumD h p W)))) 70 0 0 0) q w c = nwsP h q w c := fun q w c => nwsP_frm Fs (Fs.1 68 0 _ rfl)
    obtain ⟨h2, b1, b2, b3⟩ := r_dg5 (G.frm Fs) ((Fs.1 70 0 4 rfl).trans N.2.2.1) N.1 (rWa.frm Fs) (rWo.frm Fs) (rCo.frm Fs) (rWc.frm Fs) hp
    rw [sumD_cong eC (eN p)] at b1
    have F2 : Frm (pX [] [7, 68]) h h2 := (Fs.up).trans b2.1.up
    refine ok_u (hv := fun _ => nI_ne21 (by have := sumD_le (h := h) (p := p) (fun w hw => (Cw_of rWc hw).1) W (Nat.le_refl _); omega)) (h1 := g1) (b := (nI (sumD h p W))) (h2 := h2) (L_digest_ret _ (c_dg_f H hp a1)) (r_dgOk hp b1) ?_ ?_ ?_ ?_ ?_ ?_ ?_
    · rw [b2.2.2.2.2]; rfl
    · rw [b2.2.1]; exact gl_eq
    · exact a2.1.g1
    · exact F2.g1
    · rw [b2.2.2.1]; show m_nc g1 ≤ _; rw [a2.2.2.1]; omega
    · rw [b2.2.2.2.1]; show m_ns g1 ≤ _; rw [a2.2.2.2.1]; omega
    · refine ⟨W, Cn, Tn, Sn, Qn, ⟨H.frm F2, G.frm F2, rDay.frm F2, rBlk.frm F2, rSam.frm F2, N.frm F2, rWa.frm F2, rWc.frm F2, rWp.frm F2, rWl.frm F2, rWo.frm F2, rWt.frm F2, rWf.frm F2, rWw.frm F2, rWs.frm F2, rWk.frm F2, rCo.frm F2, rTg.frm F2, rPa.frm F2, rTp.frm F2, rSg.frm F2, rCm.frm F2, rSb.frm F2, ?_, rIv.frm F2⟩⟩
      intro q w c hq hw hc
      have k7 : m_gi h2 7 q w = m_gi g1 7 q w := b2.1.1 7 q w rfl
      have k68 : ∀ i, m_gi (m_si (m_sl g1 71 0 0 (vI (nI (sumD h p W)))) 70 0 0 0) 68 0 i = m_gi h 68 0 i := fun i => Fs.1 68 0 i rfl
      have i1 : (8 * (20 * q + w) + c) / 160 = q := by omega
      have i2 : (8 * (20 * q + w) + c) / 8 % 20 = w := by omega
      have i3 : (8 * (20 * q + w) + c) % 8 = c := by omega
      rw [k7, a3, b3, k68, rDg q w c hq hw hc]
      unfold dgH
      rw [i1, i2, i3, eC, eN]
      by_cases e1 : q = p
      · subst e1
        by_cases e2 : w < W
        · obtain ⟨c1, c2⟩ := Cw_of rWc e2
          rw [if_pos (show q = q ∧ w < W from ⟨rfl, e2⟩), b_or, bt_setOf _ (by omega) (show c < 32 by omega)]
          by_cases e3 : c < Cw h w
          · cases nwsP h q w c <;> simp [e2, e3] <;> rfl
          · simp [e3]
        · have e4 : ¬ w < W := e2
          simp [e4]
      · have e5 : ¬ q = p := e1
        simp [e5]
  · exact ok_ex R0 (c := 1) (b := 0) (by decide) (L_digest_x0 _ (by rw [f_X10_digest, c_checkPerson_bad hx, bV_ex])) (r_dgBad hx)
