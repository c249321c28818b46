/-! ## the words at the places where things are made: what they come to -/
theorem m_in_nI {k n : Nat} (hk : k < n) (hn : n < 2 ^ 31) : m_in (nI k) n = true := by
  have h := vp_in_nI hk hn
  simpa [m_in, vp_in] using h
def bI (b : Bool) : Int32 := if b then 1 else 0
theorem nz_bI (b : Bool) : m_nz (bI b) = true := by cases b <;> rfl
theorem nz_0 : m_nz 0 = true := rfl
theorem nz_1 : m_nz 1 = true := rfl
theorem rz_bI {h : am_H} {b : Bool} : m_rz h (bI b) = m_ri h (bI b) := by cases b <;> rfl
theorem rz_0 {h : am_H} : m_rz h 0 = m_ri h 0 := rfl
theorem rz_1 {h : am_H} : m_rz h 1 = m_ri h 1 := rfl
theorem rz_of {h : am_H} {x : Int32} (hx : m_nz x = true) : m_rz h x = m_ri h x := by unfold m_rz; rw [hx]; rfl
theorem rc_of {h : am_H} {x : Int32} (hx : m_nzc x = true) : m_rc h x = m_ri h x := by unfold m_rc; rw [hx]; rfl
theorem bI_eq0 (b : Bool) : (bI b = 0) = (b = false) := by cases b <;> decide
theorem bI_t : bI true = 1 := rfl
theorem bI_f : bI false = 0 := rfl
theorem bI_ri {h : am_H} {x : Int32} {K : am_H → Int32 → am_R} : m_bI (m_ri h x) K = K h x := rfl
theorem bI_ex {h : am_H} {e : Nat} {K : am_H → Int32 → am_R} : m_bI (m_ex h e) K = m_ex h e := rfl
theorem bR_ra {h : am_H} {o : Option (Nat × Nat)} {K : am_H → Option (Nat × Nat) → am_R} : m_bR (m_ra h o) K = K h o := rfl
theorem bR_ex {h : am_H} {e : Nat} {K : am_H → Option (Nat × Nat) → am_R} : m_bR (m_ex h e) K = m_ex h e := rfl
theorem bV_rt {h : am_H} {K : am_H → am_R} : m_bV (m_rt h none) K = K h := rfl
theorem bV_ex {h : am_H} {e : Nat} {K : am_H → am_R} : m_bV (m_ex h e) K = m_ex h e := rfl
theorem bW_rt {h : am_H} {K : am_H → am_R} : m_bW (m_rt h none) K = K h := rfl
theorem bJ_ri {h : am_H} {x : Int32} {K : am_H → Int32 → am_R} : m_bJ (m_ri h x) K = K h x := rfl
theorem bIx_ri {h : am_H} {x : Int32} {K : am_H → Int32 → am_R} {X : am_H → Nat → am_R} : m_bIx (m_ri h x) K X = K h x := rfl
theorem bIx_ex {h : am_H} {e : Nat} {K : am_H → Int32 → am_R} {X : am_H → Nat → am_R} : m_bIx (m_ex h e) K X = X (m_op (m_th h)) e := rfl
theorem bVx_rt {h : am_H} {K : am_H → am_R} {X : am_H → Nat → am_R} : m_bVx (m_rt h none) K X = K h := rfl
theorem bVx_ex {h : am_H} {e : Nat} {K : am_H → am_R} {X : am_H → Nat → am_R} : m_bVx (m_ex h e) K X = X (m_op (m_th h)) e := rfl
theorem gi_ne {h : am_H} {s k j a : Nat} {v : Int32} (ha : a ≠ s) : m_gi (m_si h s k j v) a = m_gi h a := by
  funext b c
  rw [m_gi_si, if_neg (fun z => ha z.1)]
theorem gi_eq {h : am_H} {s k j : Nat} {v : Int32} : m_gi (m_si h s k j v) s k j = v := by rw [m_gi_si, if_pos ⟨rfl, rfl, rfl⟩]
theorem gi_neI {h : am_H} {s k j b c : Nat} {v : Int32} (hc : c ≠ j) : m_gi (m_si h s k j v) s b c = m_gi h s b c := by rw [m_gi_si, if_neg (fun z => hc z.2.2)]
theorem gi_neK {h : am_H} {s k j b c : Nat} {v : Int32} (hb : b ≠ k) : m_gi (m_si h s k j v) s b c = m_gi h s b c := by rw [m_gi_si, if_neg (fun z => hb z.2.1)]
theorem gi_sr {h : am_H} {s k j : Nat} {v : Option (Nat × Nat)} : m_gi (m_sr h s k j v) = m_gi h := rfl
theorem gi_sl {h : am_H} {s k j : Nat} {v : Int64} : m_gi (m_sl h s k j v) = m_gi h := rfl
theorem gi_th {h : am_H} : m_gi (m_th h) = m_gi h := rfl
theorem gi_op {h : am_H} : m_gi (m_op h) = m_gi h := rfl
theorem gr_si {h : am_H} {s k j : Nat} {v : Int32} : m_gr (m_si h s k j v) = m_gr h := rfl
theorem gr_sl {h : am_H} {s k j : Nat} {v : Int64} : m_gr (m_sl h s k j v) = m_gr h := rfl
theorem gr_th {h : am_H} : m_gr (m_th h) = m_gr h := rfl
theorem gr_op {h : am_H} : m_gr (m_op h) = m_gr h := rfl
theorem gr_ne {h : am_H} {s k j a : Nat} {v : Option (Nat × Nat)} (ha : a ≠ s) : m_gr (m_sr h s k j v) a = m_gr h a := by
  funext b c
  rw [m_gr_sr, if_neg (fun z => ha z.1)]
theorem gl_si {h : am_H} {s k j : Nat} {v : Int32} : m_gl (m_si h s k j v) = m_gl h := rfl
theorem gl_sr {h : am_H} {s k j : Nat} {v : Option (Nat × Nat)} : m_gl (m_sr h s k j v) = m_gl h := rfl
theorem gl_th {h : am_H} : m_gl (m_th h) = m_gl h := rfl
theorem gl_op {h : am_H} : m_gl (m_op h) = m_gl h := rfl
theorem gl_eq {h : am_H} {s k j : Nat} {v : Int64} : m_gl (m_sl h s k j v) s k j = v := by rw [m_gl_sl, if_pos ⟨rfl, rfl, rfl⟩]
theorem gi_al {h : am_H} {s n a : Nat} (ha : a ≠ s) : m_gi (m_al h s n) a = m_gi h a := by
  funext b c
  rw [m_gi_al, if_neg (fun z => ha z.1)]
theorem gr_al {h : am_H} {s n a : Nat} (ha : a ≠ s) : m_gr (m_al h s n) a = m_gr h a := by
  funext b c
  rw [m_gr_al, if_neg (fun z => ha z.1)]
theorem gl_al {h : am_H} {s n a : Nat} (ha : a ≠ s) : m_gl (m_al h s n) a = m_gl h a := by
  funext b c
  rw [m_gl_al, if_neg (fun z => ha z.1)]
theorem nx_si {h : am_H} {s k j : Nat} {v : Int32} : m_nx (m_si h s k j v) = m_nx h := rfl
theorem nx_sr {h : am_H} {s k j : Nat} {v : Option (Nat × Nat)} : m_nx (m_sr h s k j v) = m_nx h := rfl
theorem nx_sl {h : am_H} {s k j : Nat} {v : Int64} : m_nx (m_sl h s k j v) = m_nx h := rfl
theorem nx_th {h : am_H} : m_nx (m_th h) = m_nx h := rfl
theorem nx_op {h : am_H} {a : Nat} (ha : a ≠ 0) : m_nx (m_op h) a = m_nx h a := if_neg ha
theorem nx_al {h : am_H} {s n a : Nat} (ha : a ≠ s) : m_nx (m_al h s n) a = m_nx h a := if_neg ha
theorem nx_als {h : am_H} {s n : Nat} : m_nx (m_al h s n) s = m_nx h s + 1 := if_pos rfl
theorem nc_si {h : am_H} {s k j : Nat} {v : Int32} : m_nc (m_si h s k j v) = m_nc h := rfl
theorem nc_sr {h : am_H} {s k j : Nat} {v : Option (Nat × Nat)} : m_nc (m_sr h s k j v) = m_nc h := rfl
theorem nc_sl {h : am_H} {s k j : Nat} {v : Int64} : m_nc (m_sl h s k j v) = m_nc h := rfl
theorem nc_th {h : am_H} : m_nc (m_th h) = m_nc h + 1 := rfl
theorem nc_op {h : am_H} : m_nc (m_op h) = m_nc h := rfl
theorem nc_al {h : am_H} {s n : Nat} : m_nc (m_al h s n) = m_nc h + 1 := rfl
theorem ns_si {h : am_H} {s k j : Nat} {v : Int32} : m_ns (m_si h s k j v) = m_ns h := rfl
theorem ns_sr {h : am_H} {s k j : Nat} {v : Option (Nat × Nat)} : m_ns (m_sr h s k j v) = m_ns h := rfl
theorem ns_sl {h : am_H} {s k j : Nat} {v : Int64} : m_ns (m_sl h s k j v) = m_ns h := rfl
theorem ns_th {h : am_H} : m_ns (m_th h) = m_ns h + 6 := rfl
theorem ns_op {h : am_H} : m_ns (m_op h) = m_ns h := rfl
theorem ns_al {h : am_H} {s n : Nat} : m_ns (m_al h s n) = m_ns h + n := rfl
theorem aR_2 {q k : Nat} {h : am_H} {K : Option (Nat × Nat) → am_R} (hk : k < 8) : m_aR (some (2, q)) 8 (nI k) h K = K (m_gr h 2 q k) := by
  show m_ck (true && m_in (nI k) 8) (K (m_gr h 2 q (nI k).toNatClampNeg)) = _
  rw [m_in_nI hk (by decide), nI_clamp (by omega)]; rfl
theorem sR_2 {q k e : Nat} {h : am_H} {K : am_H → am_R} (hk : k < 8) : m_sR (some (2, q)) 8 6 (nI k) (some (29, e)) h K = K (m_sr h 2 q k (some (29, e))) := by
  show m_ck (true && (true && m_in (nI k) 8)) (K (m_sr h 2 q (nI k).toNatClampNeg (some (29, e)))) = _
  rw [m_in_nI hk (by decide), nI_clamp (by omega)]; rfl
theorem aI_3 {q k : Nat} {h : am_H} {K : Int32 → am_R} (hk : k < 8) : m_aI (some (3, q)) 0 (nI k) h K = K (m_gi h 3 q k) := by
  show m_ck (true && m_in (nI k) 8) (K (m_gi h 3 q (nI k).toNatClampNeg)) = _
  rw [m_in_nI hk (by decide), nI_clamp (by omega)]; rfl
theorem sI_3 {q k : Nat} {x : Int32} {h : am_H} {K : am_H → am_R} (hk : k < 8) : m_sI (some (3, q)) (nI k) x h K = K (m_si h 3 q k x) := by
  show m_ck (true && m_in (nI k) 8) (K (m_si h 3 q (nI k).toNatClampNeg x)) = _
  rw [m_in_nI hk (by decide), nI_clamp (by omega)]; rfl
theorem aI_4 {q k : Nat} {h : am_H} {K : Int32 → am_R} (hk : k < 256) : m_aI (some (4, q)) 0 (nI k) h K = K (m_gi h 4 q k) := by
  show m_ck (true && m_in (nI k) 256) (K (m_gi h 4 q (nI k).toNatClampNeg)) = _
  rw [m_in_nI hk (by decide), nI_clamp (by omega)]; rfl
theorem sI_4 {q k : Nat} {x : Int32} {h : am_H} {K : am_H → am_R} (hk : k < 256) : m_sI (some (4, q)) (nI k) x h K = K (m_si h 4 q k x) := by
  show m_ck (true && m_in (nI k) 256) (K (m_si h 4 q (nI k).toNatClampNeg x)) = _
  rw [m_in_nI hk (by decide), nI_clamp (by omega)]; rfl
theorem aI_5 {q k : Nat} {h : am_H} {K : Int32 → am_R} (hk : k < 20) : m_aI (some (5, q)) 0 (nI k) h K = K (m_gi h 5 q k) := by
  show m_ck (true && m_in (nI k) 20) (K (m_gi h 5 q (nI k).toNatClampNeg)) = _
  rw [m_in_nI hk (by decide), nI_clamp (by omega)]; rfl
theorem sI_5 {q k : Nat} {x : Int32} {h : am_H} {K : am_H → am_R} (hk : k < 20) : m_sI (some (5, q)) (nI k) x h K = K (m_si h 5 q k x) := by
  show m_ck (true && m_in (nI k) 20) (K (m_si h 5 q (nI k).toNatClampNeg x)) = _
  rw [m_in_nI hk (by decide), nI_clamp (by omega)]; rfl
theorem aI_6 {q k : Nat} {h : am_H} {K : Int32 → am_R} (hk : k < 12) : m_aI (some (6, q)) 0 (nI k) h K = K (m_gi h 6 q k) := by
  show m_ck (true && m_in (nI k) 12) (K (m_gi h 6 q (nI k).toNatClampNeg)) = _
  rw [m_in_nI hk (by decide), nI_clamp (by omega)]; rfl
theorem sI_6 {q k : Nat} {x : Int32} {h : am_H} {K : am_H → am_R} (hk : k < 12) : m_sI (some (6, q)) (nI k) x h K = K (m_si h 6 q k x) := by
  show m_ck (true && m_in (nI k) 12) (K (m_si h 6 q (nI k).toNatClampNeg x)) = _
  rw [m_in_nI hk (by decide), nI_clamp (by omega)]; rfl
theorem aI_7 {q k : Nat} {h : am_H} {K : Int32 → am_R} (hk : k < 20) : m_aI (some (7, q)) 0 (nI k) h K = K (m_gi h 7 q k) := by
  show m_ck (true && m_in (nI k) 20) (K (m_gi h 7 q (nI k).toNatClampNeg)) = _
  rw [m_in_nI hk (by decide), nI_clamp (by omega)]; rfl
theorem sI_7 {q k : Nat} {x : Int32} {h : am_H} {K : am_H → am_R} (hk : k < 20) : m_sI (some (7, q)) (nI k) x h K = K (m_si h 7 q k x) := by
  show m_ck (true && m_in (nI k) 20) (K (m_si h 7 q (nI k).toNatClampNeg x)) = _
  rw [m_in_nI hk (by decide), nI_clamp (by omega)]; rfl
theorem aI_8 {q k : Nat} {h : am_H} {K : Int32 → am_R} (hk : k < 61) : m_aI (some (8, q)) 0 (nI k) h K = K (m_gi h 8 q k) := by
  show m_ck (true && m_in (nI k) 61) (K (m_gi h 8 q (nI k).toNatClampNeg)) = _
  rw [m_in_nI hk (by decide), nI_clamp (by omega)]; rfl
theorem sI_8 {q k : Nat} {x : Int32} {h : am_H} {K : am_H → am_R} (hk : k < 61) : m_sI (some (8, q)) (nI k) x h K = K (m_si h 8 q k x) := by
  show m_ck (true && m_in (nI k) 61) (K (m_si h 8 q (nI k).toNatClampNeg x)) = _
  rw [m_in_nI hk (by decide), nI_clamp (by omega)]; rfl
theorem aI_9 {q k : Nat} {h : am_H} {K : Int32 → am_R} (hk : k < 61) : m_aI (some (9, q)) 0 (nI k) h K = K (m_gi h 9 q k) := by
  show m_ck (true && m_in (nI k) 61) (K (m_gi h 9 q (nI k).toNatClampNeg)) = _
  rw [m_in_nI hk (by decide), nI_clamp (by omega)]; rfl
theorem sI_9 {q k : Nat} {x : Int32} {h : am_H} {K : am_H → am_R} (hk : k < 61) : m_sI (some (9, q)) (nI k) x h K = K (m_si h 9 q k x) := by
  show m_ck (true && m_in (nI k) 61) (K (m_si h 9 q (nI k).toNatClampNeg x)) = _
  rw [m_in_nI hk (by decide), nI_clamp (by omega)]; rfl
theorem aI_10 {q k : Nat} {h : am_H} {K : Int32 → am_R} (hk : k < 61) : m_aI (some (10, q)) 1 (nI k) h K = K (m_gi h 10 q k) := by
  show m_ck (true && m_in (nI k) 61) (K (m_gi h 10 q (nI k).toNatClampNeg)) = _
  rw [m_in_nI hk (by decide), nI_clamp (by omega)]; rfl
theorem sZ_10 {q k : Nat} {x : Int32} {h : am_H} {K : am_H → am_R} (hx : m_nz x = true) (hk : k < 61) : m_sZ (some (10, q)) (nI k) x h K = K (m_si h 10 q k x) := by
  show m_ck (m_nz x) (m_ck (true && m_in (nI k) 61) (K (m_si h 10 q (nI k).toNatClampNeg x))) = _
  rw [hx, m_in_nI hk (by decide), nI_clamp (by omega)]; rfl
theorem aI_11 {q k : Nat} {h : am_H} {K : Int32 → am_R} (hk : k < 30) : m_aI (some (11, q)) 0 (nI k) h K = K (m_gi h 11 q k) := by
  show m_ck (true && m_in (nI k) 30) (K (m_gi h 11 q (nI k).toNatClampNeg)) = _
  rw [m_in_nI hk (by decide), nI_clamp (by omega)]; rfl
theorem sI_11 {q k : Nat} {x : Int32} {h : am_H} {K : am_H → am_R} (hk : k < 30) : m_sI (some (11, q)) (nI k) x h K = K (m_si h 11 q k x) := by
  show m_ck (true && m_in (nI k) 30) (K (m_si h 11 q (nI k).toNatClampNeg x)) = _
  rw [m_in_nI hk (by decide), nI_clamp (by omega)]; rfl
theorem aI_12 {q k : Nat} {h : am_H} {K : Int32 → am_R} (hk : k < 30) : m_aI (some (12, q)) 0 (nI k) h K = K (m_gi h 12 q k) := by
  show m_ck (true && m_in (nI k) 30) (K (m_gi h 12 q (nI k).toNatClampNeg)) = _
  rw [m_in_nI hk (by decide), nI_clamp (by omega)]; rfl
theorem sI_12 {q k : Nat} {x : Int32} {h : am_H} {K : am_H → am_R} (hk : k < 30) : m_sI (some (12, q)) (nI k) x h K = K (m_si h 12 q k x) := by
  show m_ck (true && m_in (nI k) 30) (K (m_si h 12 q (nI k).toNatClampNeg x)) = _
  rw [m_in_nI hk (by decide), nI_clamp (by omega)]; rfl
theorem aI_13 {q k : Nat} {h : am_H} {K : Int32 → am_R} (hk : k < 30) : m_aI (some (13, q)) 0 (nI k) h K = K (m_gi h 13 q k) := by
  show m_ck (true && m_in (nI k) 30) (K (m_gi h 13 q (nI k).toNatClampNeg)) = _
  rw [m_in_nI hk (by decide), nI_clamp (by omega)]; rfl
theorem sI_13 {q k : Nat} {x : Int32} {h : am_H} {K : am_H → am_R} (hk : k < 30) : m_sI (some (13, q)) (nI k) x h K = K (m_si h 13 q k x) := by
  show m_ck (true && m_in (nI k) 30) (K (m_si h 13 q (nI k).toNatClampNeg x)) = _
  rw [m_in_nI hk (by decide), nI_clamp (by omega)]; rfl
theorem aI_14 {q k : Nat} {h : am_H} {K : Int32 → am_R} (hk : k < 60) : m_aI (some (14, q)) 2 (nI k) h K = K (m_gi h 14 q k) := by
  show m_ck (true && m_in (nI k) 60) (K (m_gi h 14 q (nI k).toNatClampNeg)) = _
  rw [m_in_nI hk (by decide), nI_clamp (by omega)]; rfl
theorem sC_14 {q k : Nat} {x : Int32} {h : am_H} {K : am_H → am_R} (hx : m_nzc x = true) (hk : k < 60) : m_sC (some (14, q)) (nI k) x h K = K (m_si h 14 q k x) := by
  show m_ck (m_nzc x) (m_ck (true && m_in (nI k) 60) (K (m_si h 14 q (nI k).toNatClampNeg x))) = _
  rw [hx, m_in_nI hk (by decide), nI_clamp (by omega)]; rfl
theorem gI_15 {q j : Nat} {h : am_H} {K : Int32 → am_R} : m_gI (some (15, q)) 4 j h K = K (m_gi h 15 q j) := rfl
theorem gR_15 {q j : Nat} {h : am_H} {K : Option (Nat × Nat) → am_R} : m_gR (some (15, q)) 4 j h K = K (m_gr h 15 q j) := rfl
theorem pI_15 {q j : Nat} {x : Int32} {h : am_H} {K : am_H → am_R} : m_pI (some (15, q)) 4 j x h K = K (m_si h 15 q j x) := rfl
theorem pR_15 {q j : Nat} {x : Option (Nat × Nat)} {h : am_H} {K : am_H → am_R} : m_pR (some (15, q)) 4 j x h K = K (m_sr h 15 q j x) := rfl
theorem pZ_15 {q j : Nat} {x : Int32} {h : am_H} {K : am_H → am_R} (hx : m_nz x = true) : m_pZ (some (15, q)) 4 j x h K = K (m_si h 15 q j x) := by show m_ck (m_nz x) _ = _; rw [hx]; rfl
theorem ao_15 {q : Nat} {K : Nat × Nat → am_R} : m_ao (some (15, q)) 4 K = K (15, q) := rfl
theorem pC_15 {q j : Nat} {x : Int32} {h : am_H} {K : am_H → am_R} (hx : m_nzc x = true) : m_pC (some (15, q)) 4 j x h K = K (m_si h 15 q j x) := by show m_ck (m_nzc x) _ = _; rw [hx]; rfl
theorem aI_16 {q k : Nat} {h : am_H} {K : Int32 → am_R} (hk : k < 8) : m_aI (some (16, q)) 0 (nI k) h K = K (m_gi h 16 q k) := by
  show m_ck (true && m_in (nI k) 8) (K (m_gi h 16 q (nI k).toNatClampNeg)) = _
  rw [m_in_nI hk (by decide), nI_clamp (by omega)]; rfl
theorem sI_16 {q k : Nat} {x : Int32} {h : am_H} {K : am_H → am_R} (hk : k < 8) : m_sI (some (16, q)) (nI k) x h K = K (m_si h 16 q k x) := by
  show m_ck (true && m_in (nI k) 8) (K (m_si h 16 q (nI k).toNatClampNeg x)) = _
  rw [m_in_nI hk (by decide), nI_clamp (by omega)]; rfl
theorem aI_17 {q k : Nat} {h : am_H} {K : Int32 → am_R} (hk : k < 32) : m_aI (some (17, q)) 0 (nI k) h K = K (m_gi h 17 q k) := by
  show m_ck (true && m_in (nI k) 32) (K (m_gi h 17 q (nI k).toNatClampNeg)) = _
  rw [m_in_nI hk (by decide), nI_clamp (by omega)]; rfl
theorem sI_17 {q k : Nat} {x : Int32} {h : am_H} {K : am_H → am_R} (hk : k < 32) : m_sI (some (17, q)) (nI k) x h K = K (m_si h 17 q k x) := by
  show m_ck (true && m_in (nI k) 32) (K (m_si h 17 q (nI k).toNatClampNeg x)) = _
  rw [m_in_nI hk (by decide), nI_clamp (by omega)]; rfl
theorem aR_18 {q k : Nat} {h : am_H} {K : Option (Nat × Nat) → am_R} (hk : k < 12) : m_aR (some (18, q)) 4 (nI k) h K = K (m_gr h 18 q k) := by
  show m_ck (true && m_in (nI k) 12) (K (m_gr h 18 q (nI k).toNatClampNeg)) = _
  rw [m_in_nI hk (by decide), nI_clamp (by omega)]; rfl
theorem sR_18 {q k e : Nat} {h : am_H} {K : am_H → am_R} (hk : k < 12) : m_sR (some (18, q)) 4 3 (nI k) (some (26, e)) h K = K (m_sr h 18 q k (some (26, e))) := by
  show m_ck (true && (true && m_in (nI k) 12)) (K (m_sr h 18 q (nI k).toNatClampNeg (some (26, e)))) = _
  rw [m_in_nI hk (by decide), nI_clamp (by omega)]; rfl
theorem aR_19 {q k : Nat} {h : am_H} {K : Option (Nat × Nat) → am_R} (hk : k < 20) : m_aR (some (19, q)) 5 (nI k) h K = K (m_gr h 19 q k) := by
  show m_ck (true && m_in (nI k) 20) (K (m_gr h 19 q (nI k).toNatClampNeg)) = _
  rw [m_in_nI hk (by decide), nI_clamp (by omega)]; rfl
theorem sR_19 {q k e : Nat} {h : am_H} {K : am_H → am_R} (hk : k < 20) : m_sR (some (19, q)) 5 9 (nI k) (some (27, e)) h K = K (m_sr h 19 q k (some (27, e))) := by
  show m_ck (true && (true && m_in (nI k) 20)) (K (m_sr h 19 q (nI k).toNatClampNeg (some (27, e)))) = _
  rw [m_in_nI hk (by decide), nI_clamp (by omega)]; rfl
theorem aR_20 {q k : Nat} {h : am_H} {K : Option (Nat × Nat) → am_R} (hk : k < 6) : m_aR (some (20, q)) 6 (nI k) h K = K (m_gr h 20 q k) := by
  show m_ck (true && m_in (nI k) 6) (K (m_gr h 20 q (nI k).toNatClampNeg)) = _
  rw [m_in_nI hk (by decide), nI_clamp (by omega)]; rfl
theorem sR_20 {q k e : Nat} {h : am_H} {K : am_H → am_R} (hk : k < 6) : m_sR (some (20, q)) 6 0 (nI k) (some (28, e)) h K = K (m_sr h 20 q k (some (28, e))) := by
  show m_ck (true && (true && m_in (nI k) 6)) (K (m_sr h 20 q (nI k).toNatClampNeg (some (28, e)))) = _
  rw [m_in_nI hk (by decide), nI_clamp (by omega)]; rfl
theorem gI_21 {q j : Nat} {h : am_H} {K : Int32 → am_R} : m_gI (some (21, q)) 7 j h K = K (m_gi h 21 q j) := rfl
theorem gR_21 {q j : Nat} {h : am_H} {K : Option (Nat × Nat) → am_R} : m_gR (some (21, q)) 7 j h K = K (m_gr h 21 q j) := rfl
theorem pI_21 {q j : Nat} {x : Int32} {h : am_H} {K : am_H → am_R} : m_pI (some (21, q)) 7 j x h K = K (m_si h 21 q j x) := rfl
theorem pR_21 {q j : Nat} {x : Option (Nat × Nat)} {h : am_H} {K : am_H → am_R} : m_pR (some (21, q)) 7 j x h K = K (m_sr h 21 q j x) := rfl
theorem pZ_21 {q j : Nat} {x : Int32} {h : am_H} {K : am_H → am_R} (hx : m_nz x = true) : m_pZ (some (21, q)) 7 j x h K = K (m_si h 21 q j x) := by show m_ck (m_nz x) _ = _; rw [hx]; rfl
theorem ao_21 {q : Nat} {K : Nat × Nat → am_R} : m_ao (some (21, q)) 7 K = K (21, q) := rfl
theorem gI_22 {q j : Nat} {h : am_H} {K : Int32 → am_R} : m_gI (some (22, q)) 8 j h K = K (m_gi h 22 q j) := rfl
theorem gR_22 {q j : Nat} {h : am_H} {K : Option (Nat × Nat) → am_R} : m_gR (some (22, q)) 8 j h K = K (m_gr h 22 q j) := rfl
theorem pI_22 {q j : Nat} {x : Int32} {h : am_H} {K : am_H → am_R} : m_pI (some (22, q)) 8 j x h K = K (m_si h 22 q j x) := rfl
theorem pR_22 {q j : Nat} {x : Option (Nat × Nat)} {h : am_H} {K : am_H → am_R} : m_pR (some (22, q)) 8 j x h K = K (m_sr h 22 q j x) := rfl
theorem pZ_22 {q j : Nat} {x : Int32} {h : am_H} {K : am_H → am_R} (hx : m_nz x = true) : m_pZ (some (22, q)) 8 j x h K = K (m_si h 22 q j x) := by show m_ck (m_nz x) _ = _; rw [hx]; rfl
theorem ao_22 {q : Nat} {K : Nat × Nat → am_R} : m_ao (some (22, q)) 8 K = K (22, q) := rfl
theorem gI_23 {q j : Nat} {h : am_H} {K : Int32 → am_R} : m_gI (some (23, q)) 5 j h K = K (m_gi h 23 q j) := rfl
theorem gR_23 {q j : Nat} {h : am_H} {K : Option (Nat × Nat) → am_R} : m_gR (some (23, q)) 5 j h K = K (m_gr h 23 q j) := rfl
theorem pI_23 {q j : Nat} {x : Int32} {h : am_H} {K : am_H → am_R} : m_pI (some (23, q)) 5 j x h K = K (m_si h 23 q j x) := rfl
theorem pR_23 {q j : Nat} {x : Option (Nat × Nat)} {h : am_H} {K : am_H → am_R} : m_pR (some (23, q)) 5 j x h K = K (m_sr h 23 q j x) := rfl
theorem pZ_23 {q j : Nat} {x : Int32} {h : am_H} {K : am_H → am_R} (hx : m_nz x = true) : m_pZ (some (23, q)) 5 j x h K = K (m_si h 23 q j x) := by show m_ck (m_nz x) _ = _; rw [hx]; rfl
theorem ao_23 {q : Nat} {K : Nat × Nat → am_R} : m_ao (some (23, q)) 5 K = K (23, q) := rfl
theorem gI_24 {q j : Nat} {h : am_H} {K : Int32 → am_R} : m_gI (some (24, q)) 2 j h K = K (m_gi h 24 q j) := rfl
theorem gR_24 {q j : Nat} {h : am_H} {K : Option (Nat × Nat) → am_R} : m_gR (some (24, q)) 2 j h K = K (m_gr h 24 q j) := rfl
theorem pI_24 {q j : Nat} {x : Int32} {h : am_H} {K : am_H → am_R} : m_pI (some (24, q)) 2 j x h K = K (m_si h 24 q j x) := rfl
theorem pR_24 {q j : Nat} {x : Option (Nat × Nat)} {h : am_H} {K : am_H → am_R} : m_pR (some (24, q)) 2 j x h K = K (m_sr h 24 q j x) := rfl
theorem pZ_24 {q j : Nat} {x : Int32} {h : am_H} {K : am_H → am_R} (hx : m_nz x = true) : m_pZ (some (24, q)) 2 j x h K = K (m_si h 24 q j x) := by show m_ck (m_nz x) _ = _; rw [hx]; rfl
theorem ao_24 {q : Nat} {K : Nat × Nat → am_R} : m_ao (some (24, q)) 2 K = K (24, q) := rfl
theorem aR_25 {q k : Nat} {h : am_H} {K : Option (Nat × Nat) → am_R} (hk : k < 60) : m_aR (some (25, q)) 7 (nI k) h K = K (m_gr h 25 q k) := by
  show m_ck (true && m_in (nI k) 60) (K (m_gr h 25 q (nI k).toNatClampNeg)) = _
  rw [m_in_nI hk (by decide), nI_clamp (by omega)]; rfl
theorem sR_25 {q k e : Nat} {h : am_H} {K : am_H → am_R} (hk : k < 60) : m_sR (some (25, q)) 7 1 (nI k) (some (30, e)) h K = K (m_sr h 25 q k (some (30, e))) := by
  show m_ck (true && (true && m_in (nI k) 60)) (K (m_sr h 25 q (nI k).toNatClampNeg (some (30, e)))) = _
  rw [m_in_nI hk (by decide), nI_clamp (by omega)]; rfl
theorem gI_26 {q j : Nat} {h : am_H} {K : Int32 → am_R} : m_gI (some (26, q)) 3 j h K = K (m_gi h 26 q j) := rfl
theorem gR_26 {q j : Nat} {h : am_H} {K : Option (Nat × Nat) → am_R} : m_gR (some (26, q)) 3 j h K = K (m_gr h 26 q j) := rfl
theorem pI_26 {q j : Nat} {x : Int32} {h : am_H} {K : am_H → am_R} : m_pI (some (26, q)) 3 j x h K = K (m_si h 26 q j x) := rfl
theorem pR_26 {q j : Nat} {x : Option (Nat × Nat)} {h : am_H} {K : am_H → am_R} : m_pR (some (26, q)) 3 j x h K = K (m_sr h 26 q j x) := rfl
theorem pZ_26 {q j : Nat} {x : Int32} {h : am_H} {K : am_H → am_R} (hx : m_nz x = true) : m_pZ (some (26, q)) 3 j x h K = K (m_si h 26 q j x) := by show m_ck (m_nz x) _ = _; rw [hx]; rfl
theorem ao_26 {q : Nat} {K : Nat × Nat → am_R} : m_ao (some (26, q)) 3 K = K (26, q) := rfl
theorem gI_27 {q j : Nat} {h : am_H} {K : Int32 → am_R} : m_gI (some (27, q)) 9 j h K = K (m_gi h 27 q j) := rfl
theorem gR_27 {q j : Nat} {h : am_H} {K : Option (Nat × Nat) → am_R} : m_gR (some (27, q)) 9 j h K = K (m_gr h 27 q j) := rfl
theorem pI_27 {q j : Nat} {x : Int32} {h : am_H} {K : am_H → am_R} : m_pI (some (27, q)) 9 j x h K = K (m_si h 27 q j x) := rfl
theorem pR_27 {q j : Nat} {x : Option (Nat × Nat)} {h : am_H} {K : am_H → am_R} : m_pR (some (27, q)) 9 j x h K = K (m_sr h 27 q j x) := rfl
theorem pZ_27 {q j : Nat} {x : Int32} {h : am_H} {K : am_H → am_R} (hx : m_nz x = true) : m_pZ (some (27, q)) 9 j x h K = K (m_si h 27 q j x) := by show m_ck (m_nz x) _ = _; rw [hx]; rfl
theorem ao_27 {q : Nat} {K : Nat × Nat → am_R} : m_ao (some (27, q)) 9 K = K (27, q) := rfl
theorem gI_28 {q j : Nat} {h : am_H} {K : Int32 → am_R} : m_gI (some (28, q)) 0 j h K = K (m_gi h 28 q j) := rfl
theorem gR_28 {q j : Nat} {h : am_H} {K : Option (Nat × Nat) → am_R} : m_gR (some (28, q)) 0 j h K = K (m_gr h 28 q j) := rfl
theorem pI_28 {q j : Nat} {x : Int32} {h : am_H} {K : am_H → am_R} : m_pI (some (28, q)) 0 j x h K = K (m_si h 28 q j x) := rfl
theorem pR_28 {q j : Nat} {x : Option (Nat × Nat)} {h : am_H} {K : am_H → am_R} : m_pR (some (28, q)) 0 j x h K = K (m_sr h 28 q j x) := rfl
theorem pZ_28 {q j : Nat} {x : Int32} {h : am_H} {K : am_H → am_R} (hx : m_nz x = true) : m_pZ (some (28, q)) 0 j x h K = K (m_si h 28 q j x) := by show m_ck (m_nz x) _ = _; rw [hx]; rfl
theorem ao_28 {q : Nat} {K : Nat × Nat → am_R} : m_ao (some (28, q)) 0 K = K (28, q) := rfl
theorem gI_29 {q j : Nat} {h : am_H} {K : Int32 → am_R} : m_gI (some (29, q)) 6 j h K = K (m_gi h 29 q j) := rfl
theorem gR_29 {q j : Nat} {h : am_H} {K : Option (Nat × Nat) → am_R} : m_gR (some (29, q)) 6 j h K = K (m_gr h 29 q j) := rfl
theorem pI_29 {q j : Nat} {x : Int32} {h : am_H} {K : am_H → am_R} : m_pI (some (29, q)) 6 j x h K = K (m_si h 29 q j x) := rfl
theorem pR_29 {q j : Nat} {x : Option (Nat × Nat)} {h : am_H} {K : am_H → am_R} : m_pR (some (29, q)) 6 j x h K = K (m_sr h 29 q j x) := rfl
theorem pZ_29 {q j : Nat} {x : Int32} {h : am_H} {K : am_H → am_R} (hx : m_nz x = true) : m_pZ (some (29, q)) 6 j x h K = K (m_si h 29 q j x) := by show m_ck (m_nz x) _ = _; rw [hx]; rfl
theorem ao_29 {q : Nat} {K : Nat × Nat → am_R} : m_ao (some (29, q)) 6 K = K (29, q) := rfl
theorem gI_30 {q j : Nat} {h : am_H} {K : Int32 → am_R} : m_gI (some (30, q)) 1 j h K = K (m_gi h 30 q j) := rfl
theorem gR_30 {q j : Nat} {h : am_H} {K : Option (Nat × Nat) → am_R} : m_gR (some (30, q)) 1 j h K = K (m_gr h 30 q j) := rfl
theorem pI_30 {q j : Nat} {x : Int32} {h : am_H} {K : am_H → am_R} : m_pI (some (30, q)) 1 j x h K = K (m_si h 30 q j x) := rfl
theorem pR_30 {q j : Nat} {x : Option (Nat × Nat)} {h : am_H} {K : am_H → am_R} : m_pR (some (30, q)) 1 j x h K = K (m_sr h 30 q j x) := rfl
theorem pZ_30 {q j : Nat} {x : Int32} {h : am_H} {K : am_H → am_R} (hx : m_nz x = true) : m_pZ (some (30, q)) 1 j x h K = K (m_si h 30 q j x) := by show m_ck (m_nz x) _ = _; rw [hx]; rfl
theorem ao_30 {q : Nat} {K : Nat × Nat → am_R} : m_ao (some (30, q)) 1 K = K (30, q) := rfl
theorem aI_31 {q k : Nat} {h : am_H} {K : Int32 → am_R} (hk : k < 144) : m_aI (some (31, q)) 1 (nI k) h K = K (m_gi h 31 q k) := by
  show m_ck (true && m_in (nI k) 144) (K (m_gi h 31 q (nI k).toNatClampNeg)) = _
  rw [m_in_nI hk (by decide), nI_clamp (by omega)]; rfl
theorem sZ_31 {q k : Nat} {x : Int32} {h : am_H} {K : am_H → am_R} (hx : m_nz x = true) (hk : k < 144) : m_sZ (some (31, q)) (nI k) x h K = K (m_si h 31 q k x) := by
  show m_ck (m_nz x) (m_ck (true && m_in (nI k) 144) (K (m_si h 31 q (nI k).toNatClampNeg x))) = _
  rw [hx, m_in_nI hk (by decide), nI_clamp (by omega)]; rfl
theorem aI_32 {q k : Nat} {h : am_H} {K : Int32 → am_R} (hk : k < 32) : m_aI (some (32, q)) 0 (nI k) h K = K (m_gi h 32 q k) := by
  show m_ck (true && m_in (nI k) 32) (K (m_gi h 32 q (nI k).toNatClampNeg)) = _
  rw [m_in_nI hk (by decide), nI_clamp (by omega)]; rfl
theorem sI_32 {q k : Nat} {x : Int32} {h : am_H} {K : am_H → am_R} (hk : k < 32) : m_sI (some (32, q)) (nI k) x h K = K (m_si h 32 q k x) := by
  show m_ck (true && m_in (nI k) 32) (K (m_si h 32 q (nI k).toNatClampNeg x)) = _
  rw [m_in_nI hk (by decide), nI_clamp (by omega)]; rfl
theorem aI_33 {q k : Nat} {h : am_H} {K : Int32 → am_R} (hk : k < 20) : m_aI (some (33, q)) 0 (nI k) h K = K (m_gi h 33 q k) := by
  show m_ck (true && m_in (nI k) 20) (K (m_gi h 33 q (nI k).toNatClampNeg)) = _
  rw [m_in_nI hk (by decide), nI_clamp (by omega)]; rfl
theorem sI_33 {q k : Nat} {x : Int32} {h : am_H} {K : am_H → am_R} (hk : k < 20) : m_sI (some (33, q)) (nI k) x h K = K (m_si h 33 q k x) := by
  show m_ck (true && m_in (nI k) 20) (K (m_si h 33 q (nI k).toNatClampNeg x)) = _
  rw [m_in_nI hk (by decide), nI_clamp (by omega)]; rfl
theorem aI_34 {q k : Nat} {h : am_H} {K : Int32 → am_R} (hk : k < 20) : m_aI (some (34, q)) 0 (nI k) h K = K (m_gi h 34 q k) := by
  show m_ck (true && m_in (nI k) 20) (K (m_gi h 34 q (nI k).toNatClampNeg)) = _
  rw [m_in_nI hk (by decide), nI_clamp (by omega)]; rfl
theorem sI_34 {q k : Nat} {x : Int32} {h : am_H} {K : am_H → am_R} (hk : k < 20) : m_sI (some (34, q)) (nI k) x h K = K (m_si h 34 q k x) := by
  show m_ck (true && m_in (nI k) 20) (K (m_si h 34 q (nI k).toNatClampNeg x)) = _
  rw [m_in_nI hk (by decide), nI_clamp (by omega)]; rfl
theorem aI_35 {q k : Nat} {h : am_H} {K : Int32 → am_R} (hk : k < 20) : m_aI (some (35, q)) 0 (nI k) h K = K (m_gi h 35 q k) := by
  show m_ck (true && m_in (nI k) 20) (K (m_gi h 35 q (nI k).toNatClampNeg)) = _
  rw [m_in_nI hk (by decide), nI_clamp (by omega)]; rfl
theorem sI_35 {q k : Nat} {x : Int32} {h : am_H} {K : am_H → am_R} (hk : k < 20) : m_sI (some (35, q)) (nI k) x h K = K (m_si h 35 q k x) := by
  show m_ck (true && m_in (nI k) 20) (K (m_si h 35 q (nI k).toNatClampNeg x)) = _
  rw [m_in_nI hk (by decide), nI_clamp (by omega)]; rfl
theorem aI_36 {q k : Nat} {h : am_H} {K : Int32 → am_R} (hk : k < 160) : m_aI (some (36, q)) 0 (nI k) h K = K (m_gi h 36 q k) := by
  show m_ck (true && m_in (nI k) 160) (K (m_gi h 36 q (nI k).toNatClampNeg)) = _
  rw [m_in_nI hk (by decide), nI_clamp (by omega)]; rfl
theorem sI_36 {q k : Nat} {x : Int32} {h : am_H} {K : am_H → am_R} (hk : k < 160) : m_sI (some (36, q)) (nI k) x h K = K (m_si h 36 q k x) := by
  show m_ck (true && m_in (nI k) 160) (K (m_si h 36 q (nI k).toNatClampNeg x)) = _
  rw [m_in_nI hk (by decide), nI_clamp (by omega)]; rfl
theorem aI_37 {q k : Nat} {h : am_H} {K : Int32 → am_R} (hk : k < 20) : m_aI (some (37, q)) 0 (nI k) h K = K (m_gi h 37 q k) := by
  show m_ck (true && m_in (nI k) 20) (K (m_gi h 37 q (nI k).toNatClampNeg)) = _
  rw [m_in_nI hk (by decide), nI_clamp (by omega)]; rfl
theorem sI_37 {q k : Nat} {x : Int32} {h : am_H} {K : am_H → am_R} (hk : k < 20) : m_sI (some (37, q)) (nI k) x h K = K (m_si h 37 q k x) := by
  show m_ck (true && m_in (nI k) 20) (K (m_si h 37 q (nI k).toNatClampNeg x)) = _
  rw [m_in_nI hk (by decide), nI_clamp (by omega)]; rfl
theorem aI_38 {q k : Nat} {h : am_H} {K : Int32 → am_R} (hk : k < 20) : m_aI (some (38, q)) 1 (nI k) h K = K (m_gi h 38 q k) := by
  show m_ck (true && m_in (nI k) 20) (K (m_gi h 38 q (nI k).toNatClampNeg)) = _
  rw [m_in_nI hk (by decide), nI_clamp (by omega)]; rfl
theorem sZ_38 {q k : Nat} {x : Int32} {h : am_H} {K : am_H → am_R} (hx : m_nz x = true) (hk : k < 20) : m_sZ (some (38, q)) (nI k) x h K = K (m_si h 38 q k x) := by
  show m_ck (m_nz x) (m_ck (true && m_in (nI k) 20) (K (m_si h 38 q (nI k).toNatClampNeg x))) = _
  rw [hx, m_in_nI hk (by decide), nI_clamp (by omega)]; rfl
theorem aI_39 {q k : Nat} {h : am_H} {K : Int32 → am_R} (hk : k < 20) : m_aI (some (39, q)) 0 (nI k) h K = K (m_gi h 39 q k) := by
  show m_ck (true && m_in (nI k) 20) (K (m_gi h 39 q (nI k).toNatClampNeg)) = _
  rw [m_in_nI hk (by decide), nI_clamp (by omega)]; rfl
theorem sI_39 {q k : Nat} {x : Int32} {h : am_H} {K : am_H → am_R} (hk : k < 20) : m_sI (some (39, q)) (nI k) x h K = K (m_si h 39 q k x) := by
  show m_ck (true && m_in (nI k) 20) (K (m_si h 39 q (nI k).toNatClampNeg x)) = _
  rw [m_in_nI hk (by decide), nI_clamp (by omega)]; rfl
theorem aI_40 {q k : Nat} {h : am_H} {K : Int32 → am_R} (hk : k < 20) : m_aI (some (40, q)) 0 (nI k) h K = K (m_gi h 40 q k) := by
  show m_ck (true && m_in (nI k) 20) (K (m_gi h 40 q (nI k).toNatClampNeg)) = _
  rw [m_in_nI hk (by decide), nI_clamp (by omega)]; rfl
theorem sI_40 {q k : Nat} {x : Int32} {h : am_H} {K : am_H → am_R} (hk : k < 20) : m_sI (some (40, q)) (nI k) x h K = K (m_si h 40 q k x) := by
  show m_ck (true && m_in (nI k) 20) (K (m_si h 40 q (nI k).toNatClampNeg x)) = _
  rw [m_in_nI hk (by decide), nI_clamp (by omega)]; rfl
theorem aI_41 {q k : Nat} {h : am_H} {K : Int32 → am_R} (hk : k < 20) : m_aI (some (41, q)) 0 (nI k) h K = K (m_gi h 41 q k) := by
  show m_ck (true && m_in (nI k) 20) (K (m_gi h 41 q (nI k).toNatClampNeg)) = _
  rw [m_in_nI hk (by decide), nI_clamp (by omega)]; rfl
theorem sI_41 {q k : Nat} {x : Int32} {h : am_H} {K : am_H → am_R} (hk : k < 20) : m_sI (some (41, q)) (nI k) x h K = K (m_si h 41 q k x) := by
  show m_ck (true && m_in (nI k) 20) (K (m_si h 41 q (nI k).toNatClampNeg x)) = _
  rw [m_in_nI hk (by decide), nI_clamp (by omega)]; rfl
theorem aI_42 {q k : Nat} {h : am_H} {K : Int32 → am_R} (hk : k < 20) : m_aI (some (42, q)) 1 (nI k) h K = K (m_gi h 42 q k) := by
  show m_ck (true && m_in (nI k) 20) (K (m_gi h 42 q (nI k).toNatClampNeg)) = _
  rw [m_in_nI hk (by decide), nI_clamp (by omega)]; rfl
theorem sZ_42 {q k : Nat} {x : Int32} {h : am_H} {K : am_H → am_R} (hx : m_nz x = true) (hk : k < 20) : m_sZ (some (42, q)) (nI k) x h K = K (m_si h 42 q k x) := by
  show m_ck (m_nz x) (m_ck (true && m_in (nI k) 20) (K (m_si h 42 q (nI k).toNatClampNeg x))) = _
  rw [hx, m_in_nI hk (by decide), nI_clamp (by omega)]; rfl
theorem aI_43 {q k : Nat} {h : am_H} {K : Int32 → am_R} (hk : k < 20) : m_aI (some (43, q)) 1 (nI k) h K = K (m_gi h 43 q k) := by
  show m_ck (true && m_in (nI k) 20) (K (m_gi h 43 q (nI k).toNatClampNeg)) = _
  rw [m_in_nI hk (by decide), nI_clamp (by omega)]; rfl
theorem sZ_43 {q k : Nat} {x : Int32} {h : am_H} {K : am_H → am_R} (hx : m_nz x = true) (hk : k < 20) : m_sZ (some (43, q)) (nI k) x h K = K (m_si h 43 q k x) := by
  show m_ck (m_nz x) (m_ck (true && m_in (nI k) 20) (K (m_si h 43 q (nI k).toNatClampNeg x))) = _
  rw [hx, m_in_nI hk (by decide), nI_clamp (by omega)]; rfl
theorem aI_44 {q k : Nat} {h : am_H} {K : Int32 → am_R} (hk : k < 20) : m_aI (some (44, q)) 0 (nI k) h K = K (m_gi h 44 q k) := by
  show m_ck (true && m_in (nI k) 20) (K (m_gi h 44 q (nI k).toNatClampNeg)) = _
  rw [m_in_nI hk (by decide), nI_clamp (by omega)]; rfl
theorem sI_44 {q k : Nat} {x : Int32} {h : am_H} {K : am_H → am_R} (hk : k < 20) : m_sI (some (44, q)) (nI k) x h K = K (m_si h 44 q k x) := by
  show m_ck (true && m_in (nI k) 20) (K (m_si h 44 q (nI k).toNatClampNeg x)) = _
  rw [m_in_nI hk (by decide), nI_clamp (by omega)]; rfl
theorem aI_45 {q k : Nat} {h : am_H} {K : Int32 → am_R} (hk : k < 6) : m_aI (some (45, q)) 0 (nI k) h K = K (m_gi h 45 q k) := by
  show m_ck (true && m_in (nI k) 6) (K (m_gi h 45 q (nI k).toNatClampNeg)) = _
  rw [m_in_nI hk (by decide), nI_clamp (by omega)]; rfl
theorem sI_45 {q k : Nat} {x : Int32} {h : am_H} {K : am_H → am_R} (hk : k < 6) : m_sI (some (45, q)) (nI k) x h K = K (m_si h 45 q k x) := by
  show m_ck (true && m_in (nI k) 6) (K (m_si h 45 q (nI k).toNatClampNeg x)) = _
  rw [m_in_nI hk (by decide), nI_clamp (by omega)]; rfl
theorem aI_46 {q k : Nat} {h : am_H} {K : Int32 → am_R} (hk : k < 6) : m_aI (some (46, q)) 0 (nI k) h K = K (m_gi h 46 q k) := by
  show m_ck (true && m_in (nI k) 6) (K (m_gi h 46 q (nI k).toNatClampNeg)) = _
  rw [m_in_nI hk (by decide), nI_clamp (by omega)]; rfl
theorem sI_46 {q k : Nat} {x : Int32} {h : am_H} {K : am_H → am_R} (hk : k < 6) : m_sI (some (46, q)) (nI k) x h K = K (m_si h 46 q k x) := by
  show m_ck (true && m_in (nI k) 6) (K (m_si h 46 q (nI k).toNatClampNeg x)) = _
  rw [m_in_nI hk (by decide), nI_clamp (by omega)]; rfl
theorem aI_47 {q k : Nat} {h : am_H} {K : Int32 → am_R} (hk : k < 30) : m_aI (some (47, q)) 0 (nI k) h K = K (m_gi h 47 q k) := by
  show m_ck (true && m_in (nI k) 30) (K (m_gi h 47 q (nI k).toNatClampNeg)) = _
  rw [m_in_nI hk (by decide), nI_clamp (by omega)]; rfl
theorem sI_47 {q k : Nat} {x : Int32} {h : am_H} {K : am_H → am_R} (hk : k < 30) : m_sI (some (47, q)) (nI k) x h K = K (m_si h 47 q k x) := by
  show m_ck (true && m_in (nI k) 30) (K (m_si h 47 q (nI k).toNatClampNeg x)) = _
  rw [m_in_nI hk (by decide), nI_clamp (by omega)]; rfl
theorem aI_48 {q k : Nat} {h : am_H} {K : Int32 → am_R} (hk : k < 30) : m_aI (some (48, q)) 0 (nI k) h K = K (m_gi h 48 q k) := by
  show m_ck (true && m_in (nI k) 30) (K (m_gi h 48 q (nI k).toNatClampNeg)) = _
  rw [m_in_nI hk (by decide), nI_clamp (by omega)]; rfl
theorem sI_48 {q k : Nat} {x : Int32} {h : am_H} {K : am_H → am_R} (hk : k < 30) : m_sI (some (48, q)) (nI k) x h K = K (m_si h 48 q k x) := by
  show m_ck (true && m_in (nI k) 30) (K (m_si h 48 q (nI k).toNatClampNeg x)) = _
  rw [m_in_nI hk (by decide), nI_clamp (by omega)]; rfl
theorem aI_49 {q k : Nat} {h : am_H} {K : Int32 → am_R} (hk : k < 30) : m_aI (some (49, q)) 0 (nI k) h K = K (m_gi h 49 q k) := by
  show m_ck (true && m_in (nI k) 30) (K (m_gi h 49 q (nI k).toNatClampNeg)) = _
  rw [m_in_nI hk (by decide), nI_clamp (by omega)]; rfl
theorem sI_49 {q k : Nat} {x : Int32} {h : am_H} {K : am_H → am_R} (hk : k < 30) : m_sI (some (49, q)) (nI k) x h K = K (m_si h 49 q k x) := by
  show m_ck (true && m_in (nI k) 30) (K (m_si h 49 q (nI k).toNatClampNeg x)) = _
  rw [m_in_nI hk (by decide), nI_clamp (by omega)]; rfl
theorem aI_50 {q k : Nat} {h : am_H} {K : Int32 → am_R} (hk : k < 60) : m_aI (some (50, q)) 0 (nI k) h K = K (m_gi h 50 q k) := by
  show m_ck (true && m_in (nI k) 60) (K (m_gi h 50 q (nI k).toNatClampNeg)) = _
  rw [m_in_nI hk (by decide), nI_clamp (by omega)]; rfl
theorem sI_50 {q k : Nat} {x : Int32} {h : am_H} {K : am_H → am_R} (hk : k < 60) : m_sI (some (50, q)) (nI k) x h K = K (m_si h 50 q k x) := by
  show m_ck (true && m_in (nI k) 60) (K (m_si h 50 q (nI k).toNatClampNeg x)) = _
  rw [m_in_nI hk (by decide), nI_clamp (by omega)]; rfl
theorem aI_51 {q k : Nat} {h : am_H} {K : Int32 → am_R} (hk : k < 64) : m_aI (some (51, q)) 1 (nI k) h K = K (m_gi h 51 q k) := by
  show m_ck (true && m_in (nI k) 64) (K (m_gi h 51 q (nI k).toNatClampNeg)) = _
  rw [m_in_nI hk (by decide), nI_clamp (by omega)]; rfl
theorem sZ_51 {q k : Nat} {x : Int32} {h : am_H} {K : am_H → am_R} (hx : m_nz x = true) (hk : k < 64) : m_sZ (some (51, q)) (nI k) x h K = K (m_si h 51 q k x) := by
  show m_ck (m_nz x) (m_ck (true && m_in (nI k) 64) (K (m_si h 51 q (nI k).toNatClampNeg x))) = _
  rw [hx, m_in_nI hk (by decide), nI_clamp (by omega)]; rfl
theorem aI_52 {q k : Nat} {h : am_H} {K : Int32 → am_R} (hk : k < 64) : m_aI (some (52, q)) 1 (nI k) h K = K (m_gi h 52 q k) := by
  show m_ck (true && m_in (nI k) 64) (K (m_gi h 52 q (nI k).toNatClampNeg)) = _
  rw [m_in_nI hk (by decide), nI_clamp (by omega)]; rfl
theorem sZ_52 {q k : Nat} {x : Int32} {h : am_H} {K : am_H → am_R} (hx : m_nz x = true) (hk : k < 64) : m_sZ (some (52, q)) (nI k) x h K = K (m_si h 52 q k x) := by
  show m_ck (m_nz x) (m_ck (true && m_in (nI k) 64) (K (m_si h 52 q (nI k).toNatClampNeg x))) = _
  rw [hx, m_in_nI hk (by decide), nI_clamp (by omega)]; rfl
theorem aI_53 {q k : Nat} {h : am_H} {K : Int32 → am_R} (hk : k < 64) : m_aI (some (53, q)) 1 (nI k) h K = K (m_gi h 53 q k) := by
  show m_ck (true && m_in (nI k) 64) (K (m_gi h 53 q (nI k).toNatClampNeg)) = _
  rw [m_in_nI hk (by decide), nI_clamp (by omega)]; rfl
theorem sZ_53 {q k : Nat} {x : Int32} {h : am_H} {K : am_H → am_R} (hx : m_nz x = true) (hk : k < 64) : m_sZ (some (53, q)) (nI k) x h K = K (m_si h 53 q k x) := by
  show m_ck (m_nz x) (m_ck (true && m_in (nI k) 64) (K (m_si h 53 q (nI k).toNatClampNeg x))) = _
  rw [hx, m_in_nI hk (by decide), nI_clamp (by omega)]; rfl
theorem aI_54 {q k : Nat} {h : am_H} {K : Int32 → am_R} (hk : k < 8) : m_aI (some (54, q)) 0 (nI k) h K = K (m_gi h 54 q k) := by
  show m_ck (true && m_in (nI k) 8) (K (m_gi h 54 q (nI k).toNatClampNeg)) = _
  rw [m_in_nI hk (by decide), nI_clamp (by omega)]; rfl
theorem sI_54 {q k : Nat} {x : Int32} {h : am_H} {K : am_H → am_R} (hk : k < 8) : m_sI (some (54, q)) (nI k) x h K = K (m_si h 54 q k x) := by
  show m_ck (true && m_in (nI k) 8) (K (m_si h 54 q (nI k).toNatClampNeg x)) = _
  rw [m_in_nI hk (by decide), nI_clamp (by omega)]; rfl
theorem aI_55 {q k : Nat} {h : am_H} {K : Int32 → am_R} (hk : k < 8) : m_aI (some (55, q)) 0 (nI k) h K = K (m_gi h 55 q k) := by
  show m_ck (true && m_in (nI k) 8) (K (m_gi h 55 q (nI k).toNatClampNeg)) = _
  rw [m_in_nI hk (by decide), nI_clamp (by omega)]; rfl
theorem sI_55 {q k : Nat} {x : Int32} {h : am_H} {K : am_H → am_R} (hk : k < 8) : m_sI (some (55, q)) (nI k) x h K = K (m_si h 55 q k x) := by
  show m_ck (true && m_in (nI k) 8) (K (m_si h 55 q (nI k).toNatClampNeg x)) = _
  rw [m_in_nI hk (by decide), nI_clamp (by omega)]; rfl
theorem aI_56 {q k : Nat} {h : am_H} {K : Int32 → am_R} (hk : k < 8) : m_aI (some (56, q)) 0 (nI k) h K = K (m_gi h 56 q k) := by
  show m_ck (true && m_in (nI k) 8) (K (m_gi h 56 q (nI k).toNatClampNeg)) = _
  rw [m_in_nI hk (by decide), nI_clamp (by omega)]; rfl
theorem sI_56 {q k : Nat} {x : Int32} {h : am_H} {K : am_H → am_R} (hk : k < 8) : m_sI (some (56, q)) (nI k) x h K = K (m_si h 56 q k x) := by
  show m_ck (true && m_in (nI k) 8) (K (m_si h 56 q (nI k).toNatClampNeg x)) = _
  rw [m_in_nI hk (by decide), nI_clamp (by omega)]; rfl
theorem aI_57 {q k : Nat} {h : am_H} {K : Int32 → am_R} (hk : k < 8) : m_aI (some (57, q)) 0 (nI k) h K = K (m_gi h 57 q k) := by
  show m_ck (true && m_in (nI k) 8) (K (m_gi h 57 q (nI k).toNatClampNeg)) = _
  rw [m_in_nI hk (by decide), nI_clamp (by omega)]; rfl
theorem sI_57 {q k : Nat} {x : Int32} {h : am_H} {K : am_H → am_R} (hk : k < 8) : m_sI (some (57, q)) (nI k) x h K = K (m_si h 57 q k x) := by
  show m_ck (true && m_in (nI k) 8) (K (m_si h 57 q (nI k).toNatClampNeg x)) = _
  rw [m_in_nI hk (by decide), nI_clamp (by omega)]; rfl
theorem aI_58 {q k : Nat} {h : am_H} {K : Int32 → am_R} (hk : k < 64) : m_aI (some (58, q)) 1 (nI k) h K = K (m_gi h 58 q k) := by
  show m_ck (true && m_in (nI k) 64) (K (m_gi h 58 q (nI k).toNatClampNeg)) = _
  rw [m_in_nI hk (by decide), nI_clamp (by omega)]; rfl
theorem sZ_58 {q k : Nat} {x : Int32} {h : am_H} {K : am_H → am_R} (hx : m_nz x = true) (hk : k < 64) : m_sZ (some (58, q)) (nI k) x h K = K (m_si h 58 q k x) := by
  show m_ck (m_nz x) (m_ck (true && m_in (nI k) 64) (K (m_si h 58 q (nI k).toNatClampNeg x))) = _
  rw [hx, m_in_nI hk (by decide), nI_clamp (by omega)]; rfl
theorem aI_59 {q k : Nat} {h : am_H} {K : Int32 → am_R} (hk : k < 256) : m_aI (some (59, q)) 0 (nI k) h K = K (m_gi h 59 q k) := by
  show m_ck (true && m_in (nI k) 256) (K (m_gi h 59 q (nI k).toNatClampNeg)) = _
  rw [m_in_nI hk (by decide), nI_clamp (by omega)]; rfl
theorem sI_59 {q k : Nat} {x : Int32} {h : am_H} {K : am_H → am_R} (hk : k < 256) : m_sI (some (59, q)) (nI k) x h K = K (m_si h 59 q k x) := by
  show m_ck (true && m_in (nI k) 256) (K (m_si h 59 q (nI k).toNatClampNeg x)) = _
  rw [m_in_nI hk (by decide), nI_clamp (by omega)]; rfl
theorem aI_60 {q k : Nat} {h : am_H} {K : Int32 → am_R} (hk : k < 60) : m_aI (some (60, q)) 0 (nI k) h K = K (m_gi h 60 q k) := by
  show m_ck (true && m_in (nI k) 60) (K (m_gi h 60 q (nI k).toNatClampNeg)) = _
  rw [m_in_nI hk (by decide), nI_clamp (by omega)]; rfl
theorem sI_60 {q k : Nat} {x : Int32} {h : am_H} {K : am_H → am_R} (hk : k < 60) : m_sI (some (60, q)) (nI k) x h K = K (m_si h 60 q k x) := by
  show m_ck (true && m_in (nI k) 60) (K (m_si h 60 q (nI k).toNatClampNeg x)) = _
  rw [m_in_nI hk (by decide), nI_clamp (by omega)]; rfl
theorem aI_61 {q k : Nat} {h : am_H} {K : Int32 → am_R} (hk : k < 60) : m_aI (some (61, q)) 0 (nI k) h K = K (m_gi h 61 q k) := by
  show m_ck (true && m_in (nI k) 60) (K (m_gi h 61 q (nI k).toNatClampNeg)) = _
  rw [m_in_nI hk (by decide), nI_clamp (by omega)]; rfl
theorem sI_61 {q k : Nat} {x : Int32} {h : am_H} {K : am_H → am_R} (hk : k < 60) : m_sI (some (61, q)) (nI k) x h K = K (m_si h 61 q k x) := by
  show m_ck (true && m_in (nI k) 60) (K (m_si h 61 q (nI k).toNatClampNeg x)) = _
  rw [m_in_nI hk (by decide), nI_clamp (by omega)]; rfl
theorem aI_62 {q k : Nat} {h : am_H} {K : Int32 → am_R} (hk : k < 60) : m_aI (some (62, q)) 0 (nI k) h K = K (m_gi h 62 q k) := by
  show m_ck (true && m_in (nI k) 60) (K (m_gi h 62 q (nI k).toNatClampNeg)) = _
  rw [m_in_nI hk (by decide), nI_clamp (by omega)]; rfl
theorem sI_62 {q k : Nat} {x : Int32} {h : am_H} {K : am_H → am_R} (hk : k < 60) : m_sI (some (62, q)) (nI k) x h K = K (m_si h 62 q k x) := by
  show m_ck (true && m_in (nI k) 60) (K (m_si h 62 q (nI k).toNatClampNeg x)) = _
  rw [m_in_nI hk (by decide), nI_clamp (by omega)]; rfl
theorem aI_63 {q k : Nat} {h : am_H} {K : Int32 → am_R} (hk : k < 60) : m_aI (some (63, q)) 1 (nI k) h K = K (m_gi h 63 q k) := by
  show m_ck (true && m_in (nI k) 60) (K (m_gi h 63 q (nI k).toNatClampNeg)) = _
  rw [m_in_nI hk (by decide), nI_clamp (by omega)]; rfl
theorem sZ_63 {q k : Nat} {x : Int32} {h : am_H} {K : am_H → am_R} (hx : m_nz x = true) (hk : k < 60) : m_sZ (some (63, q)) (nI k) x h K = K (m_si h 63 q k x) := by
  show m_ck (m_nz x) (m_ck (true && m_in (nI k) 60) (K (m_si h 63 q (nI k).toNatClampNeg x))) = _
  rw [hx, m_in_nI hk (by decide), nI_clamp (by omega)]; rfl
theorem aI_64 {q k : Nat} {h : am_H} {K : Int32 → am_R} (hk : k < 60) : m_aI (some (64, q)) 1 (nI k) h K = K (m_gi h 64 q k) := by
  show m_ck (true && m_in (nI k) 60) (K (m_gi h 64 q (nI k).toNatClampNeg)) = _
  rw [m_in_nI hk (by decide), nI_clamp (by omega)]; rfl
theorem sZ_64 {q k : Nat} {x : Int32} {h : am_H} {K : am_H → am_R} (hx : m_nz x = true) (hk : k < 60) : m_sZ (some (64, q)) (nI k) x h K = K (m_si h 64 q k x) := by
  show m_ck (m_nz x) (m_ck (true && m_in (nI k) 60) (K (m_si h 64 q (nI k).toNatClampNeg x))) = _
  rw [hx, m_in_nI hk (by decide), nI_clamp (by omega)]; rfl
theorem aI_65 {q k : Nat} {h : am_H} {K : Int32 → am_R} (hk : k < 60) : m_aI (some (65, q)) 1 (nI k) h K = K (m_gi h 65 q k) := by
  show m_ck (true && m_in (nI k) 60) (K (m_gi h 65 q (nI k).toNatClampNeg)) = _
  rw [m_in_nI hk (by decide), nI_clamp (by omega)]; rfl
theorem sZ_65 {q k : Nat} {x : Int32} {h : am_H} {K : am_H → am_R} (hx : m_nz x = true) (hk : k < 60) : m_sZ (some (65, q)) (nI k) x h K = K (m_si h 65 q k x) := by
  show m_ck (m_nz x) (m_ck (true && m_in (nI k) 60) (K (m_si h 65 q (nI k).toNatClampNeg x))) = _
  rw [hx, m_in_nI hk (by decide), nI_clamp (by omega)]; rfl
theorem aI_66 {q k : Nat} {h : am_H} {K : Int32 → am_R} (hk : k < 240) : m_aI (some (66, q)) 0 (nI k) h K = K (m_gi h 66 q k) := by
  show m_ck (true && m_in (nI k) 240) (K (m_gi h 66 q (nI k).toNatClampNeg)) = _
  rw [m_in_nI hk (by decide), nI_clamp (by omega)]; rfl
theorem sI_66 {q k : Nat} {x : Int32} {h : am_H} {K : am_H → am_R} (hk : k < 240) : m_sI (some (66, q)) (nI k) x h K = K (m_si h 66 q k x) := by
  show m_ck (true && m_in (nI k) 240) (K (m_si h 66 q (nI k).toNatClampNeg x)) = _
  rw [m_in_nI hk (by decide), nI_clamp (by omega)]; rfl
theorem aI_67 {q k : Nat} {h : am_H} {K : Int32 → am_R} (hk : k < 144) : m_aI (some (67, q)) 0 (nI k) h K = K (m_gi h 67 q k) := by
  show m_ck (true && m_in (nI k) 144) (K (m_gi h 67 q (nI k).toNatClampNeg)) = _
  rw [m_in_nI hk (by decide), nI_clamp (by omega)]; rfl
theorem sI_67 {q k : Nat} {x : Int32} {h : am_H} {K : am_H → am_R} (hk : k < 144) : m_sI (some (67, q)) (nI k) x h K = K (m_si h 67 q k x) := by
  show m_ck (true && m_in (nI k) 144) (K (m_si h 67 q (nI k).toNatClampNeg x)) = _
  rw [m_in_nI hk (by decide), nI_clamp (by omega)]; rfl
theorem aI_68 {q k : Nat} {h : am_H} {K : Int32 → am_R} (hk : k < 1920) : m_aI (some (68, q)) 1 (nI k) h K = K (m_gi h 68 q k) := by
  show m_ck (true && m_in (nI k) 1920) (K (m_gi h 68 q (nI k).toNatClampNeg)) = _
  rw [m_in_nI hk (by decide), nI_clamp (by omega)]; rfl
theorem sZ_68 {q k : Nat} {x : Int32} {h : am_H} {K : am_H → am_R} (hx : m_nz x = true) (hk : k < 1920) : m_sZ (some (68, q)) (nI k) x h K = K (m_si h 68 q k x) := by
  show m_ck (m_nz x) (m_ck (true && m_in (nI k) 1920) (K (m_si h 68 q (nI k).toNatClampNeg x))) = _
  rw [hx, m_in_nI hk (by decide), nI_clamp (by omega)]; rfl
theorem gI_69 {q j : Nat} {h : am_H} {K : Int32 → am_R} : m_gI (some (69, q)) 10 j h K = K (m_gi h 69 q j) := rfl
theorem gR_69 {q j : Nat} {h : am_H} {K : Option (Nat × Nat) → am_R} : m_gR (some (69, q)) 10 j h K = K (m_gr h 69 q j) := rfl
theorem pI_69 {q j : Nat} {x : Int32} {h : am_H} {K : am_H → am_R} : m_pI (some (69, q)) 10 j x h K = K (m_si h 69 q j x) := rfl
theorem pR_69 {q j : Nat} {x : Option (Nat × Nat)} {h : am_H} {K : am_H → am_R} : m_pR (some (69, q)) 10 j x h K = K (m_sr h 69 q j x) := rfl
theorem pZ_69 {q j : Nat} {x : Int32} {h : am_H} {K : am_H → am_R} (hx : m_nz x = true) : m_pZ (some (69, q)) 10 j x h K = K (m_si h 69 q j x) := by show m_ck (m_nz x) _ = _; rw [hx]; rfl
theorem ao_69 {q : Nat} {K : Nat × Nat → am_R} : m_ao (some (69, q)) 10 K = K (69, q) := rfl
theorem gI_70 {q j : Nat} {h : am_H} {K : Int32 → am_R} : m_gI (some (70, q)) 11 j h K = K (m_gi h 70 q j) := rfl
theorem gR_70 {q j : Nat} {h : am_H} {K : Option (Nat × Nat) → am_R} : m_gR (some (70, q)) 11 j h K = K (m_gr h 70 q j) := rfl
theorem pI_70 {q j : Nat} {x : Int32} {h : am_H} {K : am_H → am_R} : m_pI (some (70, q)) 11 j x h K = K (m_si h 70 q j x) := rfl
theorem pR_70 {q j : Nat} {x : Option (Nat × Nat)} {h : am_H} {K : am_H → am_R} : m_pR (some (70, q)) 11 j x h K = K (m_sr h 70 q j x) := rfl
theorem pZ_70 {q j : Nat} {x : Int32} {h : am_H} {K : am_H → am_R} (hx : m_nz x = true) : m_pZ (some (70, q)) 11 j x h K = K (m_si h 70 q j x) := by show m_ck (m_nz x) _ = _; rw [hx]; rfl
theorem ao_70 {q : Nat} {K : Nat × Nat → am_R} : m_ao (some (70, q)) 11 K = K (70, q) := rfl
theorem aL_71 {q k : Nat} {h : am_H} {K : Int64 → am_R} (hk : k < 1) : m_aL (some (71, q)) (nI k) h K = K (m_gl h 71 q k) := by
  show m_ck (true && m_in (nI k) 1) (K (m_gl h 71 q (nI k).toNatClampNeg)) = _
  rw [m_in_nI hk (by decide), nI_clamp (by omega)]; rfl
theorem sL_71 {q k : Nat} {x : Int64} {h : am_H} {K : am_H → am_R} (hk : k < 1) : m_sL (some (71, q)) (nI k) x h K = K (m_sl h 71 q k x) := by
  show m_ck (true && m_in (nI k) 1) (K (m_sl h 71 q (nI k).toNatClampNeg x)) = _
  rw [m_in_nI hk (by decide), nI_clamp (by omega)]; rfl
