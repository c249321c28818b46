/-! ## both objects answer alike -/
theorem ao_72 {K : Nat × Nat → am_R} : m_ao (some (72, 0)) 10 K = K (72, 0) := rfl
def AlR (N : Nat) (h : am_H) (r : am_R) : Prop := ∃ h' go' gp', r = m_ri h' 1 ∧ Tw go' gp' h' ∧ Cost h h' N
theorem AlR.le {N M : Nat} {h : am_H} {r : am_R} (A : AlR N h r) (hm : N ≤ M) : AlR M h r := by
  obtain ⟨h', go', gp', a1, a2, a3⟩ := A
  exact ⟨h', go', gp', a1, a2, a3.le hm⟩
theorem al_pair {F : Nat × Nat → am_H → am_R} {Q : am_H → am_H → Int32 → Prop} (P : PgQ F 1 Q) {go gp h : am_H} (T : Tw go gp h) {K E : am_H → am_R} {N : Nat} (k : ∀ go' gp' h2, Tw go' gp' h2 → AlR N h2 (K h2)) : AlR (N + 2) h (m_bI (F (69, 0) h) fun h1 v => m_bI (F (72, 0) h1) fun h2 v' => if v = v' then K h2 else E h2) := by
  obtain ⟨h1, h2, go', gp', v, a1, a2, a3, a4, a5, a6, a7⟩ := Pg.both P T
  rw [a1, bI_ri, a2, bI_ri, if_pos rfl]
  obtain ⟨h', g1, g2, b1, b2, b3⟩ := k go' gp' h2 a5
  exact ⟨h', g1, g2, b1, b2, (a6.trans b3).le (by omega)⟩
theorem pgd_11 (x y : Int32) : PgQ (fun a h => f_L_does (some a) 11 x y 0 0 h) 1 qT := PgQ.of_do (lo_11 x y 0 0) (fun O => do_11 O x y 0 0)
theorem pgd_12 (x y : Int32) : PgQ (fun a h => f_L_does (some a) 12 x y 0 0 h) 1 qT := PgQ.of_do (lo_12 x y 0 0) (fun O => do_12 O x y 0 0)
theorem pgd_20 (x y : Int32) : PgQ (fun a h => f_L_does (some a) 20 x y 0 0 h) 1 qT := PgQ.of_do (lo_20 x y 0 0) (fun O => do_20 O x y 0 0)
theorem pgd_25 (x y : Int32) : PgQ (fun a h => f_L_does (some a) 25 x y 0 0 h) 1 qT := PgQ.of_do (lo_25 x y 0 0) (fun O => do_25 O x y 0 0)
theorem pgd_29 (x y : Int32) : PgQ (fun a h => f_L_does (some a) 29 x y 0 0 h) 1 qT := PgQ.of_do (lo_29 x y 0 0) (fun O => do_29 O x y 0 0)
theorem pgd_31 (x y : Int32) : PgQ (fun a h => f_L_does (some a) 31 x y 0 0 h) 1 qT := PgQ.of_do (lo_31 x y 0 0) (fun O => do_31 O x y 0 0)
theorem pgd_33 (x y : Int32) : PgQ (fun a h => f_L_does (some a) 33 x y 0 0 h) 1 qT := PgQ.of_do (lo_33 x y 0 0) (fun O => do_33 O x y 0 0)
theorem pgd_17 (x y : Int32) : PgQ (fun a h => f_L_does (some a) 17 x y 0 0 h) 1 qT := PgQ.of_do (lo_17 x y 0 0) (fun O => do_17 O x y 0 0)
theorem pgd_22 (x y : Int32) : PgQ (fun a h => f_L_does (some a) 22 x y 0 0 h) 1 qT := PgQ.of_do (lo_22 x y 0 0) (fun O => do_22 O x y 0 0)
theorem pgd_23 (x y : Int32) : PgQ (fun a h => f_L_does (some a) 23 x y 0 0 h) 1 qT := PgQ.of_do (lo_23 x y 0 0) (fun O => do_23 O x y 0 0)
theorem al_266 {rc50 : Option (Nat × Nat) → Option (Nat × Nat) → Int32 → Int32 → Int32 → Int32 → am_H → am_R} {x2 x4 x5 : Int32} {N : Nat} (hrc : ∀ go gp h, Tw go gp h → AlR N h (rc50 (some (69, 0)) (some (72, 0)) x2 1 x4 (x5 + 1) h)) : ∀ (m n j : Nat), j + m = 5 → m < n → ∀ {go gp h : am_H}, Tw go gp h → AlR (N + 2 * m) h (f_L_areAlike_266 rc50 n (some (69, 0)) (some (72, 0)) x2 1 x4 x5 (nI j) h)
  | _, 0, j, _, hn, _, _, _, _ => by omega
  | 0, n + 1, j, hj, hn, go, gp, h, T => by
    rw [f_L_areAlike_266, if_pos (show (5 : Int32) ≤ nI j from (nI_leI (a := 5) (b := j) (by omega) (by omega)).mpr (by omega))]
    exact hrc go gp h T
  | m + 1, n + 1, j, hj, hn, go, gp, h, T => by
    rw [f_L_areAlike_266, if_neg (fun z => by have := (nI_leI (a := 5) (b := j) (by omega) (by omega)).mp z; omega), if_neg (by decide)]
    refine (al_pair (pgd_17 x5 (nI j)) T (K := fun h53 => f_L_areAlike_308 rc50 (f_L_areAlike_266 rc50 n) (some (69, 0)) (some (72, 0)) x2 x4 x5 (nI j) 1 h53) (N := N + 2 * m) (fun go' gp' h2 T2 => ?_)).le (by omega)
    show AlR _ _ (f_L_areAlike_266 rc50 n (some (69, 0)) (some (72, 0)) x2 1 x4 x5 (nI j + 1) h2)
    rw [nI_1]
    exact al_266 hrc m n (j + 1) (by omega) (by omega) T2
theorem al_321 (x2 x4 : Int32) {go gp h : am_H} (T : Tw go gp h) : AlR 4 h (f_L_areAlike_321 (some (69, 0)) (some (72, 0)) x2 1 x4 h) := by
  rw [f_L_areAlike_321, if_neg (by decide)]
  simp only [low_eq (show (3 : Int32) ≠ 0 by decide), bI_ri]
  refine al_pair (pgd_22 x4 (x2 &&& 1)) T (K := fun h57 => m_bI (f_L_does (some (69, 0)) 23 x4 (lowv (x2 >>> (3 &&& 31)) 3) 0 0 h57) fun h61 v62 => m_bI (f_L_does (some (72, 0)) 23 x4 (lowv (x2 >>> (3 &&& 31)) 3) 0 0 h61) fun h65 v66 => if v62 = v66 then f_L_areAlike_396 1 h65 else f_L_areAlike_395 h65) (N := 2) (fun go' gp' h2 T2 => ?_)
  exact al_pair (pgd_23 x4 (lowv (x2 >>> (3 &&& 31)) 3)) T2 (K := fun h65 => f_L_areAlike_396 1 h65) (N := 0) (fun go' gp' h3 T3 => ⟨h3, go', gp', rfl, T3, Cost.refl _⟩)
theorem al_50 (x2 x4 : Int32) : ∀ (m n k : Nat), k + m = 20 → m < n → ∀ {go gp h : am_H}, Tw go gp h → AlR (24 * m + 4) h (f_L_areAlike_50 n (some (69, 0)) (some (72, 0)) x2 1 x4 (nI k) h)
  | _, 0, k, _, hn, _, _, _, _ => by omega
  | 0, n + 1, k, hk, hn, go, gp, h, T => by
    rw [f_L_areAlike_50, if_pos (show (20 : Int32) ≤ nI k from (nI_leI (a := 20) (b := k) (by omega) (by omega)).mpr (by omega))]
    exact al_321 x2 x4 T
  | m + 1, n + 1, k, hk, hn, go, gp, h, T => by
    rw [f_L_areAlike_50, if_neg (fun z => by have := (nI_leI (a := 20) (b := k) (by omega) (by omega)).mp z; omega), if_neg (by decide)]
    have hrc : ∀ go gp h, Tw go gp h → AlR (24 * m + 4) h (f_L_areAlike_50 n (some (69, 0)) (some (72, 0)) x2 1 x4 (nI k + 1) h) := fun go gp h T => by
      rw [nI_1]
      exact al_50 x2 x4 m n (k + 1) (by omega) (by omega) T
    have h180 : ∀ go gp h, Tw go gp h → AlR (24 * m + 4 + 16) h (f_L_areAlike_180 (f_L_areAlike_50 n) (some (69, 0)) (some (72, 0)) x2 x4 (nI k) h) := fun go gp h T => by
      rw [f_L_areAlike_180]
      refine al_pair (pgd_29 (nI k) x4) T (N := 24 * m + 4 + 14) (fun go gp h T => ?_)
      refine al_pair (pgd_31 (nI k) 0) T (N := 24 * m + 4 + 12) (fun go gp h T => ?_)
      refine al_pair (pgd_33 (nI k) 0) T (N := 24 * m + 4 + 10) (fun go gp h T => ?_)
      exact al_266 hrc 5 5000 0 (by omega) (by omega) T
    simp only [low_eq (show (8 : Int32) ≠ 0 by decide), bI_ri]
    refine (al_pair (pgd_11 x4 (nI k)) T (N := 24 * m + 4 + 22) (fun go gp h T => ?_)).le (by omega)
    refine al_pair (pgd_12 x4 (nI k)) T (N := 24 * m + 4 + 20) (fun go gp h T => ?_)
    refine al_pair (pgd_20 (nI k) (x2 &&& 1)) T (N := 24 * m + 4 + 18) (fun go gp h T => ?_)
    by_cases z : nI k = lowv x2 8
    · rw [if_pos z]
      exact al_pair (pgd_25 (nI k) 0) T (N := 24 * m + 4 + 16) (fun go gp h T => h180 go gp h T)
    · rw [if_neg z]
      exact (h180 go gp h T).le (by omega)
theorem areAlike_ok (x2 : Int32) {go gp h : am_H} (T : Tw go gp h) : AlR 500 h (f_L_areAlike (some (69, 0)) (some (72, 0)) x2 h) := by
  rw [f_L_areAlike, ao_69]
  simp only [ao_69, ao_72]
  refine (al_pair (F := fun a h => f_X10_fault a h) (PgQ.of_doN lo_fault (fun O => do_fault O)) T (N := 498) (fun go gp h T => ?_)).le (by omega)
  refine (al_pair (F := fun a h => f_X10_waiting a h) (PgQ.of_doN lo_waiting (fun O => do_waiting O)) T (N := 494) (fun go gp h T => ?_)).le (by omega)
  refine (al_pair (F := fun a h => f_X10_matches a h) (PgQ.of_doN lo_matches (fun O => do_matches O)) T (N := 484) (fun go gp h T => ?_)).le (by omega)
  rw [f_L_areAlike_38, low_eq (by decide), bI_ri]
  exact (al_50 x2 _ 20 5000 0 (by omega) (by omega) T).le (by omega)
