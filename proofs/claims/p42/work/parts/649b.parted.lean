/-! ## what is typed, and what it means -/
def itL (k num : Nat) : List Nat := if k = 2 then [114, 48 + num] else if k = 1 then [97, 48 + num / 10, 48 + num % 10] else [116, 48 + num / 10, 48 + num % 10]
def lim (k : Nat) : Nat := if k = 0 then 16 else if k = 1 then 12 else 4
def ltr (k : Nat) : Nat := if k = 0 then 116 else if k = 1 then 97 else 114
theorem ch2 : ∀ num, num < 4 → allP (fun j => okC (chN (Int32.toInt64 ((114 : Int32) ||| (((48 : Int32) + nI num) <<< ((8 : Int32) &&& 31)))) j)) 2 = true ∧ ∀ i, i < 2 → chN (Int32.toInt64 ((114 : Int32) ||| (((48 : Int32) + nI num) <<< ((8 : Int32) &&& 31)))) i = [114, 48 + num].getD i 0 := by decide +kernel
theorem ch3a : ∀ num, num < 16 → allP (fun j => okC (chN (Int32.toInt64 (((116 : Int32) ||| (((48 : Int32) + (nI num / (10 : Int32))) <<< ((8 : Int32) &&& 31))) ||| (((48 : Int32) + (nI num - nI num / (10 : Int32) * (10 : Int32))) <<< ((16 : Int32) &&& 31)))) j)) 3 = true ∧ ∀ i, i < 3 → chN (Int32.toInt64 (((116 : Int32) ||| (((48 : Int32) + (nI num / (10 : Int32))) <<< ((8 : Int32) &&& 31))) ||| (((48 : Int32) + (nI num - nI num / (10 : Int32) * (10 : Int32))) <<< ((16 : Int32) &&& 31)))) i = [116, 48 + num / 10, 48 + num % 10].getD i 0 := by decide +kernel
theorem ch3b : ∀ num, num < 12 → allP (fun j => okC (chN (Int32.toInt64 (((97 : Int32) ||| (((48 : Int32) + (nI num / (10 : Int32))) <<< ((8 : Int32) &&& 31))) ||| (((48 : Int32) + (nI num - nI num / (10 : Int32) * (10 : Int32))) <<< ((16 : Int32) &&& 31)))) j)) 3 = true ∧ ∀ i, i < 3 → chN (Int32.toInt64 (((97 : Int32) ||| (((48 : Int32) + (nI num / (10 : Int32))) <<< ((8 : Int32) &&& 31))) ||| (((48 : Int32) + (nI num - nI num / (10 : Int32) * (10 : Int32))) <<< ((16 : Int32) &&& 31)))) i = [97, 48 + num / 10, 48 + num % 10].getD i 0 := by decide +kernel
theorem ch1 : (allP (fun j => okC (chN (Int32.toInt64 (33 : Int32)) j)) 1 = true ∧ ∀ i, i < 1 → chN (Int32.toInt64 (33 : Int32)) i = [33].getD i 0) ∧ (allP (fun j => okC (chN (Int32.toInt64 (124 : Int32)) j)) 1 = true ∧ ∀ i, i < 1 → chN (Int32.toInt64 (124 : Int32)) i = [124].getD i 0) := by decide +kernel
theorem vd_all : ∀ k, k < 3 → ∀ num, num < lim k → vd (fun i => (itL k num).getD i 0) (itL k num).length 0 0 0 = true ∧ vd (fun i => ([33] ++ itL k num).getD i 0) ([33] ++ itL k num).length 0 0 0 = true ∧ vd (fun i => (([33] ++ itL k num ++ [124]) ++ itL k num).getD i 0) (([33] ++ itL k num ++ [124]) ++ itL k num).length 0 0 0 = true := by decide +kernel
section EV
variable {T : Nat → Nat} {it : Nat → Nat → Nat → Bool} {len k v x : Nat} {P I : Nat → Nat → Bool} {N : Nat → Bool}
theorem ev_3 (n : Nat) (hk : k < len) (h : T k = 116 ∨ T k = 97) (hx : 10 * (T (k + 1) - 48) + (T (k + 2) - 48) = x) : ev T it len (n + 1) k v P I N = ev T it len n (k + 3) v P (up2 I v (fun w => I v w && (it (T k) x w != N v))) (up1 N v false) := by
  rw [ev, if_neg (by omega), if_neg (by omega), if_neg (by omega), if_neg (by omega), if_neg (by omega), if_neg (by omega), if_neg (by omega), hx]
theorem ev_2 (n : Nat) (hk : k < len) (h : T k = 114) (hx : T (k + 1) - 48 = x) : ev T it len (n + 1) k v P I N = ev T it len n (k + 2) v P (up2 I v (fun w => I v w && (it 114 x w != N v))) (up1 N v false) := by
  rw [ev, if_neg (by omega), if_neg (by omega), if_neg (by omega), if_neg (by omega), if_neg (by omega), if_neg (by omega), if_pos h, hx]
theorem ev_33 (n : Nat) (hk : k < len) (h : T k = 33) : ev T it len (n + 1) k v P I N = ev T it len n (k + 1) v P I (up1 N v (!N v)) := by
  rw [ev, if_neg (by omega), if_pos h]
theorem ev_124 (n : Nat) (hk : k < len) (h : T k = 124) : ev T it len (n + 1) k v P I N = ev T it len n (k + 1) v (up2 P v (fun w => P v w || I v w)) (up2 I v (fun _ => true)) N := by
  rw [ev, if_neg (by omega), if_neg (by omega), if_neg (by omega), if_neg (by omega), if_pos h]
theorem ev_e (n : Nat) (hk : len ≤ k) : ev T it len n k v P I N = fun w => P 0 w || I 0 w := by
  cases n with
  | zero => rfl
  | succ n => rw [ev, if_pos hk]
end EV
theorem ev1 {k num : Nat} (hk : k < 3) (hn : num < lim k) : Ev (itL k num) (fun it w => it (ltr k) num w) := by
  refine ⟨(vd_all k hk num hn).1, fun T it h => ?_⟩
  rcases (show k = 0 ∨ k = 1 ∨ k = 2 by omega) with rfl | rfl | rfl
  · have t0 : T 0 = 116 := h 0 (of_decide_eq_true (by rfl))
    have t1 : T 1 = 48 + num / 10 := h 1 (of_decide_eq_true (by rfl))
    have t2 : T 2 = 48 + num % 10 := h 2 (of_decide_eq_true (by rfl))
    show ev T it 3 (3 + 1) 0 0 _ _ _ = _
    rw [ev_3 (x := num) 3 (by decide) (Or.inl t0) (by show 10 * (T 1 - 48) + (T 2 - 48) = num; omega), ev_e 3 (by decide), t0]
    funext w
    show (false || (true && (it 116 num w != false))) = it 116 num w
    cases it 116 num w <;> rfl
  · have t0 : T 0 = 97 := h 0 (of_decide_eq_true (by rfl))
    have t1 : T 1 = 48 + num / 10 := h 1 (of_decide_eq_true (by rfl))
    have t2 : T 2 = 48 + num % 10 := h 2 (of_decide_eq_true (by rfl))
    show ev T it 3 (3 + 1) 0 0 _ _ _ = _
    rw [ev_3 (x := num) 3 (by decide) (Or.inr t0) (by show 10 * (T 1 - 48) + (T 2 - 48) = num; omega), ev_e 3 (by decide), t0]
    funext w
    show (false || (true && (it 97 num w != false))) = it 97 num w
    cases it 97 num w <;> rfl
  · have t0 : T 0 = 114 := h 0 (of_decide_eq_true (by rfl))
    have t1 : T 1 = 48 + num := h 1 (of_decide_eq_true (by rfl))
    show ev T it 2 (2 + 1) 0 0 _ _ _ = _
    rw [ev_2 (x := num) 2 (by decide) t0 (by show T 1 - 48 = num; omega), ev_e 2 (by decide)]
    funext w
    show (false || (true && (it 114 num w != false))) = it 114 num w
    cases it 114 num w <;> rfl
theorem ev2 {k num : Nat} (hk : k < 3) (hn : num < lim k) : Ev ([33] ++ itL k num) (fun it w => !it (ltr k) num w) := by
  refine ⟨(vd_all k hk num hn).2.1, fun T it h => ?_⟩
  rcases (show k = 0 ∨ k = 1 ∨ k = 2 by omega) with rfl | rfl | rfl
  · have tm : T 0 = 33 := h 0 (of_decide_eq_true (by rfl))
    have t0 : T 1 = 116 := h 1 (of_decide_eq_true (by rfl))
    have t1 : T 2 = 48 + num / 10 := h 2 (of_decide_eq_true (by rfl))
    have t2 : T 3 = 48 + num % 10 := h 3 (of_decide_eq_true (by rfl))
    show ev T it 4 (4 + 1) 0 0 _ _ _ = _
    rw [ev_33 4 (by decide) tm, ev_3 (x := num) 3 (by decide) (Or.inl t0) (by show 10 * (T 2 - 48) + (T 3 - 48) = num; omega), ev_e 3 (by decide), t0]
    funext w
    show (false || (true && (it 116 num w != true))) = !it 116 num w
    cases it 116 num w <;> rfl
  · have tm : T 0 = 33 := h 0 (of_decide_eq_true (by rfl))
    have t0 : T 1 = 97 := h 1 (of_decide_eq_true (by rfl))
    have t1 : T 2 = 48 + num / 10 := h 2 (of_decide_eq_true (by rfl))
    have t2 : T 3 = 48 + num % 10 := h 3 (of_decide_eq_true (by rfl))
    show ev T it 4 (4 + 1) 0 0 _ _ _ = _
    rw [ev_33 4 (by decide) tm, ev_3 (x := num) 3 (by decide) (Or.inr t0) (by show 10 * (T 2 - 48) + (T 3 - 48) = num; omega), ev_e 3 (by decide), t0]
    funext w
    show (false || (true && (it 97 num w != true))) = !it 97 num w
    cases it 97 num w <;> rfl
  · have tm : T 0 = 33 := h 0 (of_decide_eq_true (by rfl))
    have t0 : T 1 = 114 := h 1 (of_decide_eq_true (by rfl))
    have t1 : T 2 = 48 + num := h 2 (of_decide_eq_true (by rfl))
    show ev T it 3 (3 + 1) 0 0 _ _ _ = _
    rw [ev_33 3 (by decide) tm, ev_2 (x := num) 2 (by decide) t0 (by show T 2 - 48 = num; omega), ev_e 2 (by decide)]
    funext w
    show (false || (true && (it 114 num w != true))) = !it 114 num w
    cases it 114 num w <;> rfl
theorem ev3 {k num : Nat} (hk : k < 3) (hn : num < lim k) : Ev (([33] ++ itL k num ++ [124]) ++ itL k num) (fun _ _ => true) := by
  refine ⟨(vd_all k hk num hn).2.2, fun T it h => ?_⟩
  rcases (show k = 0 ∨ k = 1 ∨ k = 2 by omega) with rfl | rfl | rfl
  · have tm : T 0 = 33 := h 0 (of_decide_eq_true (by rfl))
    have t0 : T 1 = 116 := h 1 (of_decide_eq_true (by rfl))
    have t1 : T 2 = 48 + num / 10 := h 2 (of_decide_eq_true (by rfl))
    have t2 : T 3 = 48 + num % 10 := h 3 (of_decide_eq_true (by rfl))
    have tb : T 4 = 124 := h 4 (of_decide_eq_true (by rfl))
    have t3 : T 5 = 116 := h 5 (of_decide_eq_true (by rfl))
    have t4 : T 6 = 48 + num / 10 := h 6 (of_decide_eq_true (by rfl))
    have t5 : T 7 = 48 + num % 10 := h 7 (of_decide_eq_true (by rfl))
    show ev T it 8 (8 + 1) 0 0 _ _ _ = _
    rw [ev_33 8 (by decide) tm, ev_3 (x := num) 7 (by decide) (Or.inl t0) (by show 10 * (T 2 - 48) + (T 3 - 48) = num; omega), ev_124 6 (by decide) tb, ev_3 (x := num) 5 (by decide) (Or.inl t3) (by show 10 * (T 6 - 48) + (T 7 - 48) = num; omega), ev_e 5 (by decide), t0, t3]
    funext w
    show ((false || (true && (it 116 num w != true))) || (true && (it 116 num w != false))) = true
    cases it 116 num w <;> rfl
  · have tm : T 0 = 33 := h 0 (of_decide_eq_true (by rfl))
    have t0 : T 1 = 97 := h 1 (of_decide_eq_true (by rfl))
    have t1 : T 2 = 48 + num / 10 := h 2 (of_decide_eq_true (by rfl))
    have t2 : T 3 = 48 + num % 10 := h 3 (of_decide_eq_true (by rfl))
    have tb : T 4 = 124 := h 4 (of_decide_eq_true (by rfl))
    have t3 : T 5 = 97 := h 5 (of_decide_eq_true (by rfl))
    have t4 : T 6 = 48 + num / 10 := h 6 (of_decide_eq_true (by rfl))
    have t5 : T 7 = 48 + num % 10 := h 7 (of_decide_eq_true (by rfl))
    show ev T it 8 (8 + 1) 0 0 _ _ _ = _
    rw [ev_33 8 (by decide) tm, ev_3 (x := num) 7 (by decide) (Or.inr t0) (by show 10 * (T 2 - 48) + (T 3 - 48) = num; omega), ev_124 6 (by decide) tb, ev_3 (x := num) 5 (by decide) (Or.inr t3) (by show 10 * (T 6 - 48) + (T 7 - 48) = num; omega), ev_e 5 (by decide), t0, t3]
    funext w
    show ((false || (true && (it 97 num w != true))) || (true && (it 97 num w != false))) = true
    cases it 97 num w <;> rfl
  · have tm : T 0 = 33 := h 0 (of_decide_eq_true (by rfl))
    have t0 : T 1 = 114 := h 1 (of_decide_eq_true (by rfl))
    have t1 : T 2 = 48 + num := h 2 (of_decide_eq_true (by rfl))
    have tb : T 3 = 124 := h 3 (of_decide_eq_true (by rfl))
    have t3 : T 4 = 114 := h 4 (of_decide_eq_true (by rfl))
    have t4 : T 5 = 48 + num := h 5 (of_decide_eq_true (by rfl))
    show ev T it 6 (6 + 1) 0 0 _ _ _ = _
    rw [ev_33 6 (by decide) tm, ev_2 (x := num) 5 (by decide) t0 (by show T 2 - 48 = num; omega), ev_124 4 (by decide) tb, ev_2 (x := num) 3 (by decide) t3 (by show T 5 - 48 = num; omega), ev_e 3 (by decide)]
    funext w
    show ((false || (true && (it 114 num w != true))) || (true && (it 114 num w != false))) = true
    cases it 114 num w <;> rfl
theorem itL_len {k num : Nat} : 1 ≤ (itL k num).length ∧ (itL k num).length ≤ 3 := by
  unfold itL
  repeat' split
  all_goals (simp only [List.length_cons, List.length_nil]; omega)
section TY
variable {W Cn Tn Sn Qn : Nat} {go gp g h : am_H} {L : List Nat}
theorem st_it (S : St go gp W Cn Tn Sn Qn L g h) {k num : Nat} (hk : k < 3) (hn : num < lim k) (h60 : L.length ≤ 50) : ∃ g' h', f_L_types_98 (some (69, 0)) (nI k) (nI num) 1 h = m_ri h' 1 ∧ St go gp W Cn Tn Sn Qn (L ++ itL k num) g' h' ∧ Cost h h' 0 := by
  have ps : ∀ {m : Nat}, 0 < m → m ≤ 3 → ¬ nI (L.length + m) ≤ 0 := fun {m} h1 h2 z => by
    have := (nI_leI (a := L.length + m) (b := 0) (by omega) (by omega)).mp z; omega
  rcases (show k = 0 ∨ k = 1 ∨ k = 2 by omega) with rfl | rfl | rfl
  · obtain ⟨g', h', a1, a2, a3⟩ := st_ty S _ (m := 3) (by omega) (by omega) (C := [116, 48 + num / 10, 48 + num % 10]) rfl (ch3a num hn).1 (ch3a num hn).2 (by omega)
    refine ⟨g', h', ?_, a2, a3⟩
    rw [f_L_types_98, if_neg (by decide), if_pos (by decide), if_neg (by decide), if_pos (by decide)]
    show m_bI (f_L_does (some (69, 0)) 21 _ (nI 3) 0 0 h) _ = _
    rw [a1, bI_ri, if_neg (ps (by omega) (by omega))]; rfl
  · obtain ⟨g', h', a1, a2, a3⟩ := st_ty S _ (m := 3) (by omega) (by omega) (C := [97, 48 + num / 10, 48 + num % 10]) rfl (ch3b num hn).1 (ch3b num hn).2 (by omega)
    refine ⟨g', h', ?_, a2, a3⟩
    rw [f_L_types_98, if_neg (by decide), if_pos (by decide), if_neg (by decide), if_neg (by decide)]
    show m_bI (f_L_does (some (69, 0)) 21 _ (nI 3) 0 0 h) _ = _
    rw [a1, bI_ri, if_neg (ps (by omega) (by omega))]; rfl
  · obtain ⟨g', h', a1, a2, a3⟩ := st_ty S _ (m := 2) (by omega) (by omega) (C := [114, 48 + num]) rfl (ch2 num hn).1 (ch2 num hn).2 (by omega)
    refine ⟨g', h', ?_, a2, a3⟩
    rw [f_L_types_98, if_pos (by decide), if_neg (by decide)]
    show m_bI (f_L_does (some (69, 0)) 21 _ (nI 2) 0 0 h) _ = _
    rw [a1, bI_ri, if_neg (ps (by omega) (by omega))]; rfl
theorem st_mk (S : St go gp W Cn Tn Sn Qn L g h) {k num i : Nat} (hk : k < 3) (hn : num < lim k) (h60 : L.length ≤ 40) {c : Nat} (hi : (i = 1 ∧ c = 33) ∨ (i = 5 ∧ c = 124)) : ∃ g' h', f_L_types (some (69, 0)) (nI i) (nI k) (nI num) h = m_ri h' 1 ∧ St go gp W Cn Tn Sn Qn ((L ++ [c]) ++ itL k num) g' h' ∧ Cost h h' 0 := by
  have ps : ¬ nI (L.length + 1) ≤ 0 := fun z => by
    have := (nI_leI (a := L.length + 1) (b := 0) (by omega) (by omega)).mp z; omega
  have w : ∀ {x : Int32}, mkC i = x → allP (fun j => okC (chN (Int32.toInt64 x) j)) 1 = true → (∀ i, i < 1 → chN (Int32.toInt64 x) i = [c].getD i 0) → 1 ≤ i → i < 10 → ∃ g' h', f_L_types (some (69, 0)) (nI i) (nI k) (nI num) h = m_ri h' 1 ∧ St go gp W Cn Tn Sn Qn ((L ++ [c]) ++ itL k num) g' h' ∧ Cost h h' 0 := fun {x} e q1 q2 i1 i2 => by
    obtain ⟨g1, h1, a1, a2, a3⟩ := st_ty S x (m := 1) (by omega) (by omega) (C := [c]) rfl q1 q2 (by omega)
    obtain ⟨g2, h2, b1, b2, b3⟩ := st_it a2 hk hn (by rw [List.length_append]; simp only [List.length_cons, List.length_nil]; omega)
    refine ⟨g2, h2, ?_, b2, a3.trans b3⟩
    rw [types_n (69, 0) (nI k) (nI num) i1 i2, e]
    show m_bI (f_L_does (some (69, 0)) 21 x (nI 1) 0 0 h) _ = _
    rw [a1, bI_ri, if_neg ps, b1]
  rcases hi with ⟨rfl, rfl⟩ | ⟨rfl, rfl⟩
  · exact w rfl ch1.1.1 ch1.1.2 (by omega) (by omega)
  · exact w rfl ch1.2.1 ch1.2.2 (by omega) (by omega)
end TY
