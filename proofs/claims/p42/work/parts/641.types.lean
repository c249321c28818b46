/-! ## typing an item behind marks -/
theorem nz_of_1 {h : am_H} : m_rz h 1 = m_ri h 1 := rfl
theorem pg_t98 (k num : Int32) {is : Int32} (hi : is = 0 ∨ is = 1) : PgQ (fun a h => f_L_types_98 (some a) k num is h) 1 qB := by
  have r0 : ∀ {c}, PgQ (fun (_ : Nat × Nat) h => m_ri h 0) c qB := fun {c} => (PgQ.ret (fun _ => Or.inl rfl)).le (Nat.zero_le c)
  have r1 : ∀ {c}, PgQ (fun (_ : Nat × Nat) h => m_ri h 1) c qB := fun {c} => (PgQ.ret (fun _ => Or.inr rfl)).le (Nat.zero_le c)
  have dd : ∀ x y, PgQ (fun a h => m_bI (f_L_does (some a) 21 x y 0 0 h) fun h1 v => if v ≤ 0 then m_ri h1 0 else m_ri h1 1) 1 qB := fun x y =>
    PgQ.bind (G := fun v _ h1 => if v ≤ 0 then m_ri h1 0 else m_ri h1 1) (q := fun v => v = 0 ∨ v = 1) (pg_21 x y) (fun v => PgQ.ite (fun _ => r0 (c := 0)) (fun _ => r1 (c := 0)))
  have e : (fun (a : Nat × Nat) h => f_L_types_98 (some a) k num is h) = fun a h => if k = 2 then (if is = 0 then m_ri h 0 else m_bI (f_L_does (some a) 21 ((114 : Int32) ||| (((48 : Int32) + num) <<< ((8 : Int32) &&& 31))) 2 0 0 h) fun h1 v => if v ≤ 0 then m_ri h1 0 else m_ri h1 1) else if k ≤ 2 then (if is = 0 then m_ri h 0 else if k = 0 then (m_bI (f_L_does (some a) 21 (((116 : Int32) ||| (((48 : Int32) + (num / (10 : Int32))) <<< ((8 : Int32) &&& 31))) ||| (((48 : Int32) + (num - num / (10 : Int32) * (10 : Int32))) <<< ((16 : Int32) &&& 31))) 3 0 0 h) fun h1 v => if v ≤ 0 then m_ri h1 0 else m_ri h1 1) else (m_bI (f_L_does (some a) 21 (((97 : Int32) ||| (((48 : Int32) + (num / (10 : Int32))) <<< ((8 : Int32) &&& 31))) ||| (((48 : Int32) + (num - num / (10 : Int32) * (10 : Int32))) <<< ((16 : Int32) &&& 31))) 3 0 0 h) fun h1 v => if v ≤ 0 then m_ri h1 0 else m_ri h1 1)) else m_ri h is := by
    funext a h
    unfold f_L_types_98
    rcases hi with rfl | rfl <;> rfl
  rw [e]
  refine PgQ.ite (fun _ => ?_) (fun _ => PgQ.ite (fun _ => ?_) (fun _ => ?_))
  · exact PgQ.ite (fun _ => r0) (fun _ => dd _ _)
  · exact PgQ.ite (fun _ => r0) (fun _ => PgQ.ite (fun _ => dd _ _) (fun _ => dd _ _))
  · rcases hi with rfl | rfl
    · exact r0
    · exact r1
/-- a mark's character -/
def mkC (i : Nat) : Int32 := if i = 1 then 33 else if i = 2 then 40 else if i = 3 then 41 else if i = 4 then 38 else 124
theorem types_0 (a : Nat × Nat) (k num : Int32) (h : am_H) : f_L_types (some a) 0 k num h = f_L_types_98 (some a) k num 1 h := by
  unfold f_L_types
  rw [show (5000 : Nat) = 4999 + 1 from rfl, f_L_types_6, if_pos (by decide)]
theorem types_n (a : Nat × Nat) (k num : Int32) {i : Nat} (h1 : 1 ≤ i) (h9 : i < 10) (h : am_H) : f_L_types (some a) (nI i) k num h = m_bI (f_L_does (some a) 21 (mkC i) 1 0 0 h) fun h1 v => if v ≤ 0 then f_L_types_98 (some a) k num 0 h1 else f_L_types_98 (some a) k num 1 h1 := by
  have z : ∀ (n : Nat) (is : Int32) (h : am_H), f_L_types_86 (f_L_types_6 (n + 1)) (some a) k num (nI i) is h = f_L_types_98 (some a) k num is h := fun n is h => by
    unfold f_L_types_86
    rw [show nI i / (10 : Int32) = 0 from by
      have := nI_div (m := i) (k := 10) (by omega) (by decide) (by decide)
      rw [show nI 10 = (10 : Int32) from rfl] at this
      rw [this, show i / 10 = 0 by omega]; rfl]
    show f_L_types_6 (n + 1) (some a) k num is 0 h = _
    rw [f_L_types_6, if_pos (by decide)]
  unfold f_L_types
  rw [show (5000 : Nat) = 4998 + 1 + 1 from rfl, f_L_types_6, if_neg (by rw [Int32.not_le]; exact nI_lt (a := 0) (b := i) (by omega) (by omega)), if_neg (by decide)]
  have m : nI i - nI i / (10 : Int32) * (10 : Int32) = nI i := by
    have := nI_mod (m := i) (k := 10) (by omega) (by decide) (by decide)
    rw [show nI 10 = (10 : Int32) from rfl] at this
    rw [this, show i % 10 = i by omega]
  rw [m]
  have c : i = 1 ∨ i = 2 ∨ i = 3 ∨ i = 4 ∨ i = 5 ∨ i = 6 ∨ i = 7 ∨ i = 8 ∨ i = 9 := by omega
  have w : ∀ ch, f_L_types_72 (f_L_types_6 (4998 + 1)) (some a) k num (nI i) ch 21 (some a) h = m_bI (f_L_does (some a) 21 ch 1 0 0 h) fun h1 v => if v ≤ 0 then f_L_types_98 (some a) k num 0 h1 else f_L_types_98 (some a) k num 1 h1 := fun ch => by
    unfold f_L_types_72
    simp only [z]
  simp only [w]
  rcases c with rfl | rfl | rfl | rfl | rfl | rfl | rfl | rfl | rfl <;> rfl
theorem pg_types (m : Int32) (k num : Int32) {i : Nat} (h9 : i < 10) (hm : m = nI i) : PgQ (fun a h => f_L_types (some a) m k num h) 2 qB := by
  subst hm
  by_cases h0 : i = 0
  · subst h0
    have e : (fun (a : Nat × Nat) h => f_L_types (some a) (nI 0) k num h) = fun a h => f_L_types_98 (some a) k num 1 h := funext fun a => funext fun h => types_0 a k num h
    rw [e]
    exact (pg_t98 k num (Or.inr rfl)).le (by omega)
  · have e : (fun (a : Nat × Nat) h => f_L_types (some a) (nI i) k num h) = fun a h => m_bI (f_L_does (some a) 21 (mkC i) 1 0 0 h) fun h1 v => if v ≤ 0 then f_L_types_98 (some a) k num 0 h1 else f_L_types_98 (some a) k num 1 h1 := funext fun a => funext fun h => types_n a k num (by omega) h9 h
    rw [e]
    exact PgQ.bind (G := fun v a h1 => if v ≤ 0 then f_L_types_98 (some a) k num 0 h1 else f_L_types_98 (some a) k num 1 h1) (q := fun v => v = 0 ∨ v = 1) (pg_21 _ _) (fun v => PgQ.ite (fun _ => pg_t98 k num (Or.inl rfl)) (fun _ => pg_t98 k num (Or.inr rfl)))
