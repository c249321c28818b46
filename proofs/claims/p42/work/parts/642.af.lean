/-! ## what an act of the law may be -/
theorem PgQ.low {x n : Int32} {K : Int32 → Nat × Nat → am_H → am_R} {c : Nat} {Q : am_H → am_H → Int32 → Prop} (hn : n ≠ 0) (k : PgQ (K (lowv x n)) c Q) : PgQ (fun a h => m_bI (f_L_low x n h) fun h1 v => K v a h1) c Q := by
  have e : (fun (a : Nat × Nat) h => m_bI (f_L_low x n h) fun h1 v => K v a h1) = K (lowv x n) := funext fun a => funext fun h => by
    show m_bI (f_L_low x n h) _ = _
    rw [low_eq hn, bI_ri]
  rw [e]; exact k
theorem PgQ.idr {F : Nat × Nat → am_H → am_R} {c : Nat} {Q : am_H → am_H → Int32 → Prop} (P : PgQ F c Q) : PgQ (fun a h => m_bI (F a h) fun h1 v => m_ri h1 v) c Q := by
  obtain ⟨T, dt, P⟩ := P
  refine ⟨T, dt, fun b g h O => ?_⟩
  obtain ⟨h', g', v, a1, a2⟩ := P b g h O
  refine ⟨h', g', v, ?_, a2⟩
  show m_bI (F (rhoS b (69, 0)) h) _ = _
  rw [a1, bI_ri]
theorem pg_item (x : Int32) : PgQ (fun a h => f_L_item (some a) x h) 2 qB := by
  have k68 : ∀ (n y m k : Int32) (i : Nat), n ≠ 0 → i < 10 → m = nI i → PgQ (fun a h => f_L_item_68 n y k m (some a) h) 2 qB := fun n y m k i hn hi hm => by
    unfold f_L_item_68
    refine PgQ.low (K := fun v a h1 => m_bI (f_L_types (some a) m k v h1) fun h7 v8 => if v8 = 0 then f_L_item_82 0 h7 else f_L_item_82 1 h7) hn ?_
    exact PgQ.bind (c := 2) (d := 0) (G := fun v8 _ h7 => if v8 = 0 then f_L_item_82 0 h7 else f_L_item_82 1 h7) (q := fun v => v = 0 ∨ v = 1) (pg_types m k _ hi hm) (fun v => PgQ.ite (fun _ => PgQ.ret (fun _ => Or.inl rfl)) (fun _ => PgQ.ret (fun _ => Or.inr rfl)))
  have k44 : ∀ (x2 m k : Int32) (i : Nat), i < 10 → m = nI i → PgQ (fun a h => f_L_item_44 x x2 k m (some a) h) 2 qB := fun x2 m k i hi hm => by
    unfold f_L_item_44
    exact PgQ.ite (fun _ => PgQ.ite (fun _ => k68 _ _ _ _ i (by decide) hi hm) (fun _ => k68 _ _ _ _ i (by decide) hi hm)) (fun _ => k68 _ _ _ _ i (by decide) hi hm)
  have k22 : ∀ (x2 m : Int32) (i : Nat), i < 10 → m = nI i → PgQ (fun a h => f_L_item_22 (some a) x x2 m h) 2 qB := fun x2 m i hi hm => by
    unfold f_L_item_22
    exact PgQ.ite (fun _ => PgQ.ite (fun _ => k44 _ _ _ i hi hm) (fun _ => k44 _ _ _ i hi hm)) (fun _ => k44 _ _ _ i hi hm)
  unfold f_L_item
  refine PgQ.low (K := fun v2 a h1 => m_bI (f_L_low (x >>> ((5 : Int32) &&& 31)) (4 : Int32) h1) fun h3 v4 => if v4 = 0 then (f_L_item_22 (some a) x v2 (1 : Int32) h3) else (f_L_item_22 (some a) x v2 (0 : Int32) h3)) (by decide) ?_
  refine PgQ.low (K := fun v4 a h3 => if v4 = 0 then (f_L_item_22 (some a) x (lowv x 6) (1 : Int32) h3) else (f_L_item_22 (some a) x (lowv x 6) (0 : Int32) h3)) (by decide) ?_
  exact PgQ.ite (fun _ => k22 _ _ 1 (by decide) rfl) (fun _ => k22 _ _ 0 (by decide) rfl)
theorem c_wipe {g : am_H} (H : ShC g) : f_X10_wipe (69, 0) g = m_ri (m_si g 22 0 1 0) (m_gi g 22 0 1) := by
  rw [f_X10_wipe, gR_69, pc_tape H, gI_22, gR_69, pc_tape H, pI_22]
theorem pg_wipe : PgQ (fun a h => f_X10_wipe a h) 1 qT := by
  refine ⟨TrN (f_X11_wipe (70, 0)), fun _ _ _ _ _ _ A t t' => TrN.det lo_wipe A t t', fun b g h O => ?_⟩
  obtain ⟨h', g', g1, v, a1, a2, a3, a4, a5⟩ := do_wipe O
  refine ⟨h', g', v, a1, PostC.of a3, a4, fun z => ?_⟩
  obtain ⟨W, Cn, Tn, Sn, Qn, R⟩ := O.2.2.2
  obtain ⟨n, hn, t1, -⟩ := R.rTp
  rw [c_wipe R.H, t1] at a2
  cases a2
  exact absurd z (nI_ne21 (by omega))
def AF (F : Nat × Nat → am_H → am_R) : Prop := PgQ F 20 qT ∨ ∃ c x y z u, (c = 3 ∨ c = 9 ∨ c = 24 ∨ c = 27) ∧ F = fun a h => m_bI (f_L_does (some a) c x y z u h) fun h1 v => m_ri h1 v
theorem AF.ite {F F' : Nat × Nat → am_H → am_R} {p : Prop} [Decidable p] (A : p → AF F) (B : ¬ p → AF F') : AF (fun a h => if p then F a h else F' a h) := by
  by_cases z : p
  · simp only [if_pos z]; exact A z
  · simp only [if_neg z]; exact B z
theorem AF.low {x n : Int32} {K : Int32 → Nat × Nat → am_H → am_R} (hn : n ≠ 0) (k : AF (K (lowv x n))) : AF (fun a h => m_bI (f_L_low x n h) fun h1 v => K v a h1) := by
  have e : (fun (a : Nat × Nat) h => m_bI (f_L_low x n h) fun h1 v => K v a h1) = K (lowv x n) := funext fun a => funext fun h => by
    show m_bI (f_L_low x n h) _ = _
    rw [low_eq hn, bI_ri]
  rw [e]; exact k
theorem AF.types {m : Int32} {k num : Int32} (hm : ∃ i, i < 10 ∧ m = nI i) : AF (fun a h => m_bI (f_L_types (some a) m k num h) fun h1 v => if v = 0 then m_ri h1 0 else m_ri h1 1) := by
  obtain ⟨i, hi, hm⟩ := hm
  left
  have := PgQ.bind (d := 0) (G := fun v _ h1 => if v = 0 then m_ri h1 0 else m_ri h1 1) (q := fun v => v = 0 ∨ v = 1) (pg_types m k num hi hm) (fun v => PgQ.ite (fun _ => PgQ.ret (fun _ => Or.inl rfl)) (fun _ => PgQ.ret (fun _ => Or.inr rfl)))
  exact (this.imp (fun g g' v q z => by rcases q with q | q <;> rw [q] at z <;> exact absurd z (by decide))).le (by omega)
theorem AF.item {x : Int32} : AF (fun a h => m_bI (f_L_item (some a) x h) fun h1 v => m_ri h1 v) :=
  Or.inl (((pg_item x).idr.imp (fun g g' v q z => by rcases q with q | q <;> rw [q] at z <;> exact absurd z (by decide))).le (by omega))
theorem AF.wipe : AF (fun a h => m_ao (some a) 10 fun a1 => m_bI (f_X10_wipe a1 h) fun h1 v => m_ri h1 v) := by
  left
  obtain ⟨T, dt, P⟩ := pg_wipe.idr
  refine ⟨T, dt, fun b g h O => ?_⟩
  obtain ⟨h', g', v, a1, a2, a3⟩ := P b g h O
  refine ⟨h', g', v, ?_, a2.le (by omega), a3⟩
  show m_ao (some (rhoS b (69, 0))) 10 _ = _
  rw [ao_a (isO_rhoS b)]; exact a1
def Cd (c : Int32) : Prop := c ∈ [0, 1, 2, 3, 4, 5, 6, 7, 8, 9, 10, 13, 14, 15, 16, 18, 19, 21, 24, 26, 27, 28, 30, 32, 34]
theorem AF.does {c x y z u : Int32} (hc : Cd c) : AF (fun a h => m_bI (f_L_does (some a) c x y z u h) fun h1 v => m_ri h1 v) := by
  simp only [Cd, List.mem_cons, List.not_mem_nil, or_false] at hc
  have w : ∀ {c : Int32} {d mf val}, Loc mf → (∀ {b g h}, Ob b g h → DoP b d g h (f_L_does (some (rhoS b (69, 0))) c x y z u h) mf val) → AF (fun a h => m_bI (f_L_does (some a) c x y z u h) fun h1 v => m_ri h1 v) := fun L D => Or.inl ((PgQ.of_do (F := fun a h => f_L_does (some a) _ x y z u h) L D).idr.le (by omega))
  rcases hc with rfl | rfl | rfl | rfl | rfl | rfl | rfl | rfl | rfl | rfl | rfl | rfl | rfl | rfl | rfl | rfl | rfl | rfl | rfl | rfl | rfl | rfl | rfl | rfl | rfl
  · exact w (lo_0 x y z u) (fun O => do_0 O x y z u)
  · exact w (lo_1 x y z u) (fun O => do_1 O x y z u)
  · exact w (lo_2 x y z u) (fun O => do_2 O x y z u)
  · exact Or.inr ⟨3, x, y, z, u, Or.inl rfl, rfl⟩
  · exact w (lo_4 x y z u) (fun O => do_4 O x y z u)
  · exact w (lo_5 x y z u) (fun O => do_5 O x y z u)
  · exact w (lo_6 x y z u) (fun O => do_6 O x y z u)
  · exact w (lo_7 x y z u) (fun O => do_7 O x y z u)
  · exact w (lo_8 x y z u) (fun O => do_8 O x y z u)
  · exact Or.inr ⟨9, x, y, z, u, Or.inr (Or.inl rfl), rfl⟩
  · exact w (lo_10 x y z u) (fun O => do_10 O x y z u)
  · exact w (lo_13 x y z u) (fun O => do_13 O x y z u)
  · exact w (lo_14 x y z u) (fun O => do_14 O x y z u)
  · exact w (lo_15 x y z u) (fun O => do_15 O x y z u)
  · exact w (lo_16 x y z u) (fun O => do_16 O x y z u)
  · exact w (lo_18 x y z u) (fun O => do_18 O x y z u)
  · exact w (lo_19 x y z u) (fun O => do_19 O x y z u)
  · exact w (lo_21 x y z u) (fun O => do_21 O x y z u)
  · exact Or.inr ⟨24, x, y, z, u, Or.inr (Or.inr (Or.inl rfl)), rfl⟩
  · exact w (lo_26 x y z u) (fun O => do_26 O x y z u)
  · exact Or.inr ⟨27, x, y, z, u, Or.inr (Or.inr (Or.inr rfl)), rfl⟩
  · exact w (lo_28 x y z u) (fun O => do_28 O x y z u)
  · exact w (lo_30 x y z u) (fun O => do_30 O x y z u)
  · exact w (lo_32 x y z u) (fun O => do_32 O x y z u)
  · exact w (lo_34 x y z u) (fun O => do_34 O x y z u)
theorem mk_4 (x : Int32) : ∃ i, i < 10 ∧ (4 : Int32) + (x &&& 1) = nI i := by
  have h : x &&& 1 = 0 ∨ x &&& 1 = 1 := by
    have e : x &&& 1 = if bt x 0 then 1 else 0 := by
      apply b_ext
      intro i hi
      rw [b_and, bt_1]
      by_cases z : i = 0
      · subst z; cases bt x 0 <;> simp [b_0, bt_1]
      · cases bt x 0 <;> simp [b_0, bt_1, z]
    rw [e]; cases bt x 0
    · exact Or.inl rfl
    · exact Or.inr rfl
  rcases h with h | h <;> rw [h]
  · exact ⟨4, by decide, rfl⟩
  · exact ⟨5, by decide, rfl⟩
theorem mk_1 (x : Int32) : ∃ i, i < 10 ∧ (1 : Int32) + lowv x 3 = nI i := by
  obtain ⟨i, hi, e⟩ := low_lt x (k := 3) (by decide) (by decide)
  rw [show nI 3 = (3 : Int32) from rfl] at e
  rw [e]
  have : i = 0 ∨ i = 1 ∨ i = 2 := by omega
  rcases this with rfl | rfl | rfl
  · exact ⟨1, by decide, rfl⟩
  · exact ⟨2, by decide, rfl⟩
  · exact ⟨3, by decide, rfl⟩
