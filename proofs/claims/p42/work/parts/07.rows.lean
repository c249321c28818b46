section SimRows2
variable {M : am_M} {d pc : Nat} {lv : List (Option am_V)} {st : List am_V} {h : am_H} {r : am_R}
/-- a step that writes a local -/
theorem sim_put {pc' i : Nat} {v : am_V} {st' : List am_V}
    (hc : am_cls h st → (∀ (j : Nat) (w : am_V), lv[j]? = some (some w) → am_clo h w) → am_cls h st' ∧ am_clo h v)
    (go : ∀ (l : Launch) (p : Program) (e : Env) (R : Room) (s : State) (m : MethodId) (args : Array Value) (below : List Frame) (meth : Method) (c : Code) (Q : State → Prop) (μ : Nat × Nat → Nat) (H : Heap) (locs : List Loc) (cells slots : Nat) (ls : Array Slot),
      p.tables.exec = Jvm.exec → c.code = M.2.1 → am_Ls M.2.2.1 μ h lv ls →
      (∀ ls' : Array Slot, lv_has ls' M.2.2.1 ((i, am_v μ v) :: (am_pr μ 0 lv).filter (fun q => !(q.1 == i) && !(q.1 + 1 == i && q.2.category == 2))) → W p l e R s m args below meth c H locs cells slots Q (F0 m pc' ls' (st'.map (am_v μ)))) →
      W p l e R s m args below meth c H locs cells slots Q (F0 m pc ls (st.map (am_v μ))))
    (k : Sim M d pc' (am_set lv i v) st' h r) : Sim M d pc lv st h r := by
  intro h' o e
  obtain ⟨q1, q2⟩ := k h' o e
  refine ⟨q1, fun l D dA base b n xs p e R s m args below meth c mc ms Qc XC C μ H locs cells slots ls a1 a2 a3 a4 a5 a6 a7 => ?_⟩
  obtain ⟨c1, c2⟩ := hc a4 a3.2
  exact go l p e R s m args below meth c _ μ H locs cells slots ls C.1 C.2.1 a3 (fun ls' hl => q2 l D dA base b n xs p e R s m args below meth c mc ms Qc XC C μ H locs cells slots ls' a1 a2 (a3.put c2 hl) c1 a5 a6 a7)
theorem sim_istore_n {i : Fin 4} {x : Int32} (d0 : decode M.2.1 pc = .ok (.istore_n i, 1)) (hn : (i : Nat) < M.2.2.1) (k : Sim M d (pc + 1) (am_set lv (i : Nat) (.inl x)) st h r) : Sim M d pc lv (.inl x :: st) h r :=
  sim_put (fun c _ => ⟨c.tail, am_clo_i⟩) (fun _ _ _ _ _ _ _ _ _ _ _ _ _ _ _ _ _ hx hb a kk => lv_istore_n hx hb d0 rfl a.1 hn rfl kk) k
theorem sim_istore {i : Nat} {x : Int32} (d0 : decode M.2.1 pc = .ok (.istore i, 2)) (hn : i < M.2.2.1) (k : Sim M d (pc + 2) (am_set lv i (.inl x)) st h r) : Sim M d pc lv (.inl x :: st) h r :=
  sim_put (fun c _ => ⟨c.tail, am_clo_i⟩) (fun _ _ _ _ _ _ _ _ _ _ _ _ _ _ _ _ _ hx hb a kk => lv_istore hx hb d0 a.1 hn rfl kk) k
theorem sim_astore_n {i : Fin 4} {o : Option (Nat × Nat)} (d0 : decode M.2.1 pc = .ok (.astore_n i, 1)) (hn : (i : Nat) < M.2.2.1) (k : Sim M d (pc + 1) (am_set lv (i : Nat) (.inr (.inr o))) st h r) : Sim M d pc lv (.inr (.inr o) :: st) h r :=
  sim_put (fun c _ => ⟨c.tail, c.head⟩) (fun _ _ _ _ _ _ _ _ _ _ _ _ _ _ _ _ _ hx hb a kk => by
    cases o with
    | none => exact lv_astore_nN hx hb d0 rfl a.1 hn rfl kk
    | some q => exact lv_astore_n hx hb d0 rfl a.1 hn rfl kk) k
theorem sim_astore {i : Nat} {o : Option (Nat × Nat)} (d0 : decode M.2.1 pc = .ok (.astore i, 2)) (hn : i < M.2.2.1) (k : Sim M d (pc + 2) (am_set lv i (.inr (.inr o))) st h r) : Sim M d pc lv (.inr (.inr o) :: st) h r :=
  sim_put (fun c _ => ⟨c.tail, c.head⟩) (fun _ _ _ _ _ _ _ _ _ _ _ _ _ _ _ _ _ hx hb a kk => by
    cases o with
    | none => exact lv_astoreN hx hb d0 a.1 hn rfl kk
    | some q => exact lv_astore hx hb d0 a.1 hn rfl kk) k
theorem sim_iinc {i : Nat} {n : Int} {x : Int32} (z : Int32) (d0 : decode M.2.1 pc = .ok (.iinc i n, 3)) (hl : lv[i]? = some (some (.inl x))) (hz : Int32.ofInt n = z) (hn : i < M.2.2.1) (k : Sim M d (pc + 3) (am_set lv i (.inl (x + z))) st h r) : Sim M d pc lv st h r :=
  sim_put (fun c _ => ⟨c, am_clo_i⟩) (fun _ _ _ _ _ _ _ _ _ _ _ _ _ _ _ _ _ hx hb a kk => by
    obtain ⟨k9, hk9⟩ := List.getElem?_of_mem (am_pr_mem (μ := _) (l := lv) (k := 0) (j := i) (w := .int x) |>.mpr ⟨i, .inl x, by omega, hl, rfl⟩)
    exact lv_iinc hx hb d0 a.1 hk9 (by rw [hz]) hn rfl kk) k
/-! branches -/
theorem sim_br {P : Prop} {tgt ftg : Nat} {st' : List am_V} (hc : am_cls h st → am_cls h st')
    (go : ∀ (l : Launch) (p : Program) (e : Env) (R : Room) (s : State) (m : MethodId) (args : Array Value) (below : List Frame) (meth : Method) (c : Code) (Q : State → Prop) (μ : Nat × Nat → Nat) (H : Heap) (locs : List Loc) (cells slots : Nat) (ls : Array Slot),
      p.tables.exec = Jvm.exec → c.code = M.2.1 →
      (P → W p l e R s m args below meth c H locs cells slots Q (F0 m tgt ls (st'.map (am_v μ)))) → (¬ P → W p l e R s m args below meth c H locs cells slots Q (F0 m ftg ls (st'.map (am_v μ)))) →
      W p l e R s m args below meth c H locs cells slots Q (F0 m pc ls (st.map (am_v μ))))
    (kt : P → Sim M d tgt lv st' h r) (kf : ¬ P → Sim M d ftg lv st' h r) : Sim M d pc lv st h r := by
  intro h' o e
  refine ⟨?_, fun l D dA base b n xs p e9 R s m args below meth c mc ms Qc XC C μ H locs cells slots ls a1 a2 a3 a4 a5 a6 a7 => ?_⟩
  · rcases Classical.em P with q | q
    · exact (kt q h' o e).1
    · exact (kf q h' o e).1
  · exact go l p e9 R s m args below meth c _ μ H locs cells slots ls C.1 C.2.1
      (fun q => (kt q h' o e).2 l D dA base b n xs p e9 R s m args below meth c mc ms Qc XC C μ H locs cells slots ls a1 a2 a3 (hc a4) a5 a6 a7)
      (fun q => (kf q h' o e).2 l D dA base b n xs p e9 R s m args below meth c mc ms Qc XC C μ H locs cells slots ls a1 a2 a3 (hc a4) a5 a6 a7)
theorem sim_ite {P : Prop} [Decidable P] {r1 r2 : am_R} {tgt ftg : Nat} {st' : List am_V} (kk : (P → Sim M d tgt lv st' h (if P then r1 else r2)) → (¬ P → Sim M d ftg lv st' h (if P then r1 else r2)) → Sim M d pc lv st h (if P then r1 else r2))
    (kt : P → Sim M d tgt lv st' h r1) (kf : ¬ P → Sim M d ftg lv st' h r2) : Sim M d pc lv st h (if P then r1 else r2) :=
  kk (fun q => by rw [if_pos q]; exact kt q) (fun q => by rw [if_neg q]; exact kf q)
theorem sim_if_eq {x : Int32} {off : Int} (tgt : Nat) {r1 r2 : am_R} (d0 : decode M.2.1 pc = .ok (.ifCond .eq off, 3)) (ht : (pc : Int) + off = (tgt : Int)) (kt : x = 0 → Sim M d tgt lv st h r1) (kf : ¬ x = 0 → Sim M d (pc + 3) lv st h r2) : Sim M d pc lv (.inl x :: st) h (if x = 0 then r1 else r2) :=
  sim_ite (sim_br (fun c => c.tail) (fun _ _ _ _ _ _ _ _ _ _ _ _ _ _ _ _ _ hx hb kt kf => lv_if_eq hx hb d0 ht kt kf)) kt kf
theorem sim_if_ne {x : Int32} {off : Int} (tgt : Nat) {r1 r2 : am_R} (d0 : decode M.2.1 pc = .ok (.ifCond .ne off, 3)) (ht : (pc : Int) + off = (tgt : Int)) (kt : ¬ x = 0 → Sim M d tgt lv st h r2) (kf : x = 0 → Sim M d (pc + 3) lv st h r1) : Sim M d pc lv (.inl x :: st) h (if x = 0 then r1 else r2) :=
  sim_br (P := ¬ x = 0) (fun c => c.tail) (fun _ _ _ _ _ _ _ _ _ _ _ _ _ _ _ _ _ hx hb kt kf => lv_if_ne hx hb d0 ht kt (fun z => kf (fun y => y z))) (fun q => by rw [if_neg q]; exact kt q) (fun q => by rw [if_pos (Classical.not_not.mp q)]; exact kf (Classical.not_not.mp q))
theorem sim_if_lt {x : Int32} {off : Int} (tgt : Nat) {r1 r2 : am_R} (d0 : decode M.2.1 pc = .ok (.ifCond .lt off, 3)) (ht : (pc : Int) + off = (tgt : Int)) (kt : x < 0 → Sim M d tgt lv st h r1) (kf : ¬ x < 0 → Sim M d (pc + 3) lv st h r2) : Sim M d pc lv (.inl x :: st) h (if x < 0 then r1 else r2) :=
  sim_ite (sim_br (fun c => c.tail) (fun _ _ _ _ _ _ _ _ _ _ _ _ _ _ _ _ _ hx hb kt kf => lv_if_lt hx hb d0 ht kt kf)) kt kf
theorem sim_if_ge {x : Int32} {off : Int} (tgt : Nat) {r1 r2 : am_R} (d0 : decode M.2.1 pc = .ok (.ifCond .ge off, 3)) (ht : (pc : Int) + off = (tgt : Int)) (kt : 0 ≤ x → Sim M d tgt lv st h r1) (kf : ¬ 0 ≤ x → Sim M d (pc + 3) lv st h r2) : Sim M d pc lv (.inl x :: st) h (if 0 ≤ x then r1 else r2) :=
  sim_ite (sim_br (fun c => c.tail) (fun _ _ _ _ _ _ _ _ _ _ _ _ _ _ _ _ _ hx hb kt kf => lv_if_ge hx hb d0 ht kt kf)) kt kf
theorem sim_if_gt {x : Int32} {off : Int} (tgt : Nat) {r1 r2 : am_R} (d0 : decode M.2.1 pc = .ok (.ifCond .gt off, 3)) (ht : (pc : Int) + off = (tgt : Int)) (kt : 0 < x → Sim M d tgt lv st h r1) (kf : ¬ 0 < x → Sim M d (pc + 3) lv st h r2) : Sim M d pc lv (.inl x :: st) h (if 0 < x then r1 else r2) :=
  sim_ite (sim_br (fun c => c.tail) (fun _ _ _ _ _ _ _ _ _ _ _ _ _ _ _ _ _ hx hb kt kf => lv_if_gt hx hb d0 ht kt kf)) kt kf
theorem sim_if_le {x : Int32} {off : Int} (tgt : Nat) {r1 r2 : am_R} (d0 : decode M.2.1 pc = .ok (.ifCond .le off, 3)) (ht : (pc : Int) + off = (tgt : Int)) (kt : x ≤ 0 → Sim M d tgt lv st h r1) (kf : ¬ x ≤ 0 → Sim M d (pc + 3) lv st h r2) : Sim M d pc lv (.inl x :: st) h (if x ≤ 0 then r1 else r2) :=
  sim_ite (sim_br (fun c => c.tail) (fun _ _ _ _ _ _ _ _ _ _ _ _ _ _ _ _ _ hx hb kt kf => lv_if_le hx hb d0 ht kt kf)) kt kf
theorem sim_ic_eq {x y : Int32} {off : Int} (tgt : Nat) {r1 r2 : am_R} (d0 : decode M.2.1 pc = .ok (.if_icmp .eq off, 3)) (ht : (pc : Int) + off = (tgt : Int)) (kt : x = y → Sim M d tgt lv st h r1) (kf : ¬ x = y → Sim M d (pc + 3) lv st h r2) : Sim M d pc lv (.inl y :: .inl x :: st) h (if x = y then r1 else r2) :=
  sim_ite (sim_br (fun c => c.tail.tail) (fun _ _ _ _ _ _ _ _ _ _ _ _ _ _ _ _ _ hx hb kt kf => lv_icmp_eq hx hb d0 ht kt kf)) kt kf
theorem sim_ic_ne {x y : Int32} {off : Int} (tgt : Nat) {r1 r2 : am_R} (d0 : decode M.2.1 pc = .ok (.if_icmp .ne off, 3)) (ht : (pc : Int) + off = (tgt : Int)) (kt : ¬ x = y → Sim M d tgt lv st h r2) (kf : x = y → Sim M d (pc + 3) lv st h r1) : Sim M d pc lv (.inl y :: .inl x :: st) h (if x = y then r1 else r2) :=
  sim_br (P := ¬ x = y) (fun c => c.tail.tail) (fun _ _ _ _ _ _ _ _ _ _ _ _ _ _ _ _ _ hx hb kt kf => lv_icmp_ne hx hb d0 ht kt (fun z => kf (fun y => y z))) (fun q => by rw [if_neg q]; exact kt q) (fun q => by rw [if_pos (Classical.not_not.mp q)]; exact kf (Classical.not_not.mp q))
theorem sim_ic_lt {x y : Int32} {off : Int} (tgt : Nat) {r1 r2 : am_R} (d0 : decode M.2.1 pc = .ok (.if_icmp .lt off, 3)) (ht : (pc : Int) + off = (tgt : Int)) (kt : x < y → Sim M d tgt lv st h r1) (kf : ¬ x < y → Sim M d (pc + 3) lv st h r2) : Sim M d pc lv (.inl y :: .inl x :: st) h (if x < y then r1 else r2) :=
  sim_ite (sim_br (fun c => c.tail.tail) (fun _ _ _ _ _ _ _ _ _ _ _ _ _ _ _ _ _ hx hb kt kf => lv_icmp_lt hx hb d0 ht kt kf)) kt kf
theorem sim_ic_ge {x y : Int32} {off : Int} (tgt : Nat) {r1 r2 : am_R} (d0 : decode M.2.1 pc = .ok (.if_icmp .ge off, 3)) (ht : (pc : Int) + off = (tgt : Int)) (kt : y ≤ x → Sim M d tgt lv st h r1) (kf : ¬ y ≤ x → Sim M d (pc + 3) lv st h r2) : Sim M d pc lv (.inl y :: .inl x :: st) h (if y ≤ x then r1 else r2) :=
  sim_ite (sim_br (fun c => c.tail.tail) (fun _ _ _ _ _ _ _ _ _ _ _ _ _ _ _ _ _ hx hb kt kf => lv_icmp_ge hx hb d0 ht kt kf)) kt kf
theorem sim_ic_gt {x y : Int32} {off : Int} (tgt : Nat) {r1 r2 : am_R} (d0 : decode M.2.1 pc = .ok (.if_icmp .gt off, 3)) (ht : (pc : Int) + off = (tgt : Int)) (kt : y < x → Sim M d tgt lv st h r1) (kf : ¬ y < x → Sim M d (pc + 3) lv st h r2) : Sim M d pc lv (.inl y :: .inl x :: st) h (if y < x then r1 else r2) :=
  sim_ite (sim_br (fun c => c.tail.tail) (fun _ _ _ _ _ _ _ _ _ _ _ _ _ _ _ _ _ hx hb kt kf => lv_icmp_gt hx hb d0 ht kt kf)) kt kf
theorem sim_ic_le {x y : Int32} {off : Int} (tgt : Nat) {r1 r2 : am_R} (d0 : decode M.2.1 pc = .ok (.if_icmp .le off, 3)) (ht : (pc : Int) + off = (tgt : Int)) (kt : x ≤ y → Sim M d tgt lv st h r1) (kf : ¬ x ≤ y → Sim M d (pc + 3) lv st h r2) : Sim M d pc lv (.inl y :: .inl x :: st) h (if x ≤ y then r1 else r2) :=
  sim_ite (sim_br (fun c => c.tail.tail) (fun _ _ _ _ _ _ _ _ _ _ _ _ _ _ _ _ _ hx hb kt kf => lv_icmp_le hx hb d0 ht kt kf)) kt kf
theorem sim_ifnull {o : Option (Nat × Nat)} {off : Int} (tgt : Nat) {r1 r2 : am_R} (d0 : decode M.2.1 pc = .ok (.ifnull off, 3)) (ht : (pc : Int) + off = (tgt : Int)) (kt : o = none → Sim M d tgt lv st h r1) (kf : ¬ o = none → Sim M d (pc + 3) lv st h r2) : Sim M d pc lv (.inr (.inr o) :: st) h (if o = none then r1 else r2) :=
  sim_ite (sim_br (fun c => c.tail) (fun _ _ _ _ _ _ _ _ _ _ _ _ _ _ _ _ _ hx hb kt kf => by
    cases o with
    | none => exact lv_ifnullN hx hb d0 ht (kt rfl)
    | some q => exact lv_ifnull hx hb d0 (kf (fun z => by cases z)))) kt kf
theorem sim_ifnonnull {o : Option (Nat × Nat)} {off : Int} (tgt : Nat) {r1 r2 : am_R} (d0 : decode M.2.1 pc = .ok (.ifnonnull off, 3)) (ht : (pc : Int) + off = (tgt : Int)) (kt : ¬ o = none → Sim M d tgt lv st h r2) (kf : o = none → Sim M d (pc + 3) lv st h r1) : Sim M d pc lv (.inr (.inr o) :: st) h (if o = none then r1 else r2) :=
  sim_br (P := ¬ o = none) (fun c => c.tail) (fun _ _ _ _ _ _ _ _ _ _ _ _ _ _ _ _ _ hx hb kt kf => by
    cases o with
    | none => exact lv_ifnonnullN hx hb d0 (kf (fun z => z rfl))
    | some q => exact lv_ifnonnull hx hb d0 ht (kt (fun z => by cases z))) (fun q => by rw [if_neg q]; exact kt q) (fun q => by rw [if_pos (Classical.not_not.mp q)]; exact kf (Classical.not_not.mp q))
theorem sim_tableIn {x : Int32} (v : Int32) {dflt lo hi off : Int} {offs : Array Int} {len : Nat} (tgt : Nat) (hv : x = v) (d0 : decode M.2.1 pc = .ok (.tableswitch dflt lo hi offs, len)) (h1 : ¬ v.toInt < lo) (h2 : ¬ hi < v.toInt) (ho : offs[(v.toInt - lo).toNat]? = some off) (ht : (pc : Int) + off = (tgt : Int)) (k : Sim M d tgt lv st h r) : Sim M d pc lv (.inl x :: st) h r := by
  subst hv
  exact sim_go (fun c _ => c.tail) (fun _ _ _ _ _ _ _ _ _ _ _ _ _ _ _ _ _ hx hb _ _ _ k => lv_tableIn hx hb d0 h1 h2 ho ht k) k
theorem sim_tableOut {x : Int32} {dflt lo hi : Int} {offs : Array Int} {len : Nat} (tgt : Nat) (d0 : decode M.2.1 pc = .ok (.tableswitch dflt lo hi offs, len)) (h1 : x.toInt < lo ∨ hi < x.toInt) (ht : (pc : Int) + dflt = (tgt : Int)) (k : Sim M d tgt lv st h r) : Sim M d pc lv (.inl x :: st) h r :=
  sim_go (fun c _ => c.tail) (fun _ _ _ _ _ _ _ _ _ _ _ _ _ _ _ _ _ hx hb _ _ _ k => lv_tableOut hx hb d0 h1 ht k) k
theorem am_out {x : Int32} {N : Nat} (hN : N < 1000) (h : ∀ i, i < N → ¬ x = nI i) : x.toInt < 0 ∨ ((N : Int) - 1) < x.toInt := by
  rcases Int.lt_or_le x.toInt 0 with q | q
  · exact Or.inl q
  · right
    rcases Int.lt_or_le ((N : Int) - 1) x.toInt with q2 | q2
    · exact q2
    · exfalso
      refine h x.toInt.toNat (by omega) ?_
      apply Int32.toInt_inj.mp
      rw [nI_toInt (by omega)]
      omega
theorem sim_lookup {x : Int32} {dflt off : Int} {ps : Array (Int × Int)} {len : Nat} (tgt : Nat) (d0 : decode M.2.1 pc = .ok (.lookupswitch dflt ps, len)) (hp : (ps.toList.zip (ps.toList.drop 1)).all (fun (a, next) => a.1 < next.1) = true) (ho : Op.lookupswitch.offset ps.toList dflt x.toInt = off) (ht : (pc : Int) + off = (tgt : Int)) (k : Sim M d tgt lv st h r) : Sim M d pc lv (.inl x :: st) h r :=
  sim_go (fun c _ => c.tail) (fun _ _ _ _ _ _ _ _ _ _ _ _ _ _ _ _ _ hx hb _ _ _ k => lv_lookup hx hb d0 hp ho ht k) k
theorem sim_case {P : Prop} [Decidable P] {r1 r2 : am_R} (kt : P → Sim M d pc lv st h r1) (kf : ¬ P → Sim M d pc lv st h r2) : Sim M d pc lv st h (if P then r1 else r2) := by
  by_cases q : P
  · rw [if_pos q]; exact kt q
  · rw [if_neg q]; exact kf q
/-! guards -/
theorem sim_ck {b : Bool} (k : b = true → Sim M d pc lv st h r) : Sim M d pc lv st h (m_ck b r) := by
  cases b with
  | false => exact sim_none
  | true => exact k rfl
theorem sim_as0 {o : Option (Nat × Nat)} {K : Nat × Nat → am_R} (k : ∀ a, Sim M d pc lv (.inr (.inr (some a)) :: st) h (K a)) : Sim M d pc lv (.inr (.inr o) :: st) h (m_as o K) := by
  cases o with
  | none => exact sim_none
  | some a => exact k a
theorem sim_as1 {o : Option (Nat × Nat)} {v1 : am_V} {K : Nat × Nat → am_R} (k : ∀ a, Sim M d pc lv (v1 :: .inr (.inr (some a)) :: st) h (K a)) : Sim M d pc lv (v1 :: .inr (.inr o) :: st) h (m_as o K) := by
  cases o with
  | none => exact sim_none
  | some a => exact k a
theorem sim_as2 {o : Option (Nat × Nat)} {v1 v2 : am_V} {K : Nat × Nat → am_R} (k : ∀ a, Sim M d pc lv (v1 :: v2 :: .inr (.inr (some a)) :: st) h (K a)) : Sim M d pc lv (v1 :: v2 :: .inr (.inr o) :: st) h (m_as o K) := by
  cases o with
  | none => exact sim_none
  | some a => exact k a
theorem sim_as3 {o : Option (Nat × Nat)} {v1 v2 v3 : am_V} {K : Nat × Nat → am_R} (k : ∀ a, Sim M d pc lv (v1 :: v2 :: v3 :: .inr (.inr (some a)) :: st) h (K a)) : Sim M d pc lv (v1 :: v2 :: v3 :: .inr (.inr o) :: st) h (m_as o K) := by
  cases o with
  | none => exact sim_none
  | some a => exact k a
theorem sim_as4 {o : Option (Nat × Nat)} {v1 v2 v3 v4 : am_V} {K : Nat × Nat → am_R} (k : ∀ a, Sim M d pc lv (v1 :: v2 :: v3 :: v4 :: .inr (.inr (some a)) :: st) h (K a)) : Sim M d pc lv (v1 :: v2 :: v3 :: v4 :: .inr (.inr o) :: st) h (m_as o K) := by
  cases o with
  | none => exact sim_none
  | some a => exact k a
theorem sim_idiv {x y : Int32} (d0 : decode M.2.1 pc = .ok (.idiv, 1)) (k : Sim M d (pc + 1) lv (.inl (x / y) :: st) h r) : Sim M d pc lv (.inl y :: .inl x :: st) h (m_ck (!(y == 0)) r) :=
  sim_ck fun hy => sim_go (fun c _ => c.tail.tail.cons am_clo_i) (fun _ _ _ _ _ _ _ _ _ _ _ _ _ _ _ _ _ hx hb _ _ _ k => lv_idiv hx hb d0 (by simpa using hy) k) k
theorem sim_irem {x y : Int32} (d0 : decode M.2.1 pc = .ok (.irem, 1)) (k : Sim M d (pc + 1) lv (.inl (x - x / y * y) :: st) h r) : Sim M d pc lv (.inl y :: .inl x :: st) h (m_ck (!(y == 0)) r) :=
  sim_ck fun hy => sim_go (fun c _ => c.tail.tail.cons am_clo_i) (fun _ _ _ _ _ _ _ _ _ _ _ _ _ _ _ _ _ hx hb _ _ _ k => lv_irem hx hb d0 (by simpa using hy) k) k
/-! ends -/
theorem am_zero {a b : Nat} {x : Nat} (h : a + (x - x) = b) : a = b := by omega
theorem sim_iret {x : Int32} (d0 : decode M.2.1 pc = .ok (.ireturn, 1)) (hr : M.2.2.2.1 = some .int) : Sim M d pc lv [.inl x] h (m_rt h (some (.inl x))) := by
  intro h' o e
  cases e
  refine ⟨am_le.refl h, fun l D dA base b n xs p e R s m args below meth c mc ms Qc XC C μ H locs cells slots ls a1 a2 a3 a4 a5 a6 a7 => ?_⟩
  cases am_zero a5
  cases am_zero a6
  exact vx_ret (W.iret C.1 C.2.1 (C.2.2.2.1.trans hr) (fun t ht hW => (a7 μ t (am_ext.refl μ h) (by rw [ht]; exact a1) hW.alike (a2.F ht)).1 _ rfl (fun w hw => by cases hw; trivial)) a2.2.2 d0 C.2.2.2.2.2.1)
theorem sim_vret (d0 : decode M.2.1 pc = .ok (.return_, 1)) (hr : M.2.2.2.1 = none) : Sim M d pc lv [] h (m_rt h none) := by
  intro h' o e
  cases e
  refine ⟨am_le.refl h, fun l D dA base b n xs p e R s m args below meth c mc ms Qc XC C μ H locs cells slots ls a1 a2 a3 a4 a5 a6 a7 => ?_⟩
  cases am_zero a5
  cases am_zero a6
  exact vx_ret (W.vret C.1 C.2.1 (C.2.2.2.1.trans hr) (fun t ht hW => (a7 μ t (am_ext.refl μ h) (by rw [ht]; exact a1) hW.alike (a2.F ht)).1 _ rfl (fun w hw => by cases hw)) a2.2.2 d0 C.2.2.2.2.2.1)
theorem am_nz_n {x : Int32} (h : m_nz x = true) : narrow .boolean (.int x) = .int x ∧ fits .boolean (.int x) = true ∧ vp_nar .boolean x = x := by
  have h1 : x = 0 ∨ x = 1 := by simpa [m_nz] using h
  rcases h1 with rfl | rfl <;> decide +kernel
theorem am_nzc_n {x : Int32} (h : m_nzc x = true) : narrow .char (.int x) = .int x ∧ fits .char (.int x) = true ∧ vp_nar .char x = x := by
  have h1 : (x.toUInt32 % 65536).toInt32 = x := by simpa [m_nzc] using h
  rw [← h1]
  exact ⟨pk_nc x, pk_fc x, pk_vc x⟩
theorem sim_zret {x : Int32} (d0 : decode M.2.1 pc = .ok (.ireturn, 1)) (hr : M.2.2.2.1 = some .boolean) : Sim M d pc lv [.inl x] h (m_ck (m_nz x) (m_rt h (some (.inl x)))) := by
  refine sim_ck fun hz => ?_
  intro h' o e
  cases e
  refine ⟨am_le.refl h, fun l D dA base b n xs p e R s m args below meth c mc ms Qc XC C μ H locs cells slots ls a1 a2 a3 a4 a5 a6 a7 => ?_⟩
  cases am_zero a5
  cases am_zero a6
  exact vx_ret (W.zret C.1 C.2.1 (C.2.2.2.1.trans hr) (am_nz_n hz).1 (fun t ht hW => (a7 μ t (am_ext.refl μ h) (by rw [ht]; exact a1) hW.alike (a2.F ht)).1 _ rfl (fun w hw => by cases hw; trivial)) a2.2.2 d0 C.2.2.2.2.2.1)
theorem sim_cret {x : Int32} (d0 : decode M.2.1 pc = .ok (.ireturn, 1)) (hr : M.2.2.2.1 = some .char) : Sim M d pc lv [.inl x] h (m_ck (m_nzc x) (m_rt h (some (.inl x)))) := by
  refine sim_ck fun hz => ?_
  intro h' o e
  cases e
  refine ⟨am_le.refl h, fun l D dA base b n xs p e R s m args below meth c mc ms Qc XC C μ H locs cells slots ls a1 a2 a3 a4 a5 a6 a7 => ?_⟩
  cases am_zero a5
  cases am_zero a6
  exact vx_ret (W.zret C.1 C.2.1 (C.2.2.2.1.trans hr) (am_nzc_n hz).1 (fun t ht hW => (a7 μ t (am_ext.refl μ h) (by rw [ht]; exact a1) hW.alike (a2.F ht)).1 _ rfl (fun w hw => by cases hw; trivial)) a2.2.2 d0 C.2.2.2.2.2.1)
theorem sim_aret {nm : String} {o : Option (Nat × Nat)} (d0 : decode M.2.1 pc = .ok (.areturn, 1)) (hr : M.2.2.2.1 = some (.object nm)) : Sim M d pc lv [.inr (.inr o)] h (m_rt h (some (.inr (.inr o)))) := by
  intro h' o e
  cases e
  refine ⟨am_le.refl h, fun l D dA base b n xs p e R s m args below meth c mc ms Qc XC C μ H locs cells slots ls a1 a2 a3 a4 a5 a6 a7 => ?_⟩
  cases am_zero a5
  cases am_zero a6
  exact vx_ret (W.aret C.1 C.2.1 (C.2.2.2.1.trans hr) (Or.inl ⟨_, rfl⟩) (by
    rcases o with _ | q
    · exact Or.inl rfl
    · exact Or.inr ⟨_, rfl⟩) (fun t ht hW => (a7 μ t (am_ext.refl μ h) (by rw [ht]; exact a1) hW.alike (a2.F ht)).1 _ rfl (fun w hw => by cases hw; exact a4 _ List.mem_cons_self)) a2.2.2 d0 C.2.2.2.2.2.1)
end SimRows2
