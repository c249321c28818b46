/-! ## contracts and calls -/
theorem am_Wd.moved {D : va_G} {dA : Nat → ClassId} {base b n : Nat} {xs : Nat → Int32} {u U : State} {H : Heap} (hvm : u.vm.Alike U.vm) (h : am_Wd D dA base b n xs u H) : am_Wd D dA base b n xs U H :=
  ⟨va_K.moved hvm h.1, vx_Zq.moved hvm h.2.1, vx_Zq.moved hvm h.2.2.1, ⟨va_X.moved hvm h.2.2.2.1.1, h.2.2.2.1.2⟩, h.2.2.2.2.1, h.2.2.2.2.2.1, fun i j hi hj hij => va_Nc.moved hvm (h.2.2.2.2.2.2 i j hi hj hij)⟩
theorem am_Wd.kept {D : va_G} {dA : Nat → ClassId} {base b n : Nat} {xs : Nat → Int32} {U : State} {H H1 : Heap} (h : am_Wd D dA base b n xs U H) (hz : H.size ≤ H1.size) (hq : ∀ a : Nat, a < H.size → ¬ base ≤ a → H1[a]? = H[a]?) : am_Wd D dA base b n xs U H1 :=
  ⟨h.1, vx_Zq.kept h.2.1 hq, vx_Zq.kept h.2.2.1 hq, ⟨va_X.kept h.2.2.2.1.1 (hq b (Nat.lt_of_lt_of_le h.2.2.2.2.1 h.2.2.2.2.2.1) (Nat.not_le.mpr h.2.2.2.2.1)), h.2.2.2.1.2⟩, h.2.2.2.2.1, Nat.le_trans h.2.2.2.2.2.1 hz, h.2.2.2.2.2.2⟩
def am_Pc (D : va_G) (dA : Nat → ClassId) (base b n : Nat) (xs : Nat → Int32) (μ : Nat × Nat → Nat) (h : am_H) (As : List am_V) : Array Value → State → Prop := fun v U =>
  v = (As.map (am_v μ)).toArray ∧ am_Wd D dA base b n xs U U.heap ∧ am_Rel D dA base b n xs μ h U.heap
def am_Qc (D : va_G) (dA : Nat → ClassId) (base b n : Nat) (xs : Nat → Int32) (μ : Nat × Nat → Nat) (h h' : am_H) (o : Option am_V ⊕ Nat) : Array Value → State → Outcome → State → Prop := fun _ st oc t =>
  ∃ (v : Option am_V) (μ' : Nat × Nat → Nat), o = .inl v ∧ oc = .returned (v.map (am_v μ')) ∧ am_ext μ h μ' ∧ am_Rel D dA base b n xs μ' h' t.heap ∧ (∀ w, v = some w → am_clo h' w) ∧ va_F (fun q : Nat => base ≤ q) st t
def am_XC (D : va_G) (dA : Nat → ClassId) (base b n : Nat) (xs : Nat → Int32) (μ : Nat × Nat → Nat) (h h' : am_H) (o : Option am_V ⊕ Nat) : String → State → State → Prop := fun E st t =>
  ∃ (k : Nat) (μ' : Nat × Nat → Nat), o = .inr k ∧ E = am_xn k ∧ am_ext μ h μ' ∧ am_Rel D dA base b n xs μ' h' t.heap ∧ va_F (fun q : Nat => base ≤ q) st t
def am_rm (d mc ms : Nat) : Room := { frames := d, locals := 36 * d, cells := mc, slots := ms }
def am_Con (M : am_M) (d : Nat) (As : List am_V) (h : am_H) (r : am_R) : Prop := ∀ (h' : am_H) (o : Option am_V ⊕ Nat), r = some (h', o) → am_le h h' ∧ (am_cls h As →
  ∀ (l : Launch) (D : va_G) (dA : Nat → ClassId) (base b n : Nat) (xs : Nat → Int32) (μ : Nat × Nat → Nat), l.stackTraces = false →
    vx_Met l M.1 (am_w M) (am_rm d (m_nc h' - m_nc h) (m_ns h' - m_ns h)) (am_Pc D dA base b n xs μ h As) (am_Qc D dA base b n xs μ h h' o) (am_XC D dA base b n xs μ h h' o) (m_nc h' - m_nc h) (m_ns h' - m_ns h) (fun q : Nat => base ≤ q))
theorem am_Pc.blind {D : va_G} {dA : Nat → ClassId} {base b n : Nat} {xs : Nat → Int32} {μ : Nat × Nat → Nat} {h : am_H} {As : List am_V} : FrameBlind (am_Pc D dA base b n xs μ h As) := fun a U g mk q =>
  ⟨q.1, am_Wd.moved (u := U) (U := U.calling g mk a) (Vm.Alike.refl U.vm) q.2.1, q.2.2⟩
/-- the locals at the entry -/
def am_lv0 : List am_V → List (Option am_V)
  | [] => []
  | .inr (.inl y) :: l => some (.inr (.inl y)) :: none :: am_lv0 l
  | v :: l => some v :: am_lv0 l
def am_lvN (nL : Nat) (As : List am_V) : List (Option am_V) := am_lv0 As ++ List.replicate (nL - (am_lv0 As).length) none
theorem am_pr_app {μ : Nat × Nat → Nat} : ∀ {l l' : List (Option am_V)} {k : Nat}, am_pr μ k (l ++ l') = am_pr μ k l ++ am_pr μ (k + l.length) l'
  | [], _, _ => rfl
  | none :: l, l', k => by
    rw [List.cons_append, am_pr, am_pr, am_pr_app, List.length_cons, show k + 1 + l.length = k + (l.length + 1) by omega]
  | some v :: l, l', k => by
    rw [List.cons_append, am_pr, am_pr, am_pr_app, List.length_cons, show k + 1 + l.length = k + (l.length + 1) by omega]; rfl
theorem am_pr_none {μ : Nat × Nat → Nat} : ∀ {n k : Nat}, am_pr μ k (List.replicate n none) = []
  | 0, _ => rfl
  | n + 1, k => by rw [List.replicate_succ, am_pr, am_pr_none]
theorem am_pr_lv0 {μ : Nat × Nat → Nat} : ∀ {As : List am_V} {k : Nat}, am_pr μ k (am_lv0 As) = lv_args k (As.map (am_v μ))
  | [], _ => rfl
  | .inr (.inl y) :: l, k => by
    rw [List.map_cons, lv_args, am_lv0, am_pr, am_pr, am_pr_lv0, if_pos (show (am_v μ (.inr (.inl y))).category = 2 from rfl)]
  | .inl x :: l, k => by
    rw [List.map_cons, lv_args, am_lv0, am_pr, am_pr_lv0, if_neg (show ¬ (am_v μ (.inl x)).category = 2 by rw [am_cat1]; decide)]
    intro y hy; cases hy
  | .inr (.inr o) :: l, k => by
    rw [List.map_cons, lv_args, am_lv0, am_pr, am_pr_lv0, if_neg (show ¬ (am_v μ (.inr (.inr o))).category = 2 by rw [am_cat1r]; decide)]
    intro y hy; cases hy
theorem am_lv0_mem : ∀ {As : List am_V} {v : am_V}, some v ∈ am_lv0 As → v ∈ As
  | [], v, h => by simp [am_lv0] at h
  | .inr (.inl y) :: l, v, h => by
    simp only [am_lv0, List.mem_cons, Option.some.injEq, reduceCtorEq, false_or] at h
    rcases h with h | h
    · rw [h]; exact List.mem_cons_self
    · exact List.mem_cons_of_mem _ (am_lv0_mem h)
  | .inl x :: l, v, h => by
    simp only [am_lv0, List.mem_cons, Option.some.injEq] at h
    rcases h with h | h
    · rw [h]; exact List.mem_cons_self
    · exact List.mem_cons_of_mem _ (am_lv0_mem h)
  | .inr (.inr o) :: l, v, h => by
    simp only [am_lv0, List.mem_cons, Option.some.injEq] at h
    rcases h with h | h
    · rw [h]; exact List.mem_cons_self
    · exact List.mem_cons_of_mem _ (am_lv0_mem h)
theorem am_Ls0 {nL : Nat} {μ : Nat × Nat → Nat} {h : am_H} {As : List am_V} {ls : Array Slot} (hl : lv_has ls nL (lv_args 0 (As.map (am_v μ)))) (hc : am_cls h As) : am_Ls nL μ h (am_lvN nL As) ls := by
  refine ⟨?_, fun i v hi => ?_⟩
  · rw [am_lvN, am_pr_app, am_pr_none, List.append_nil, am_pr_lv0]
    exact hl
  · have := List.mem_of_getElem? hi
    rw [am_lvN, List.mem_append] at this
    rcases this with h1 | h1
    · exact hc v (am_lv0_mem h1)
    · exact absurd (List.eq_of_mem_replicate h1) (by simp)
theorem am_sl_len {μ : Nat × Nat → Nat} : ∀ {As : List am_V}, (lg_sl (As.map (am_v μ))).length = (am_lv0 As).length
  | [] => rfl
  | .inr (.inl y) :: l => by
    have := am_sl_len (μ := μ) (As := l)
    simp only [lg_sl, List.map_cons, List.flatMap_cons, List.length_append, am_lv0, List.length_cons] at this ⊢
    rw [if_pos (show (am_v μ (.inr (.inl y))).category = 2 from rfl), this]
    simp; omega
  | .inl x :: l => by
    have := am_sl_len (μ := μ) (As := l)
    simp only [lg_sl, List.map_cons, List.flatMap_cons, List.length_append, am_lv0, List.length_cons] at this ⊢
    rw [if_neg (show ¬ (am_v μ (.inl x)).category = 2 by rw [am_cat1]; decide), this]
    simp; omega
  | .inr (.inr o) :: l => by
    have := am_sl_len (μ := μ) (As := l)
    simp only [lg_sl, List.map_cons, List.flatMap_cons, List.length_append, am_lv0, List.length_cons] at this ⊢
    rw [if_neg (show ¬ (am_v μ (.inr (.inr o))).category = 2 by rw [am_cat1r]; decide), this]
    simp; omega
theorem am_body {M : am_M} {d : Nat} {As : List am_V} {h : am_H} {r : am_R} (hsz : (am_lv0 As).length ≤ M.2.2.1) (k : Sim M d 0 (am_lvN M.2.2.1 As) [] h r) {h' : am_H} {o : Option am_V ⊕ Nat} (e : r = some (h', o)) (hcl : am_cls h As)
    {l : Launch} {D : va_G} {dA : Nat → ClassId} {base b n : Nat} {xs : Nat → Int32} {μ : Nat × Nat → Nat} (hst : l.stackTraces = false) {p : Program} {e9 : Env} {s : State} {m : MethodId} {args : Array Value} {below : List Frame} {meth : Method} {c : Code} {s₁ : State}
    (B : BodyLoose p l M.1 (headSpec (am_w M) (am_rm d (m_nc h' - m_nc h) (m_ns h' - m_ns h))) M.2.1 M.2.2.1 M.2.2.2.1 e9 s m args below meth c s₁) (hml : c.maxLocals = M.2.2.1) (htab : c.exceptionTable.toList = tableOf M.2.2.2.2) (hv : am_Pc D dA base b n xs μ h As args s) :
    W p l e9 (headSpec (am_w M) (am_rm d (m_nc h' - m_nc h) (m_ns h' - m_ns h))).room s m args below meth c s.heap [] 0 0 (vx_MQ below (am_Qc D dA base b n xs μ h h' o) (am_XC D dA base b n xs μ h h' o) args s (m_nc h' - m_nc h) (m_ns h' - m_ns h) (fun q : Nat => base ≤ q)) (entryFrame m args M.2.2.1) := by
  obtain ⟨q1, q2⟩ := k h' o e
  obtain ⟨rfl, hW, hR⟩ := hv
  have hts := atoms_spec (ws := am_w M) B.pre
  rw [lg_entry_eq]
  have hl := lv_entry (As.map (am_v μ)) (n := M.2.2.1) (by rw [am_sl_len]; exact hsz)
  generalize (lg_sl (As.map (am_v μ)) ++ List.replicate (M.2.2.1 - (lg_sl (As.map (am_v μ))).length) Slot.unset).toArray = ls at hl ⊢
  exact q2 l D dA base b n xs p e9 _ s m _ below meth c (m_nc h' - m_nc h) (m_ns h' - m_ns h) _ _ ⟨B.exec, B.bytes, hml, B.returns, findClass_of_methodNamed B.named, B.notSynchronized, (name_of_methodNamed B.named B.method).1, fun w hw => hts w (List.mem_cons_of_mem _ hw), htab, hst, ⟨Nat.le_refl _, Nat.le_refl _, Nat.le_refl _, Nat.le_refl _⟩, hW⟩
    μ s.heap [] 0 0 ls hR va_S.rf (am_Ls0 hl hcl) (fun v hv => by cases hv) (Nat.zero_add _) (Nat.zero_add _)
    (fun μ' t e1 e2 e3 e4 => ⟨fun v ho hcl => ⟨v, μ', ho, rfl, e1, e2, hcl, e4⟩, fun k ho => ⟨k, μ', ho, rfl, e1, e2, e4⟩⟩)
theorem am_con {y : MethodName} {cc : ByteArray} {nL : Nat} {ret : Option FieldType} {d : Nat} {As : List am_V} {h : am_H} {r : am_R} (hpl : plainName y.cls = true) (hsz : (am_lv0 As).length ≤ nL) (k : Sim (y, cc, nL, ret, []) d 0 (am_lvN nL As) [] h r) : am_Con (y, cc, nL, ret, []) d As h r := by
  intro h' o e
  refine ⟨(k h' o e).1, fun hcl l D dA base b n xs μ hst => ?_⟩
  refine vx_ofW (cc := cc) (maxL := nL) (ret := ret) hpl rfl ?_
  intro p e9 s m args below meth c s₁ B hml htab hv
  exact am_body (M := (y, cc, nL, ret, [])) hsz k e hcl hst B hml (by
    show c.exceptionTable.toList = []
    cases hx : c.exceptionTable.toList with
    | nil => rfl
    | cons x l => exact (htab x (by rw [hx]; exact List.mem_cons_self)).elim) hv
theorem am_conX {y : MethodName} {cc : ByteArray} {nL : Nat} {ret : Option FieldType} {x0 : Nat × Nat × Nat × Nat} {hh : List (Nat × Nat × Nat × Nat)} {d : Nat} {As : List am_V} {h : am_H} {r : am_R} (hpl : plainName y.cls = true) (hsz : (am_lv0 As).length ≤ nL) (k : Sim (y, cc, nL, ret, x0 :: hh) d 0 (am_lvN nL As) [] h r) : am_Con (y, cc, nL, ret, x0 :: hh) d As h r := by
  intro h' o e
  refine ⟨(k h' o e).1, fun hcl l D dA base b n xs μ hst => ?_⟩
  refine vx_ofWH (cc := cc) (maxL := nL) (ret := ret) (hh := x0 :: hh) hpl rfl ?_
  intro p e9 s m args below meth c s₁ B hml hv
  exact am_body (M := (y, cc, nL, ret, x0 :: hh)) hsz k e hcl hst B hml (vx_table (x := y) (y := y) (bytes := cc) (maxL' := nL) (ret' := ret) (hh := x0 :: hh) B (atoms_spec (ws := am_w (y, cc, nL, ret, x0 :: hh)) B.pre _ List.mem_cons_self)) hv
/-- thrown over the frame -/
def SimX (M : am_M) (d pc : Nat) (lv : List (Option am_V)) (h1 : am_H) (kx : Nat) (r : am_R) : Prop :=
  ∀ (h' : am_H) (o : Option am_V ⊕ Nat), r = some (h', o) → am_le h1 h' ∧
  ∀ (l : Launch) (D : va_G) (dA : Nat → ClassId) (base b n : Nat) (xs : Nat → Int32) (p : Program) (e : Env) (R : Room) (s : State) (m : MethodId) (args : Array Value) (below : List Frame) (meth : Method) (c : Code) (mc ms : Nat) (Qc : Array Value → State → Outcome → State → Prop) (XC : String → State → State → Prop),
    am_Cx l D dA base b n xs M d p R s m args meth c mc ms →
    ∀ (μ : Nat × Nat → Nat) (H : Heap) (locs : List Loc) (cells slots : Nat) (ls : Array Slot) (rest : List Value) (q : Addr) (ce : Cell),
      am_Rel D dA base b n xs μ h1 H → va_S (fun q : Nat => base ≤ q) s.heap H locs → am_Ls M.2.2.1 μ h1 lv ls →
      cells + (m_nc h' - m_nc h1) = mc → slots + (m_ns h' - m_ns h1) = ms → am_Fin D dA base b n xs s args μ h1 h' o Qc XC →
      H[q]? = some ce → ce.vm = .none → s.vm.findClass (am_xn kx) = some ce.cls →
      vx_W p l e R s m args below meth c H locs cells slots (vx_MQ below Qc XC args s mc ms (fun q : Nat => base ≤ q)) (F0 m pc ls rest) q
theorem simx_out {y : MethodName} {cc : ByteArray} {nL : Nat} {ret : Option FieldType} {d pc : Nat} {lv : List (Option am_V)} {h1 : am_H} {kx : Nat} : SimX (y, cc, nL, ret, []) d pc lv h1 kx (some (h1, .inr kx)) := by
  intro h' o e
  cases e
  refine ⟨am_le.refl _, fun l D dA base b n xs p e R s m args below meth c mc ms Qc XC C μ H locs cells slots ls rest q ce a1 a2 a3 a5 a6 a7 g1 g2 g3 => ?_⟩
  refine vx_out (E := am_xn kx) (ce := ce) (fun x hx => ?_) C.2.2.2.2.2.1 g1 g2 g3 (fun t ht hv => (a7 μ t (am_ext.refl _ _) (by rw [ht]; exact a1) hv (a2.F ht)).2 kx rfl) a2.2.2 (by omega) (by omega)
  have h9 : c.exceptionTable.toList = [] := C.2.2.2.2.2.2.2.2.1
  rw [h9] at hx
  cases hx
/-- the heart of every call -/
theorem sim_core {M M1 : am_M} {d pc : Nat} {lv : List (Option am_V)} {st rest : List am_V} {h : am_H} {r r1 : am_R}
    (hrest : am_cls h st → am_cls h rest) (hle1 : ∀ h1 o1, r1 = some (h1, o1) → am_le h h1) (hnone : r1 = none → r = none)
    (hret : ∀ h1 v, r1 = some (h1, .inl v) → Sim M d (pc + 3) lv (v.toList ++ rest) h1 r) (hexc : ∀ h1 k, r1 = some (h1, .inr k) → SimX M d pc lv h1 k r)
    (hrun : ¬ r = none → ∀ (h1 : am_H) (o1 : Option am_V ⊕ Nat), r1 = some (h1, o1) → ∀ (l : Launch) (D : va_G) (dA : Nat → ClassId) (base b n : Nat) (xs : Nat → Int32) (p : Program) (e : Env) (R : Room) (s : State) (m : MethodId) (args : Array Value) (below : List Frame) (meth : Method) (c : Code) (mc ms : Nat),
      am_Cx l D dA base b n xs M d p R s m args meth c mc ms → ∀ (μ : Nat × Nat → Nat) (H : Heap) (locs : List Loc) (cells slots : Nat) (ls : Array Slot),
      am_Rel D dA base b n xs μ h H → va_S (fun q : Nat => base ≤ q) s.heap H locs → am_Ls M.2.2.1 μ h lv ls → am_cls h st → cells + (m_nc h1 - m_nc h) ≤ mc → slots + (m_ns h1 - m_ns h) ≤ ms →
      ∃ a0, vx_Run p l e R s m args below meth c H locs cells slots (m_nc h1 - m_nc h) (m_ns h1 - m_ns h) (F0 m pc ls (st.map (am_v μ))) (rest.map (am_v μ)) (am_Qc D dA base b n xs μ h h1 o1 a0) (am_XC D dA base b n xs μ h h1 o1) (fun q : Nat => base ≤ q)) :
    Sim M d pc lv st h r := by
  intro h' o e
  rcases hr1 : r1 with _ | ⟨h1, o1⟩
  · rw [hnone hr1] at e; cases e
  have hl1 := hle1 h1 o1 hr1
  have hboth : am_le h1 h' := by
    rcases o1 with v | k
    · exact (hret h1 v hr1 h' o e).1
    · exact (hexc h1 k hr1 h' o e).1
  refine ⟨hl1.trans hboth, fun l D dA base b n xs p e9 R s m args below meth c mc ms Qc XC C μ H locs cells slots ls a1 a2 a3 a4 a5 a6 a7 => ?_⟩
  have z1 := hl1.1
  have z2 := hl1.2.1
  have z3 := hboth.1
  have z4 := hboth.2.1
  obtain ⟨a0, run⟩ := hrun (by rw [e]; exact fun z => by cases z) h1 o1 hr1 l D dA base b n xs p e9 R s m args below meth c mc ms C μ H locs cells slots ls a1 a2 a3 a4 (by omega) (by omega)
  intro T hT X
  rcases run T hT X with ⟨v', st₀, t, T', L, h0, X', hL, e1, e2, ⟨v, μ', ho, hov, ex, hRel, hcl, hF⟩, go⟩ | ⟨q, st₀, t, T', L, E, ce, h0, X', hL, e1, e2, ⟨k, μ', ho, hE, ex, hRel, hF⟩, hce, hcv, hcls, go⟩
  · subst ho
    cases hov
    obtain ⟨k1, k2, k3⟩ := vx_keep h0 e1 a2 (fun q _ h => h) (fun q h => h) hL hF
    have K := (hret h1 v hr1 h' o e).2 l D dA base b n xs p e9 R s m args below meth c mc ms Qc XC C μ' T'.heap (locs ++ L) (cells + (m_nc h1 - m_nc h)) (slots + (m_ns h1 - m_ns h)) ls (by rw [e1]; exact hRel) k3 (a3.move ex hl1)
      (fun w hw => by
        rcases List.mem_append.mp hw with g | g
        · cases v with
          | none => cases g
          | some u =>
            simp only [Option.toList, List.mem_singleton] at g
            rw [g]; exact hcl u rfl
        · exact (hrest a4 w g).mono hl1) (by omega) (by omega) (fun μ2 t2 f1 f2 f3 f4 => a7 μ2 t2 (ex.trans hl1 f1) f2 f3 f4)
    rw [List.map_append, am_vs_ext ex (hrest a4)] at K
    have hv : v.toList.map (am_v μ') = (v.map (am_v μ')).toList := by cases v <;> rfl
    rw [hv] at K
    obtain ⟨t2, g1, g2⟩ := K T' rfl X'
    exact ⟨t2, go t2 g1, g2⟩
  · subst ho
    obtain ⟨k1, k2, k3⟩ := vx_keep h0 e1 a2 (fun q _ h => h) (fun q h => h) hL hF
    have K := (hexc h1 k hr1 h' o e).2 l D dA base b n xs p e9 R s m args below meth c mc ms Qc XC C μ' T'.heap (locs ++ L) (cells + (m_nc h1 - m_nc h)) (slots + (m_ns h1 - m_ns h)) ls (rest.map (am_v μ)) q ce (by rw [e1]; exact hRel) k3 (a3.move ex hl1) (by omega) (by omega) (fun μ2 t2 f1 f2 f3 f4 => a7 μ2 t2 (ex.trans hl1 f1) f2 f3 f4) (by rw [e1]; exact hce) hcv (by rw [← hE]; exact hcls)
    obtain ⟨t2, g1, g2⟩ := K T' rfl X'
    exact ⟨t2, go.trans g1, g2⟩
theorem am_run_of {p : Program} {l : Launch} {e : Env} {R : Room} {s : State} {m : MethodId} {args : Array Value} {below : List Frame} {meth : Method} {c : Code} {H : Heap} {locs : List Loc} {cells slots mc ms : Nat} {g : JFrame} {rest : List Value} {Qa : State → Outcome → State → Prop} {XC : String → State → State → Prop} {free : Addr → Prop}
    (h : va_Run p l e R s m args below meth c H locs cells slots mc ms g rest Qa free) : vx_Run p l e R s m args below meth c H locs cells slots mc ms g rest Qa XC free := fun T hT X => Or.inl (h T hT X)
theorem am_met_of {l : Launch} {y : MethodName} {ws : List Cond} {rm : Room} {Pc : Array Value → State → Prop} {Qc : Array Value → State → Outcome → State → Prop} {XC : String → State → State → Prop} {mc ms : Nat} {free : Addr → Prop} (h : vx_Met l y ws rm Pc Qc XC mc ms free) (hx : ∀ E st t, ¬ XC E st t) : Met l y ws rm Pc Qc mc ms free :=
  MetFree.mono h (fun _ _ h => h) (fun _ _ _ _ _ h => h) (fun a s o t hP hq => by
    rcases hq with h | ⟨q, -, E, ce, L, h, -⟩
    · exact h
    · exact (hx _ _ _ h).elim)
