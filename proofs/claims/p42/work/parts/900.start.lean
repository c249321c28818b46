/-! THE CLAIM OUT OF ONE WALK OF THE LAW'S BODY. Your part is whole_start (and what it stands on); all else here is the same for every law, but numbers. -/
def R_law : String := "TagwrangleryLaw"
def lw_P (b : Addr) (xs : List Int32) (args : Array Value) (s : State) : Prop := args = #[.ref b] ∧ s.IntsAt b xs ∧ xs.length ≤ 260 ∧ (Jvm.Cond.and given_1 narrow_1).before args s = true
def lw_Q (_ : Array Value) (s : State) (o : Outcome) (t : State) : Prop := o = .returned (some (.int 1)) ∧ Framed s o t [] 797181 6710082
def lw_Z (below : List Frame) (a : Array Value) (s : State) : State → Prop := fun t => ∃ o, t.status = .running ∧ Ended t below o ∧ lw_Q a s o t
/-- the law's own end, with 1 on the stack, nothing written that was there before, its room as the claim has it -/
theorem lw_ret {p : Program} {l : Launch} {e : Env} {s : State} {m : MethodId} {below : List Frame} {meth : Method} {c : Code} {b : Nat} (hx : p.tables.exec = Jvm.exec) (hb : c.code = code) (hr : meth.sig.returnType = ret) (hlocks : meth.locks = false) {pc : Nat} {H : Heap} {ls : Array Slot} (hdg : decode code pc = .ok (.ireturn, 1)) : W p l e room_1 s m #[Value.ref b] below meth c H [] 797181 6710082 (lw_Z below #[Value.ref b] s) (F0 m pc ls [.int 1]) := by
  intro T hT X
  obtain ⟨fs, hret, hrun, hended, hW, hframe⟩ := X.leave (v := some (.int 1)) (hlocks := hlocks) (fun h => by rw [hr] at h; cases h)
  have hmeth' : T.vm.method? m = some meth := X.method'
  refine ⟨T.setFrames fs, ?_, .returned (some (.int 1)), hrun, hended, rfl, ⟨_, rfl⟩, hW, hframe⟩
  jvm_step X.here [X.here.top, hx, hb, hdg, hmeth', hr, ret, narrow_b1]
  (try refine ⟨rfl, ?_⟩); (try refine ⟨rfl, ?_⟩)
  first | (intro acts; rw [hret _ acts rfl rfl rfl]) | rw [hret _ _ rfl rfl rfl]
  exact Steps.refl _
/-- what holds at the law's entry: the machine, the code, the tables' words (any of lw_tbl by 'hts w (by decide +kernel)'), the script of L ints xs at the cell b, what the Statement gives of the start (any of its parts by flat_of_before) -/
def lw_At (p : Program) (s : State) (m : MethodId) (meth : Method) (c : Code) (b L : Nat) (xs : Nat → Int32) : Prop :=
  p.tables.exec = Jvm.exec ∧ c.code = code ∧ meth.sig.returnType = ret ∧ c.maxLocals = 7 ∧ s.vm.findClass R_law = some m.cls ∧ (∀ w ∈ lw_tbl, w.before #[Value.ref b] s = true) ∧ va_X b L xs s s.heap ∧ b < s.heap.size ∧ meth.locks = false ∧ (Jvm.Cond.and given_1 narrow_1).before #[Value.ref b] s = true ∧ c.exceptionTable.toList = [] ∧ meth.name = "law"
theorem am_arrK {s : State} {ty : FieldType} (h : (Cond.arrayClass ty).before #[] s = true) : ∃ cA : ClassId, ArrOfT s cA ty ∧ s.vm.findClass ("[" ++ ty.toString) = some cA := by
  obtain ⟨c, k, comp, h1, h2, h3⟩ := Cond.arrayClass_spec (args := #[]) (first := s) (o := none) (s := s) (idx := []) h
  exact ⟨c, fun n z => ⟨(fun k h => by cases h), k, h2, comp, h3⟩, h1⟩
theorem am_arrO {s : State} {C : String} (h : (Cond.arrayOver (.object C)).before #[] s = true) : ∃ cA : ClassId, ArrOfT s cA (.object C) ∧ va_RA s cA (.object C) := by
  obtain ⟨comp, c, k, h1, -, h3, h4, h5⟩ := Cond.arrayOver_spec (args := #[]) (first := s) (o := none) (s := s) (idx := []) h
  exact ⟨c, fun n z => ⟨(fun k h => by cases h), k, h3, comp, h4⟩, k, comp, h3, h4, h1, h5⟩
theorem am_any {w : Cond} (hg : am_gw w = true) {args a' : Array Value} {s : State} (h : w.before args s = true) : w.before a' s = true := am_gw_warm hg (State.WarmedH.refl s) h
theorem am_kn {s : State} {b : Nat} (hts : ∀ w ∈ lw_tbl, w.before #[Value.ref b] s = true) {ci : Nat} {C : String} {T : u_T} {N : Nat} (hc : vwCl[ci]? = some (C, T, N)) {i : Nat} (hi : lw_tbl[i]? = some (.instantiable C N)) : ∃ (cC : ClassId) (iS : Nat → Nat), u_Kn s C T N cC iS :=
  u_known hts (fun w hw => (List.mem_filter.mp ((am_clF hc).2.1 w hw)).1) (hts _ (List.mem_of_getElem? hi))
set_option maxHeartbeats 4000000 in
set_option maxRecDepth 100000 in
theorem whole_start {p : Program} {e : Env} {s : State} {m : MethodId} {below : List Frame} {meth : Method} {c : Code} (l : Launch) (hflags : l.flags = flags0) {b L : Nat} {xs : Nat → Int32} (hL : L ≤ 260) (C0 : lw_At p s m meth c b L xs) : W p l e room_1 s m #[Value.ref b] below meth c s.heap [] 0 0 (lw_Z below #[Value.ref b] s) (entryFrame m ([Value.ref b] : List Value).toArray 7) := by
  obtain ⟨hx, hb, hr, hml, hown, hts, hX, hbl, hlocks, hgv, hetab, hname⟩ := id C0
  have hst : l.stackTraces = false := by
    show (!l.flags.contains noTraceFlag) = false
    rw [hflags]
    decide +kernel
  obtain ⟨h', hlaw, hnc, hns⟩ := law_pure L xs
  obtain ⟨k0, j0, n0⟩ := am_kn hts (ci := 0) rfl wi_RX0
  obtain ⟨k1, j1, n1⟩ := am_kn hts (ci := 1) rfl wi_RX1
  obtain ⟨k2, j2, n2⟩ := am_kn hts (ci := 2) rfl wi_RX2
  obtain ⟨k3, j3, n3⟩ := am_kn hts (ci := 3) rfl wi_RX3
  obtain ⟨k4, j4, n4⟩ := am_kn hts (ci := 4) rfl wi_RX4
  obtain ⟨k5, j5, n5⟩ := am_kn hts (ci := 5) rfl wi_RX5
  obtain ⟨k6, j6, n6⟩ := am_kn hts (ci := 6) rfl wi_RX6
  obtain ⟨k7, j7, n7⟩ := am_kn hts (ci := 7) rfl wi_RX7
  obtain ⟨k8, j8, n8⟩ := am_kn hts (ci := 8) rfl wi_RX8
  obtain ⟨k9, j9, n9⟩ := am_kn hts (ci := 9) rfl wi_RX9
  obtain ⟨k10, j10, n10⟩ := am_kn hts (ci := 10) rfl wi_RX10
  have hw : ∀ {w : Cond} {i : Nat}, lw_tbl[i]? = some w → am_gw w = true → w.before #[] s = true := fun h1 h2 => am_any h2 (hts _ (List.mem_of_getElem? h1))
  obtain ⟨a0, p0, q0⟩ := am_arrK (hw wa_int rfl)
  obtain ⟨a1, p1, q1⟩ := am_arrK (hw wa_boolean rfl)
  obtain ⟨a2, p2, q2⟩ := am_arrK (hw wa_char rfl)
  obtain ⟨a4, p4, q4⟩ := am_arrO (hw wo_RX3 rfl)
  obtain ⟨a5, p5, q5⟩ := am_arrO (hw wo_RX9 rfl)
  obtain ⟨a6, p6, q6⟩ := am_arrO (hw wo_RX0 rfl)
  obtain ⟨a7, p7, q7⟩ := am_arrO (hw wo_RX1 rfl)
  obtain ⟨a8, p8, q8⟩ := am_arrO (hw wo_RX6 rfl)
  obtain ⟨dC, hdC⟩ : ∃ f : Nat → ClassId, f = fun k => match k with | 0 => k0 | 1 => k1 | 2 => k2 | 3 => k3 | 4 => k4 | 5 => k5 | 6 => k6 | 7 => k7 | 8 => k8 | 9 => k9 | _ => k10 := ⟨_, rfl⟩
  obtain ⟨dI, hdI⟩ : ∃ f : Nat → Nat → Nat, f = fun k => match k with | 0 => j0 | 1 => j1 | 2 => j2 | 3 => j3 | 4 => j4 | 5 => j5 | 6 => j6 | 7 => j7 | 8 => j8 | 9 => j9 | _ => j10 := ⟨_, rfl⟩
  obtain ⟨dA, hdA⟩ : ∃ f : Nat → ClassId, f = fun k => match k with | 0 => a0 | 1 => a1 | 2 => a2 | 3 => a0 | 4 => a4 | 5 => a5 | 6 => a6 | 7 => a7 | _ => a8 := ⟨_, rfl⟩
  have hK : va_K (dC, dI) vwCl (am_tys dA) s := by
    subst hdC; subst hdI; subst hdA
    refine ⟨fun k q hq => ?_, fun k q hq => ?_⟩
    · match k, hq with
      | 0, hq => cases hq; exact n0
      | 1, hq => cases hq; exact n1
      | 2, hq => cases hq; exact n2
      | 3, hq => cases hq; exact n3
      | 4, hq => cases hq; exact n4
      | 5, hq => cases hq; exact n5
      | 6, hq => cases hq; exact n6
      | 7, hq => cases hq; exact n7
      | 8, hq => cases hq; exact n8
      | 9, hq => cases hq; exact n9
      | 10, hq => cases hq; exact n10
      | k + 11, hq => simp at hq
    · match k, hq with
      | 0, hq => cases hq; exact ⟨p0, q0⟩
      | 1, hq => cases hq; exact ⟨p1, q1⟩
      | 2, hq => cases hq; exact ⟨p2, q2⟩
      | 3, hq => cases hq; exact ⟨p0, q0⟩
      | 4, hq => cases hq; exact ⟨p4, q4⟩
      | 5, hq => cases hq; exact ⟨p5, q5⟩
      | 6, hq => cases hq; exact ⟨p6, q6⟩
      | 7, hq => cases hq; exact ⟨p7, q7⟩
      | 8, hq => cases hq; exact ⟨p8, q8⟩
      | k + 9, hq => simp [am_tys] at hq
  have hs := flat_of_before _ hgv
  have hN : am_Ncs s := by
    intro i j hi hj hij
    have hc : ∀ i j : Nat, i < 3 → j < 3 → i ≠ j → (Cond.not (.castable (am_xn i) (am_xn j))) ∈ flatC (Jvm.Cond.and given_1 narrow_1) := by
      intro i j hi hj hij
      match i, j, hi, hj, hij with
      | 0, 0, _, _, h => exact absurd rfl h
      | 0, 1, _, _, _ => decide +kernel
      | 0, 2, _, _, _ => decide +kernel
      | 1, 0, _, _, _ => decide +kernel
      | 1, 1, _, _, h => exact absurd rfl h
      | 1, 2, _, _, _ => decide +kernel
      | 2, 0, _, _, _ => decide +kernel
      | 2, 1, _, _, _ => decide +kernel
      | 2, 2, _, _, h => exact absurd rfl h
    exact va_Nc.of (hs _ (hc i j hi hj hij))
  have hini : (Cond.initialized Bundle.tN).before #[Value.ref b] s = true := hts _ (by decide +kernel)
  have hA : ∀ a : Nat, a < s.heap.size → ¬ s.heap.size ≤ a := fun a h => Nat.not_le.mpr h
  have hWd : am_Wd (dC, dI) dA s.heap.size b L xs s s.heap :=
    ⟨hK, vx_Zqof (hts _ (by decide +kernel)) hini (hs _ (by decide +kernel)) hA, vx_Zqof (hts _ (by decide +kernel)) hini (hs _ (by decide +kernel)) hA, ⟨hX, Nat.le_trans hL (by decide)⟩, hbl, Nat.le_refl _, hN⟩
  have hC : am_Cx l (dC, dI) dA s.heap.size b L xs m_L_law 15 p room_1 s m #[Value.ref b] meth c (m_nc h') (m_ns h') :=
    ⟨hx, hb, hml, hr, hown, hlocks, hname, fun w hw => hts w (List.mem_filter.mp hw).1, hetab, hst, ⟨Nat.le_of_ble_eq_true rfl, Nat.le_of_ble_eq_true rfl, hnc, hns⟩, hWd⟩
  have hR : am_Rel (dC, dI) dA s.heap.size b L xs (fun _ => b) (am_h0 L xs) s.heap := by
    refine ⟨[], fun k q h => by simp [am_ws] at h, ⟨fun i j p q h => by simp [am_ws] at h, fun k q h => by simp [am_ws] at h⟩, List.nodup_nil, fun a => ?_, fun s k j c h => (by cases h), rfl, fun j => rfl, rfl, Nat.le_of_ble_eq_true rfl⟩
    constructor
    · intro h; cases h
    · rintro ⟨h1, h2⟩
      have h3 : a.2 < if a.1 = 1 then 2 else 0 := h1
      split at h3
      · next e => exact absurd (by rw [e]; rfl) h2
      · exact absurd h3 (Nat.not_lt_zero _)
  obtain ⟨-, S⟩ := s_L_law 15 (by decide) (am_h0 L xs) h' _ hlaw
  rw [lg_entry_eq]
  have hl := lv_entry ([Value.ref b]) (n := 7) (Nat.le_of_ble_eq_true rfl)
  generalize (lg_sl ([Value.ref b]) ++ List.replicate (7 - (lg_sl ([Value.ref b])).length) Slot.unset).toArray = ls at hl ⊢
  have K := S l (dC, dI) dA s.heap.size b L xs p e room_1 s m #[Value.ref b] below meth c (m_nc h') (m_ns h') (fun _ _ oc _ => oc = .returned (some (.int 1))) (fun _ _ _ => False) hC (fun _ => b) s.heap [] 0 0 ls hR va_S.rf
    (am_Ls0 (As := [.inr (.inr (some (1, 0)))]) hl (fun v hv => by
      simp only [List.mem_singleton] at hv
      subst hv
      exact Nat.le_of_ble_eq_true rfl)) (fun v hv => by cases hv) (by show 0 + (m_nc h' - 0) = m_nc h'; omega) (by show 0 + (m_ns h' - 0) = m_ns h'; omega)
    (fun μ' t e1 e2 e3 e4 => ⟨fun v ho _ => by cases ho; rfl, fun k ho => by cases ho⟩)
  intro T hT X
  obtain ⟨t, b1, o, b2, b3, b4⟩ := K T hT X
  refine ⟨t, b1, o, b2, b3, ?_⟩
  rcases b4 with ⟨g1, L9, ⟨g2, g3, g4⟩, g5⟩ | ⟨q, -, E, ce, L9, h9, -⟩
  · refine ⟨g1, g2, g3, ?_⟩
    obtain ⟨f1, f2, f3, f4, f5, f6⟩ := g4
    refine ⟨f1, f2, Nat.le_trans f3 (Nat.add_le_add_left hnc _), f4, Nat.le_trans f5 hns, fun a c9 hc9 => ?_⟩
    obtain ⟨c', z1, z2, z3, z4⟩ := f6 a c9 hc9
    refine ⟨c', z1, z2, z3, fun i _ => z4 i (fun hm => ?_)⟩
    exact absurd (g5 _ hm) (Nat.not_le.mpr (Array.getElem?_eq_some_iff.mp hc9).1)
  · exact h9.elim
set_option maxHeartbeats 4000000 in
theorem lw_walk (l : Launch) (hflags : l.flags = flags0) (b : Addr) (xs : List Int32) : MetFree l x (headSpec (Jvm.Cond.code x code maxLocals ret :: tables_1) room_1) (lw_P b xs) (fun _ _ _ _ _ => True) lw_Q := by
  refine MetFree.of_bodyS (code := code) (maxLocals := maxLocals) (ret := ret) (by decide) ?_ ?_
  · intro args s m h hn
    obtain ⟨meth, c, h1, h2, h3, h4, h5, h6, -, -⟩ := Cond.code_spec hn (atoms_spec (ws := Jvm.Cond.code x code maxLocals ret :: tables_1) h _ List.mem_cons_self)
    exact ⟨meth, c, h1, h2, h3, h4, h5, h6⟩
  · intro p e s m args below meth c s₁ B hml0 hP _
    obtain ⟨rfl, hx, hbd, hgv⟩ := hP
    obtain ⟨scr, harrAt, hlist, hof, hsmall⟩ := hx
    obtain ⟨hcb, hkn, -, -⟩ := State.arrayAt?_spec harrAt
    have hown : s.vm.findClass R_law = some m.cls := findClass_of_methodNamed B.named
    have hts0 : ∀ c ∈ (Jvm.Cond.code x code maxLocals ret :: tables_1), c.before #[Value.ref b] s = true := atoms_spec (ws := Jvm.Cond.code x code maxLocals ret :: tables_1) B.pre
    have hts : ∀ w ∈ lw_tbl, w.before #[Value.ref b] s = true := k2_hts_sels lw_privs (fun w hw => hts0 w (List.mem_cons_of_mem _ hw)) lw_privs_ok
    have hml : c.maxLocals = 7 := B.maxLocals_eq (hts0 _ List.mem_cons_self)
    have hetab : c.exceptionTable.toList = [] := by
      obtain ⟨meth9, c9, h1, h2, -, -, -, -, h7, -⟩ := Cond.code_spec B.named (hts0 _ List.mem_cons_self)
      cases Option.some.inj (h1.symm.trans B.method)
      cases Option.some.inj (h2.symm.trans (Stand.of_body B).code)
      rw [Array.isEmpty_iff.mp h7]
    have X₀ : Stand p l e room_1 s m #[Value.ref b] below meth c s₁ [] 0 0 := Stand.of_body B
    have hh0 : s₁.heap = s.heap := by rw [B.state]; rfl
    have hsz : scr.slots.size = xs.length := by rw [← Array.length_toList, hlist, List.length_map]
    have hval : ∀ j : Nat, j < xs.length → scr.slots[j]? = some (.int (xs.getD j 0)) := fun j hj => by
      rw [← Array.getElem?_toList, hlist]
      simp [hj]
    have hbl : b < s.heap.size := (Array.getElem?_eq_some_iff.mp hcb).1
    have hX : va_X b xs.length (fun j => xs.getD j 0) s s.heap := ⟨scr, hcb, hof, hkn, hsz, hval⟩
    have K : W p l e room_1 s m #[Value.ref b] below meth c s₁.heap [] 0 0 (lw_Z below #[Value.ref b] s) (entryFrame m ([Value.ref b] : List Value).toArray 7) := by
      rw [hh0]
      exact whole_start l hflags hbd ⟨B.exec, B.bytes, B.returns, hml, hown, hts, hX, hbl, B.notSynchronized, hgv, hetab, (name_of_methodNamed B.named B.method).1⟩
    obtain ⟨t, a1, o, b1, b2, b3⟩ := K s₁ rfl X₀
    exact ⟨t, o, a1, b1, b2, b3⟩
theorem lw_pre_spec {args : Array Value} {s : State} (h : (Jvm.Cond.and given_1 narrow_1).before args s = true) (hr : rest_1_c.before args s = true) : ∃ (b : Addr) (xs : List Int32), lw_P b xs args s := by
  have hs := flat_of_before _ h
  have hq := flat_of_before _ hr
  have hc : (Cond.count 1).before args s = true := hs _ (by decide +kernel)
  have harr : (Cond.arrayOf (.arg 0) .int).before args s = true := hs _ (by decide +kernel)
  have hle : (Cond.le (.length (.arg 0)) (.int 260)).before args s = true := hs _ (by decide +kernel)
  have hlen : (Cond.isInt (.length (.arg 0))).before args s = true := hq _ (by decide +kernel)
  have hall : (Cond.all (.arg 0) (.isInt (.elem (.arg 0) (.index 0)))).before args s = true := hq _ (by decide +kernel)
  obtain ⟨b, xs, hb, hx⟩ := State.ints_of_pre rfl harr hlen hall
  have hsm : xs.length < 2 ^ 31 := hx.choose_spec.2.2.2
  have hev : (Term.length (.arg 0)).eval args s none [] s = some (.int xs.length.toInt32) := hx.length_eval hb
  have hv := Cond.le_ints hev (show (Term.int 260).eval args s none [] s = some (.int 260) from rfl)
  have hd : xs.length.toInt32 ≤ 260 := by
    simpa [Cond.before, Cond.holds, hv] using hle
  have hN : xs.length ≤ 260 := (Int32.ofNat_le_ofNat hsm (by decide)).mp (show Int32.ofNat xs.length ≤ Int32.ofNat 260 from hd)
  exact ⟨b, xs, Cond.one_arg hc (show args[0]? = some (.ref b) from hb), hx, hN, h⟩
theorem lw_comes (l : Launch) (hflags : l.flags = flags0) : Comes l x (Jvm.Cond.code x code maxLocals ret :: tables_1) room_1 (fun tb e args s => Calls_1 tb e args s ∧ rest_1 tb e args s ∧ Pre_1 tb e args s)
    (fun _ _ args s o t => lw_Q args s o t) := by
  intro p e ha hc hk s m args below hf hfit hheap happ hpre
  obtain ⟨b, xs, hP⟩ := lw_pre_spec hpre.2.2 hpre.2.1
  obtain ⟨k, o, h1, h2, h3, hQ⟩ := lw_walk l hflags b xs p e ha hc hk s m args below hf ((Spec.applies_iff_loose hf).mp happ).1 hP trivial
  exact ⟨k, o, h1, h2, h3, hQ⟩
theorem lw_frame {s t : State} {o : Outcome} {args : Array Value} (h : Framed s o t [] 797181 6710082) :
    Framed s o t (fieldLocs frame_1_writes args s ++ arrayLocs frame_1_arrays args s ++ staticLocs frame_1_statics s) 797181 6710082 := h
theorem lw_limb (L : Cond) (hL : ∀ (args : Array Value) (s t : State), L.after args s (.returned (some (.int 1))) t = true) :
    ArmFor flags0 classFile x code maxLocals ret World_1 tables_1 room_1 Calls_1 rest_1 Pre_1
      (fun tb e a s o t => postC L tb e a s o t ∧ Framed s o t (fieldLocs frame_1_writes a s ++ arrayLocs frame_1_arrays a s ++ staticLocs frame_1_statics s) 797181 6710082) := by
  intro l hflags _ _ p e ha hc hk s m args below hf hfit hheap happ hpre
  obtain ⟨k, o, h1, h2, h3, rfl, hF⟩ := lw_comes l hflags p e ha hc hk s m args below hf hfit hheap happ hpre
  exact ⟨k, _, h1, h2, h3, hL args s _, lw_frame hF⟩
theorem i_vc : Claimed_1_1 ∧ Claimed_1_2 := ⟨lw_limb limb_1_1 (fun args s t => by simp [limb_1_1, Cond.after, Cond.holds, Cond.value]), lw_limb limb_1_2 (fun args s t => Cond.after_iff.mpr (by
  first | (rw [show limb_1_2 = Cond.eq .result (.int 1) from rfl, Cond.eq_ints (x := 1) (y := 1) rfl rfl]; simp; done) | (simp [limb_1_2, Cond.value, Term.eval]; done)))⟩
