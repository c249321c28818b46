section SimCalls
variable {M : am_M} {d pc : Nat} {lv : List (Option am_V)} {st rest : List am_V} {h : am_H} {r r1 : am_R}
def am_wd (l : List am_V) : Nat := match l with
  | [] => 0
  | .inr (.inl _) :: l => 2 + am_wd l
  | _ :: l => 1 + am_wd l
theorem am_wd_eq {μ : Nat × Nat → Nat} : ∀ {l : List am_V}, ((l.map (am_v μ)).map fun v => v.category).sum = am_wd l
  | [] => rfl
  | .inr (.inl y) :: l => by rw [List.map_cons, List.map_cons, List.sum_cons, am_wd_eq (l := l)]; rfl
  | .inl x :: l => by
    rw [List.map_cons, List.map_cons, List.sum_cons, am_wd_eq (l := l), am_cat1, am_wd]
    intro y hy; cases hy
  | .inr (.inr o) :: l => by
    rw [List.map_cons, List.map_cons, List.sum_cons, am_wd_eq (l := l), am_cat1r, am_wd]
    intro y hy; cases hy
/-- what the tables say of a method that is called: kd 0 static, 1 a constructor, 2 by the receiver -/
def am_Cal (M1 : am_M) (n kd : Nat) : Prop := am_cw M1 ∈ am_T ∧ Cond.initialized M1.1.cls ∈ am_T ∧ (kd = 0 → Cond.static M1.1 ∈ am_T) ∧ (kd ≠ 0 → Cond.instanceMethod M1.1 ∈ am_T) ∧ (kd = 1 → M1.1.name = "<init>") ∧ (kd = 2 → Cond.selects M1.1.cls M1.1 M1.1 ∈ am_T) ∧
  (M1.1.cls ≠ "java/lang/invoke/MethodHandle" ∧ M1.1.cls ≠ "java/lang/invoke/VarHandle") ∧ (parseMethodDescriptor M1.1.desc).map (fun d => d.parameters.length) = some n ∧ M1.2.2.1 ≤ 17
theorem am_hws {M1 : am_M} {n kd : Nat} (hc : am_Cal M1 n kd) {args : Array Value} {s : State} (ht : ∀ w ∈ am_T, w.before args s = true) : ∀ w ∈ am_w M1, ∀ (a' : Array Value) (U : State), s.WarmedH U.vm → w.before a' U = true := by
  intro w hw a' U hW
  have hm : w ∈ am_T := by
    rcases List.mem_cons.mp hw with e | e
    · rw [e]; exact hc.1
    · exact e
  exact am_gw_warm (List.mem_filter.mp hm).2 hW (ht w hm)
theorem am_len {y : MethodName} {n : Nat} (h : (parseMethodDescriptor y.desc).map (fun d => d.parameters.length) = some n) : ∀ sig, parseMethodDescriptor y.desc = some sig → n = sig.parameters.length := fun sig e => by
  rw [e] at h
  exact (Option.some.inj h).symm
theorem am_PcU {l : Launch} {D : va_G} {dA : Nat → ClassId} {base b n : Nat} {xs : Nat → Int32} {p : Program} {R : Room} {s : State} {m : MethodId} {args : Array Value} {meth : Method} {c : Code} {mc ms : Nat} {μ : Nat × Nat → Nat} {H : Heap} {locs : List Loc} {As : List am_V}
    (C : am_Cx l D dA base b n xs M d p R s m args meth c mc ms) (hR : am_Rel D dA base b n xs μ h H) (hS : va_S (fun q : Nat => base ≤ q) s.heap H locs) : ∀ U : State, U.heap = H → s.WarmedH U.vm → am_Pc D dA base b n xs μ h As (As.map (am_v μ)).toArray U := fun U hU hW =>
  ⟨rfl, by rw [hU]; exact (C.2.2.2.2.2.2.2.2.2.2.2.kept hS.1 hS.2.1).moved hW.alike, by rw [hU]; exact hR⟩
theorem sim_static {y : MethodName} {bytes : ByteArray} {nL1 ix i n : Nat} {ret1 : Option FieldType} {As : List am_V} (d1 : Nat) (d0 : decode M.2.1 pc = .ok (.invokestatic ix, 3)) (con : am_Con (y, bytes, nL1, ret1, []) d1 As h r1) (hc : am_Cal (y, bytes, nL1, ret1, []) n 0) (wl : lw_tbl[i]? = some (.methodLink M.1.cls ix y)) (hst : st = As.reverse ++ rest) (hn : As.length = n) (hd : d1 + 1 ≤ d) (hw : am_wd rest ≤ 8)
    (hnone : r1 = none → r = none) (hret : ∀ h1 v, r1 = some (h1, .inl v) → Sim M d (pc + 3) lv (v.toList ++ rest) h1 r) (hexc : ∀ h1 k, r1 = some (h1, .inr k) → SimX M d pc lv h1 k r) : Sim M d pc lv st h r := by
  subst hst
  refine sim_core (M1 := M) (rest := rest) (fun c w hw => c w (List.mem_append_right _ hw)) (fun h1 o1 e => (con h1 o1 e).1) hnone hret hexc ?_
  intro hrn h1 o1 e1 l D dA base b n0 xs p e R s m args below meth c mc ms C μ H locs cells slots ls a1 a2 a3 a4 a5 a6
  have hAs : am_cls h As := fun w hw => a4 w (List.mem_append_left _ (List.mem_reverse.mpr hw))
  have hts := C.2.2.2.2.2.2.2.1
  have hRm := C.2.2.2.2.2.2.2.2.2.2.1
  refine ⟨(As.map (am_v μ)).toArray, vx_runS (g := F0 m pc ls ((As.reverse ++ rest).map (am_v μ))) (As := As.map (am_v μ)) (n := n) (Ts := am_T) ⟨C.1, C.2.1, C.2.2.1, C.2.2.2.2.1, hts⟩ ((con h1 o1 e1).2 hAs l D dA base b n0 xs μ C.2.2.2.2.2.2.2.2.2.1)
    ⟨⟨rfl, rfl, Nat.le_trans hd hRm.1, Nat.le_trans (by have := hc.2.2.2.2.2.2.2.2; show 8 + (nL1 + 11) + 36 * d1 ≤ 36 * d; have h9 : nL1 ≤ 17 := this; omega) hRm.2.1, am_hws hc hts, List.mem_cons_self, hts _ hc.1, hts _ hc.2.1, hc.2.2.2.2.2.2.1, am_len hc.2.2.2.2.2.2.2.1, am_Tw hts wl rfl⟩, hts _ (hc.2.2.1 rfl)⟩
    ⟨am_Pc.blind, am_PcU C a1 a2⟩ rfl (by rw [List.length_map]; exact hn) a3.1.1 (by rw [List.map_append, List.map_reverse]) (lv_room (by rw [am_wd_eq]; exact hw)) d0 ⟨Nat.le_trans a5 hRm.2.2.1, Nat.le_trans a6 hRm.2.2.2⟩⟩
theorem sim_staticX {y : MethodName} {bytes : ByteArray} {nL1 ix i n : Nat} {ret1 : Option FieldType} {x0 : Nat × Nat × Nat × Nat} {hh : List (Nat × Nat × Nat × Nat)} {As : List am_V} (d1 : Nat) (d0 : decode M.2.1 pc = .ok (.invokestatic ix, 3)) (con : am_Con (y, bytes, nL1, ret1, x0 :: hh) d1 As h r1) (hc : am_Cal (y, bytes, nL1, ret1, x0 :: hh) n 0) (wl : lw_tbl[i]? = some (.methodLink M.1.cls ix y)) (hst : st = As.reverse ++ rest) (hn : As.length = n) (hd : d1 + 1 ≤ d) (hw : am_wd rest ≤ 8)
    (hnone : r1 = none → r = none) (hret : ∀ h1 v, r1 = some (h1, .inl v) → Sim M d (pc + 3) lv (v.toList ++ rest) h1 r) (hexc : ∀ h1 k, r1 = some (h1, .inr k) → SimX M d pc lv h1 k r) : Sim M d pc lv st h r := by
  subst hst
  refine sim_core (M1 := M) (rest := rest) (fun c w hw => c w (List.mem_append_right _ hw)) (fun h1 o1 e => (con h1 o1 e).1) hnone hret hexc ?_
  intro hrn h1 o1 e1 l D dA base b n0 xs p e R s m args below meth c mc ms C μ H locs cells slots ls a1 a2 a3 a4 a5 a6
  have hAs : am_cls h As := fun w hw => a4 w (List.mem_append_left _ (List.mem_reverse.mpr hw))
  have hts := C.2.2.2.2.2.2.2.1
  have hRm := C.2.2.2.2.2.2.2.2.2.2.1
  refine ⟨(As.map (am_v μ)).toArray, vx_runSX (hh := x0 :: hh) (g := F0 m pc ls ((As.reverse ++ rest).map (am_v μ))) (As := As.map (am_v μ)) (n := n) (Ts := am_T) ⟨C.1, C.2.1, C.2.2.1, C.2.2.2.2.1, hts⟩ ((con h1 o1 e1).2 hAs l D dA base b n0 xs μ C.2.2.2.2.2.2.2.2.2.1)
    ⟨⟨rfl, rfl, Nat.le_trans hd hRm.1, Nat.le_trans (by have := hc.2.2.2.2.2.2.2.2; show 8 + (nL1 + 11) + 36 * d1 ≤ 36 * d; have h9 : nL1 ≤ 17 := this; omega) hRm.2.1, am_hws hc hts, List.mem_cons_self⟩, hts _ hc.1, hts _ hc.2.1, hc.2.2.2.2.2.2.1, am_len hc.2.2.2.2.2.2.2.1, am_Tw hts wl rfl, hts _ (hc.2.2.1 rfl)⟩
    ⟨am_Pc.blind, am_PcU C a1 a2⟩ rfl (by rw [List.length_map]; exact hn) a3.1.1 (by rw [List.map_append, List.map_reverse]) (lv_room (by rw [am_wd_eq]; exact hw)) d0 ⟨Nat.le_trans a5 hRm.2.2.1, Nat.le_trans a6 hRm.2.2.2⟩⟩
theorem am_recv {D : va_G} {dA : Nat → ClassId} {base b n : Nat} {xs : Nat → Int32} {μ : Nat × Nat → Nat} {H : Heap} {s : State} {a : Nat × Nat} {ci : Nat} {C : String} {T : u_T} {N : Nat} (hK : va_K D vwCl (am_tys dA) s) (hR : am_Rel D dA base b n xs μ h H) (hcl : vwCl[ci]? = some (C, T, N)) (ho : am_isO a.1 ci = true) (ha : a.2 < m_nx h a.1) : ∃ cellB : Cell, H[μ a]? = some cellB ∧ cellB.vm.isStatics = false ∧ s.vm.findClass C = some cellB.cls := by
  obtain ⟨L, b1, b2, b3, b4, b5⟩ := hR
  obtain ⟨i, hi⟩ := List.getElem?_of_mem ((b4 a).mpr ⟨ha, am_kd0 ho⟩)
  have h1 := am_ws_at (dA := dA) (μ := μ) (h := h) hi
  rw [am_ent0 ho] at h1
  exact va_recv hK b1 hcl h1
theorem sim_virt {y : MethodName} {bytes : ByteArray} {nL1 ix i n ci : Nat} {ret1 : Option FieldType} {As : List am_V} {a : Nat × Nat} {C : String} {T : u_T} {N : Nat} (d1 : Nat) (ho : am_isO a.1 ci = true) (d0 : decode M.2.1 pc = .ok (.invokevirtual ix, 3)) (con : am_Con (y, bytes, nL1, ret1, []) d1 (.inr (.inr (some a)) :: As) h r1) (hc : am_Cal (y, bytes, nL1, ret1, []) n 2) (hcl : vwCl[ci]? = some (C, T, N)) (hyc : y.cls = C) (wl : lw_tbl[i]? = some (.methodLink M.1.cls ix y)) (hst : st = As.reverse ++ .inr (.inr (some a)) :: rest) (hn : As.length = n) (hd : d1 + 1 ≤ d) (hw : am_wd rest ≤ 8)
    (hnone : r1 = none → r = none) (hret : ∀ h1 v, r1 = some (h1, .inl v) → Sim M d (pc + 3) lv (v.toList ++ rest) h1 r) (hexc : ∀ h1 k, r1 = some (h1, .inr k) → SimX M d pc lv h1 k r) : Sim M d pc lv st h r := by
  subst hst
  refine sim_core (M1 := M) (rest := rest) (fun c w hw => c w (List.mem_append_right _ (List.mem_cons_of_mem _ hw))) (fun h1 o1 e => (con h1 o1 e).1) hnone hret hexc ?_
  intro hrn h1 o1 e1 l D dA base b n0 xs p e R s m args below meth c mc ms C9 μ H locs cells slots ls a1 a2 a3 a4 a5 a6
  have hra : am_clo h (.inr (.inr (some a))) := a4 _ (List.mem_append_right _ List.mem_cons_self)
  have hAs : am_cls h (.inr (.inr (some a)) :: As) := am_cls.cons hra (fun w hw => a4 w (List.mem_append_left _ (List.mem_reverse.mpr hw)))
  have hts := C9.2.2.2.2.2.2.2.1
  have hRm := C9.2.2.2.2.2.2.2.2.2.2.1
  have hsel := hts _ (hc.2.2.2.2.2.1 rfl)
  have hsel : (Cond.selects C y y).before args s = true := hyc ▸ hsel
  refine ⟨(((.inr (.inr (some a)) : am_V) :: As).map (am_v μ)).toArray, vx_runV (C := C) (g := F0 m pc ls ((As.reverse ++ .inr (.inr (some a)) :: rest).map (am_v μ))) (As := As.map (am_v μ)) (b := μ a) (n := n) (Ts := am_T) ⟨C9.1, C9.2.1, C9.2.2.1, C9.2.2.2.2.1, hts⟩ ((con h1 o1 e1).2 hAs l D dA base b n0 xs μ C9.2.2.2.2.2.2.2.2.2.1)
    ⟨⟨rfl, rfl, Nat.le_trans hd hRm.1, Nat.le_trans (by have := hc.2.2.2.2.2.2.2.2; show 8 + (nL1 + 11) + 36 * d1 ≤ 36 * d; have h9 : nL1 ≤ 17 := this; omega) hRm.2.1, am_hws hc hts, List.mem_cons_self, hts _ hc.1, hts _ hc.2.1, hc.2.2.2.2.2.2.1, am_len hc.2.2.2.2.2.2.2.1, am_Tw hts wl rfl⟩, hts _ (hc.2.2.2.1 (by decide)), hsel⟩
    ⟨am_Pc.blind, am_recv C9.2.2.2.2.2.2.2.2.2.2.2.1 a1 hcl ho hra, am_PcU (As := .inr (.inr (some a)) :: As) C9 a1 a2⟩ rfl (by rw [List.length_map]; exact hn) a3.1.1 (by rw [List.map_append, List.map_reverse]; rfl) (lv_room (by rw [am_wd_eq]; exact hw)) d0 ⟨Nat.le_trans a5 hRm.2.2.1, Nat.le_trans a6 hRm.2.2.2⟩⟩
/-- calls of what cannot throw -/
theorem am_noX {D : va_G} {dA : Nat → ClassId} {base b n : Nat} {xs : Nat → Int32} {μ : Nat × Nat → Nat} {h h' : am_H} {v : Option am_V} : ∀ E st t, ¬ am_XC D dA base b n xs μ h h' (.inl v) E st t := fun E st t ⟨k, μ', e, _⟩ => by cases e
theorem sim_ctor {y : MethodName} {bytes : ByteArray} {nL1 ix i n : Nat} {As : List am_V} {a : Nat × Nat} (d1 : Nat) (d0 : decode M.2.1 pc = .ok (.invokespecial ix, 3)) (con : am_Con (y, bytes, nL1, none, []) d1 (.inr (.inr (some a)) :: As) h r1) (hc : am_Cal (y, bytes, nL1, none, []) n 1) (wl : lw_tbl[i]? = some (.methodLink M.1.cls ix y)) (hst : st = As.reverse ++ .inr (.inr (some a)) :: rest) (hn : As.length = n) (hd : d1 + 1 ≤ d) (hw : am_wd rest ≤ 8)
    (hnone : r1 = none → r = none) (hnx : ∀ h1 k, r1 = some (h1, .inr k) → r = none) (hret : ∀ h1 v, r1 = some (h1, .inl v) → Sim M d (pc + 3) lv (v.toList ++ rest) h1 r) : Sim M d pc lv st h r := by
  subst hst
  refine sim_core (M1 := M) (rest := rest) (fun c w hw => c w (List.mem_append_right _ (List.mem_cons_of_mem _ hw))) (fun h1 o1 e => (con h1 o1 e).1) hnone hret (fun h1 k e => by rw [hnx h1 k e]; exact fun h' o e => by cases e) ?_
  intro hrn h1 o1 e1 l D dA base b n0 xs p e R s m args below meth c mc ms C9 μ H locs cells slots ls a1 a2 a3 a4 a5 a6
  have hra : am_clo h (.inr (.inr (some a))) := a4 _ (List.mem_append_right _ List.mem_cons_self)
  have hAs : am_cls h (.inr (.inr (some a)) :: As) := am_cls.cons hra (fun w hw => a4 w (List.mem_append_left _ (List.mem_reverse.mpr hw)))
  have hts := C9.2.2.2.2.2.2.2.1
  have hRm := C9.2.2.2.2.2.2.2.2.2.2.1
  rcases o1 with v | k
  · refine ⟨(((.inr (.inr (some a)) : am_V) :: As).map (am_v μ)).toArray, am_run_of (va_runI (g := F0 m pc ls ((As.reverse ++ .inr (.inr (some a)) :: rest).map (am_v μ))) (As := As.map (am_v μ)) (b := μ a) (n := n) (Ts := am_T) ⟨C9.1, C9.2.1, C9.2.2.1, C9.2.2.2.2.1, hts⟩ (am_met_of ((con h1 _ e1).2 hAs l D dA base b n0 xs μ C9.2.2.2.2.2.2.2.2.2.1) am_noX)
      ⟨⟨rfl, rfl, Nat.le_trans hd hRm.1, Nat.le_trans (by have := hc.2.2.2.2.2.2.2.2; show 8 + (nL1 + 11) + 36 * d1 ≤ 36 * d; have h9 : nL1 ≤ 17 := this; omega) hRm.2.1, am_hws hc hts, List.mem_cons_self, hts _ hc.1, hts _ hc.2.1, hc.2.2.2.2.2.2.1, am_len hc.2.2.2.2.2.2.2.1, am_Tw hts wl rfl⟩, hc.2.2.2.2.1 rfl, hts _ (hc.2.2.2.1 (by decide))⟩
      ⟨am_Pc.blind, am_PcU (As := .inr (.inr (some a)) :: As) C9 a1 a2⟩ rfl (by rw [List.length_map]; exact hn) a3.1.1 (by rw [List.map_append, List.map_reverse]; rfl) (lv_room (by rw [am_wd_eq]; exact hw)) d0 ⟨Nat.le_trans a5 hRm.2.2.1, Nat.le_trans a6 hRm.2.2.2⟩)⟩
  · exact absurd (hnx h1 k e1) hrn
theorem sim_ctorN {y : MethodName} {host : String} {bytes : ByteArray} {nL1 ix i n : Nat} {As : List am_V} {a : Nat × Nat} (d1 : Nat) (d0 : decode M.2.1 pc = .ok (.invokespecial ix, 3)) (con : am_Con (y, bytes, nL1, none, []) d1 (.inr (.inr (some a)) :: As) h r1) (hc : am_Cal (y, bytes, nL1, none, []) n 1) (wl : lw_tbl[i]? = some (.methodLinkNest M.1.cls ix y host)) (hst : st = As.reverse ++ .inr (.inr (some a)) :: rest) (hn : As.length = n) (hd : d1 + 1 ≤ d) (hw : am_wd rest ≤ 8)
    (hnone : r1 = none → r = none) (hnx : ∀ h1 k, r1 = some (h1, .inr k) → r = none) (hret : ∀ h1 v, r1 = some (h1, .inl v) → Sim M d (pc + 3) lv (v.toList ++ rest) h1 r) : Sim M d pc lv st h r := by
  subst hst
  refine sim_core (M1 := M) (rest := rest) (fun c w hw => c w (List.mem_append_right _ (List.mem_cons_of_mem _ hw))) (fun h1 o1 e => (con h1 o1 e).1) hnone hret (fun h1 k e => by rw [hnx h1 k e]; exact fun h' o e => by cases e) ?_
  intro hrn h1 o1 e1 l D dA base b n0 xs p e R s m args below meth c mc ms C9 μ H locs cells slots ls a1 a2 a3 a4 a5 a6
  have hra : am_clo h (.inr (.inr (some a))) := a4 _ (List.mem_append_right _ List.mem_cons_self)
  have hAs : am_cls h (.inr (.inr (some a)) :: As) := am_cls.cons hra (fun w hw => a4 w (List.mem_append_left _ (List.mem_reverse.mpr hw)))
  have hts := C9.2.2.2.2.2.2.2.1
  have hRm := C9.2.2.2.2.2.2.2.2.2.2.1
  rcases o1 with v | k
  · refine ⟨(((.inr (.inr (some a)) : am_V) :: As).map (am_v μ)).toArray, am_run_of (va_runIN (g := F0 m pc ls ((As.reverse ++ .inr (.inr (some a)) :: rest).map (am_v μ))) (As := As.map (am_v μ)) (b := μ a) (n := n) (Ts := am_T) ⟨C9.1, C9.2.1, C9.2.2.1, C9.2.2.2.2.1, hts⟩ (am_met_of ((con h1 _ e1).2 hAs l D dA base b n0 xs μ C9.2.2.2.2.2.2.2.2.2.1) am_noX)
      ⟨⟨⟨rfl, rfl, Nat.le_trans hd hRm.1, Nat.le_trans (by have := hc.2.2.2.2.2.2.2.2; show 8 + (nL1 + 11) + 36 * d1 ≤ 36 * d; have h9 : nL1 ≤ 17 := this; omega) hRm.2.1, am_hws hc hts, List.mem_cons_self⟩, hts _ hc.1, hts _ hc.2.1, hc.2.2.2.2.2.2.1, am_len hc.2.2.2.2.2.2.2.1, am_Tw hts wl rfl⟩, hc.2.2.2.2.1 rfl, hts _ (hc.2.2.2.1 (by decide))⟩
      ⟨am_Pc.blind, am_PcU (As := .inr (.inr (some a)) :: As) C9 a1 a2⟩ rfl (by rw [List.length_map]; exact hn) a3.1.1 (by rw [List.map_append, List.map_reverse]; rfl) (lv_room (by rw [am_wd_eq]; exact hw)) d0 ⟨Nat.le_trans a5 hRm.2.2.1, Nat.le_trans a6 hRm.2.2.2⟩)⟩
  · exact absurd (hnx h1 k e1) hrn
theorem sim_staticN {y : MethodName} {host : String} {bytes : ByteArray} {nL1 ix i n : Nat} {ret1 : Option FieldType} {As : List am_V} (d1 : Nat) (d0 : decode M.2.1 pc = .ok (.invokestatic ix, 3)) (con : am_Con (y, bytes, nL1, ret1, []) d1 As h r1) (hc : am_Cal (y, bytes, nL1, ret1, []) n 0) (wl : lw_tbl[i]? = some (.methodLinkNest M.1.cls ix y host)) (hst : st = As.reverse ++ rest) (hn : As.length = n) (hd : d1 + 1 ≤ d) (hw : am_wd rest ≤ 8)
    (hnone : r1 = none → r = none) (hnx : ∀ h1 k, r1 = some (h1, .inr k) → r = none) (hret : ∀ h1 v, r1 = some (h1, .inl v) → Sim M d (pc + 3) lv (v.toList ++ rest) h1 r) : Sim M d pc lv st h r := by
  subst hst
  refine sim_core (M1 := M) (rest := rest) (fun c w hw => c w (List.mem_append_right _ hw)) (fun h1 o1 e => (con h1 o1 e).1) hnone hret (fun h1 k e => by rw [hnx h1 k e]; exact fun h' o e => by cases e) ?_
  intro hrn h1 o1 e1 l D dA base b n0 xs p e R s m args below meth c mc ms C9 μ H locs cells slots ls a1 a2 a3 a4 a5 a6
  have hAs : am_cls h As := fun w hw => a4 w (List.mem_append_left _ (List.mem_reverse.mpr hw))
  have hts := C9.2.2.2.2.2.2.2.1
  have hRm := C9.2.2.2.2.2.2.2.2.2.2.1
  rcases o1 with v | k
  · refine ⟨(As.map (am_v μ)).toArray, am_run_of (va_runSN (g := F0 m pc ls ((As.reverse ++ rest).map (am_v μ))) (As := As.map (am_v μ)) (n := n) (Ts := am_T) ⟨C9.1, C9.2.1, C9.2.2.1, C9.2.2.2.2.1, hts⟩ (am_met_of ((con h1 _ e1).2 hAs l D dA base b n0 xs μ C9.2.2.2.2.2.2.2.2.2.1) am_noX)
      ⟨⟨⟨rfl, rfl, Nat.le_trans hd hRm.1, Nat.le_trans (by have := hc.2.2.2.2.2.2.2.2; show 8 + (nL1 + 11) + 36 * d1 ≤ 36 * d; have h9 : nL1 ≤ 17 := this; omega) hRm.2.1, am_hws hc hts, List.mem_cons_self⟩, hts _ hc.1, hts _ hc.2.1, hc.2.2.2.2.2.2.1, am_len hc.2.2.2.2.2.2.2.1, am_Tw hts wl rfl⟩, hts _ (hc.2.2.1 rfl), trivial⟩
      ⟨am_Pc.blind, am_PcU C9 a1 a2⟩ rfl (by rw [List.length_map]; exact hn) a3.1.1 (by rw [List.map_append, List.map_reverse]) (lv_room (by rw [am_wd_eq]; exact hw)) d0 ⟨Nat.le_trans a5 hRm.2.2.1, Nat.le_trans a6 hRm.2.2.2⟩)⟩
  · exact absurd (hnx h1 k e1) hrn
/-- Object's own constructor -/
theorem sim_obj {ix i : Nat} {a : Nat × Nat} (d0 : decode M.2.1 pc = .ok (.invokespecial ix, 3)) (wl : lw_tbl[i]? = some (.methodLink M.1.cls ix objectInit)) (wi : Cond.instanceMethod objectInit ∈ am_T) (wc : Cond.code objectInit ⟨#[0xb1]⟩ 1 none ∈ am_T) (hd : 1 ≤ d) (hw : am_wd st ≤ 8) (k : Sim M d (pc + 3) lv st h r) : Sim M d pc lv (.inr (.inr (some a)) :: st) h r := by
  intro h' o e
  obtain ⟨q1, q2⟩ := k h' o e
  refine ⟨q1, fun l D dA base b n xs p e9 R s m args below meth c mc ms Qc XC C μ H locs cells slots ls a1 a2 a3 a4 a5 a6 a7 => ?_⟩
  have hts := C.2.2.2.2.2.2.2.1
  have hRm := C.2.2.2.2.2.2.2.2.2.2.1
  have hr := lv_room (m := m) (pc := pc) (ls := ls) (rest := am_v μ (.inr (.inr (some a))) :: st.map (am_v μ)) (st := st.map (am_v μ)) (by rw [am_wd_eq]; exact hw)
  have hl9 : 36 * d ≤ R.locals := hRm.2.1
  refine W.objInit C.1 C.2.1 C.2.2.2.2.1 (am_Tw hts wl rfl) (hts _ wi) (hts _ wc) rfl (by rw [C.2.2.1]; exact a3.1.1) rfl d0 (Nat.le_trans hd hRm.1) (Nat.le_trans (Nat.add_le_add_right hr 12) (by omega)) ?_
  exact q2 l D dA base b n xs p e9 R s m args below meth c mc ms Qc XC C μ H locs cells slots ls a1 a2 a3 a4.tail a5 a6 a7
theorem sim_copy {ix i1 i2 i3 i4 : Nat} {a0 a1 : Nat × Nat} {sp dp n : Int32} (d0 : decode M.2.1 pc = .ok (.invokestatic ix, 3)) (w1 : lw_tbl[i1]? = some (.methodLink M.1.cls ix arraycopyName)) (w2 : lw_tbl[i2]? = some (.native arraycopyName)) (w3 : lw_tbl[i3]? = some (.static arraycopyName)) (w4 : lw_tbl[i4]? = some (.initialized "java/lang/System")) (hd : 2 ≤ d) (hw : am_wd st ≤ 8)
    (k : Sim M d (pc + 3) lv st (m_cp h a0.1 a0.2 sp.toNatClampNeg a1.1 a1.2 dp.toNatClampNeg n.toNatClampNeg) r) : Sim M d pc lv (.inl n :: .inl dp :: .inr (.inr (some a1)) :: .inl sp :: .inr (.inr (some a0)) :: st) h
      (m_ck (am_isA a0.1 0 && am_isA a1.1 0 && decide (¬ sp < 0 ∧ ¬ dp < 0 ∧ ¬ n < 0 ∧ sp.toNatClampNeg + n.toNatClampNeg ≤ am_ln a0.1 ∧ dp.toNatClampNeg + n.toNatClampNeg ≤ am_ln a1.1)) r) :=
  sim_ck fun ho => by
    obtain ⟨o1, o2⟩ := Bool.and_eq_true_iff.mp ho
    obtain ⟨o3, o4⟩ := Bool.and_eq_true_iff.mp o1
    obtain ⟨h1, h2, h3, h4, h5⟩ := of_decide_eq_true o2
    intro h' o e
    obtain ⟨q1, q2⟩ := k h' o e
    have hle := am_le_cp h a0.1 a0.2 sp.toNatClampNeg a1.1 a1.2 dp.toNatClampNeg n.toNatClampNeg
    refine ⟨hle.trans q1, fun l D dA base b n9 xs p e9 R s m args below meth c mc ms Qc XC C μ H locs cells slots ls a1' a2 a3 a4 a5 a6 a7 => ?_⟩
    obtain ⟨L, b1, b2, b3, b4, b5, b6, b7, b8, b9⟩ := id a1'
    have hts := C.2.2.2.2.2.2.2.1
    have hRm := C.2.2.2.2.2.2.2.2.2.2.1
    obtain ⟨j0, hj0⟩ := List.getElem?_of_mem ((b4 a0).mpr ⟨a4 (.inr (.inr (some a0))) (by simp), am_kd1 o3⟩)
    obtain ⟨j1, hj1⟩ := List.getElem?_of_mem ((b4 a1).mpr ⟨a4 (.inr (.inr (some a1))) (by simp), am_kd1 o4⟩)
    have e0 := am_ws_at (dA := dA) (μ := μ) (h := h) hj0
    have e1 := am_ws_at (dA := dA) (μ := μ) (h := h) hj1
    rw [am_ent1 o3] at e0
    rw [am_ent1 o4] at e1
    have hl9 : 36 * d ≤ R.locals := hRm.2.1
    refine va_copyi C.1 C.2.1 (by rw [C.2.2.1]; exact a3.1.1.symm) C.2.2.2.2.1 (am_Tw hts w1 rfl) (am_Tw hts w2 rfl) (am_Tw hts w3 rfl) (am_Tw hts w4 rfl) C.2.2.2.2.2.2.2.2.2.2.2.1 b1 b2 a2 j0 j1 0 0 e0 e1 rfl rfl rfl h1 h2 h3 h4 h5 (fun i _ => rfl) (Nat.le_trans (by omega) hRm.1) (by
      rw [am_wd_eq]
      have h9 : nativeFrameWords "java/lang/System" "arraycopy" 5 ≤ 50 := by decide +kernel
      omega) d0 (fun H1 locs1 c1 c2 c3 => ?_)
    have hf : va_cpy (fun j => m_gi h a0.1 a0.2 j) (fun j => m_gi h a1.1 a1.2 j) sp.toNatClampNeg dp.toNatClampNeg n.toNatClampNeg = fun j => m_gi (m_cp h a0.1 a0.2 sp.toNatClampNeg a1.1 a1.2 dp.toNatClampNeg n.toNatClampNeg) a1.1 a1.2 j := by
      funext z
      show _ = (if a1.1 = a1.1 ∧ a1.2 = a1.2 then _ else _)
      rw [if_pos ⟨rfl, rfl⟩]; rfl
    have hent : am_ent dA μ (m_cp h a0.1 a0.2 sp.toNatClampNeg a1.1 a1.2 dp.toNatClampNeg n.toNatClampNeg) a1 = .inl (dA 0, (am_ln a1.1, .inl (va_cpy (fun j => m_gi h a0.1 a0.2 j) (fun j => m_gi h a1.1 a1.2 j) sp.toNatClampNeg dp.toNatClampNeg n.toNatClampNeg))) := by
      rw [am_ent1 o4, hf]
    have hset := am_ws_set (dA := dA) (μ := μ) (h := h) (h1 := m_cp h a0.1 a0.2 sp.toNatClampNeg a1.1 a1.2 dp.toNatClampNeg n.toNatClampNeg) hj1 b3 (fun a' hne => am_ent_eq (fun j => by
      show (if a'.1 = a1.1 ∧ a'.2 = a1.2 then _ else _) = _
      rw [if_neg (am_pr_ne hne)]; rfl) (fun _ => rfl) (fun _ => rfl))
    rw [← hent, hset] at c1 c2
    have g1 : ∀ k j, m_gi (m_cp h a0.1 a0.2 sp.toNatClampNeg a1.1 a1.2 dp.toNatClampNeg n.toNatClampNeg) 1 k j = m_gi h 1 k j := fun k j => by
      show (if 1 = a1.1 ∧ k = a1.2 then _ else _) = _
      rw [if_neg (fun z => am_1 (am_kd1 o4) z.1)]; rfl
    exact q2 l D dA base b n9 xs p e9 R s m args below meth c mc ms Qc XC C μ H1 locs1 cells slots ls ⟨L, c1, c2, b3, b4, b5, b6, fun j => by rw [g1]; exact b7 j, by rw [g1]; exact b8, b9⟩ c3 (a3.move (am_ext.refl μ h) hle) (a4.tail.tail.tail.tail.tail.mono hle) a5 a6 a7
/-! throwing and catching -/
def am_up9 : List String := ["java/lang/RuntimeException", "java/lang/Exception"]
theorem am_str {own tx : String} {k : Nat} {args : Array Value} {s : State} (h : (Cond.stringRef own k tx).before args s = true) : ∃ a, vk_R own k tx a s := by
  cases hc : s.vm.findClass own with
  | none => simp [Cond.before, Cond.holds, Cond.value, hc] at h
  | some cc =>
    have h1 : (Cond.stringRef own k tx).before #[] s = true := h
    obtain ⟨k1, cf, i, a, -, -, -, -, -, he⟩ := Cond.stringRef_spec hc h1
    exact ⟨a, h1, he⟩
theorem sim_throw {y : MethodName} {cc : ByteArray} {nL : Nat} {ret : Option FieldType} {ik is ic i1 i2 i3 : Nat} {tx : String} (kx : Nat) (hkx : kx < 3) (d0 : decode cc pc = .ok (.new ik, 3)) (d3 : decode cc (pc + 3) = .ok (.dup, 1)) (d4 : decode cc (pc + 4) = .ok (.ldc is, 2)) (d6 : decode cc (pc + 6) = .ok (.invokespecial ic, 3)) (d9 : decode cc (pc + 9) = .ok (.athrow, 1))
    (w1 : lw_tbl[i1]? = some (.classLink y.cls ik (am_xn kx))) (w2 : lw_tbl[i2]? = some (.initialized (am_xn kx))) (w3 : lw_tbl[i3]? = some (.stringRef y.cls is tx)) (hat : ∀ w ∈ vx_atS y.cls ic (am_xn kx) am_up9, w ∈ am_T) (hgood : ∀ w ∈ Cond.classLink y.cls ik (am_xn kx) :: Cond.initialized (am_xn kx) :: vx_atS y.cls ic (am_xn kx) am_up9, vx_ot w = true)
    (hd : 6 ≤ d) (hw : am_wd st ≤ 8) : Sim (y, cc, nL, ret, []) d pc lv st h (m_ex h kx) := by
  intro h' o e
  cases e
  have hle := am_le_th h
  refine ⟨hle, fun l D dA base b n xs p e9 R s m args below meth c mc ms Qc XC C μ H locs cells slots ls a1 a2 a3 a4 a5 a6 a7 => ?_⟩
  have hts := C.2.2.2.2.2.2.2.1
  have hRm := C.2.2.2.2.2.2.2.2.2.2.1
  have hWd := C.2.2.2.2.2.2.2.2.2.2.2
  have hl9 : 36 * d ≤ R.locals := hRm.2.1
  have hc9 : m_nc (m_th h) = m_nc h + 1 := rfl
  have hs9 : m_ns (m_th h) = m_ns h + 6 := rfl
  obtain ⟨sa, hsa⟩ := am_str (am_Tw hts w3 rfl)
  have h9 : c.exceptionTable.toList = [] := C.2.2.2.2.2.2.2.2.1
  refine vx_throwS (names := am_up9) (sa := sa) (A := fun q : Nat => base ≤ q) C.1 C.2.1 C.2.2.2.2.2.2.2.2.2.1 C.2.2.2.2.1 (by
    rcases (show kx = 0 ∨ kx = 1 ∨ kx = 2 by omega) with q | q | q <;> subst q <;> decide +kernel) (by decide +kernel) (am_Tw hts w1 rfl) (am_Tw hts w2 rfl) hsa (fun w hw => hts w (hat w hw)) hgood hWd.2.1 hWd.2.2.1 a2 (by rw [C.2.2.1]; exact a3.1.1) d0 d3 d4 d6 d9 (fun x hx => by rw [h9] at hx; cases hx)
    (show 2 + 3 < R.frames from Nat.lt_of_lt_of_le (by omega) hRm.1) (by rw [am_wd_eq]; show _ + (13 * (2 + 1) + 43) ≤ _; omega) (Nat.le_trans (by omega) hRm.2.2.1) (Nat.le_trans (by omega) hRm.2.2.2) C.2.2.2.2.2.1
    (fun t hv hz hk => (a7 μ t (fun _ _ => rfl) ?_ hv ⟨Nat.le_trans a2.1 hz, fun q hq hA => (hk q (Nat.lt_of_lt_of_le hq a2.1)).trans (a2.2.1 q hq hA)⟩).2 kx rfl) a2.2.2 (by omega) (by omega)
  obtain ⟨L, b1, b2, b3, b4, b5, b6, b7, b8, b9⟩ := a1
  exact ⟨L, b1.kept (fun k q hq => hk q.1 ((b1 k q hq).lt)), b2, b3, b4, b5, b6, b7, b8, b9⟩
theorem sim_throwW {y : MethodName} {cc : ByteArray} {nL : Nat} {ret : Option FieldType} {ik is ic i1 i2 i3 : Nat} {tx : String} (kx : Nat) (hkx : kx < 3) (d0 : decode cc pc = .ok (.new ik, 3)) (d3 : decode cc (pc + 3) = .ok (.dup, 1)) (d4 : decode cc (pc + 4) = .ok (.ldc_w is, 3)) (d6 : decode cc (pc + 7) = .ok (.invokespecial ic, 3)) (d9 : decode cc (pc + 10) = .ok (.athrow, 1))
    (w1 : lw_tbl[i1]? = some (.classLink y.cls ik (am_xn kx))) (w2 : lw_tbl[i2]? = some (.initialized (am_xn kx))) (w3 : lw_tbl[i3]? = some (.stringRef y.cls is tx)) (hat : ∀ w ∈ vx_atS y.cls ic (am_xn kx) am_up9, w ∈ am_T) (hgood : ∀ w ∈ Cond.classLink y.cls ik (am_xn kx) :: Cond.initialized (am_xn kx) :: vx_atS y.cls ic (am_xn kx) am_up9, vx_ot w = true)
    (hd : 6 ≤ d) (hw : am_wd st ≤ 8) : Sim (y, cc, nL, ret, []) d pc lv st h (m_ex h kx) := by
  intro h' o e
  cases e
  have hle := am_le_th h
  refine ⟨hle, fun l D dA base b n xs p e9 R s m args below meth c mc ms Qc XC C μ H locs cells slots ls a1 a2 a3 a4 a5 a6 a7 => ?_⟩
  have hts := C.2.2.2.2.2.2.2.1
  have hRm := C.2.2.2.2.2.2.2.2.2.2.1
  have hWd := C.2.2.2.2.2.2.2.2.2.2.2
  have hl9 : 36 * d ≤ R.locals := hRm.2.1
  have hc9 : m_nc (m_th h) = m_nc h + 1 := rfl
  have hs9 : m_ns (m_th h) = m_ns h + 6 := rfl
  obtain ⟨sa, hsa⟩ := am_str (am_Tw hts w3 rfl)
  have h9 : c.exceptionTable.toList = [] := C.2.2.2.2.2.2.2.2.1
  refine vx_throwSW (names := am_up9) (sa := sa) (A := fun q : Nat => base ≤ q) C.1 C.2.1 C.2.2.2.2.2.2.2.2.2.1 C.2.2.2.2.1 (by
    rcases (show kx = 0 ∨ kx = 1 ∨ kx = 2 by omega) with q | q | q <;> subst q <;> decide +kernel) (by decide +kernel) (am_Tw hts w1 rfl) (am_Tw hts w2 rfl) hsa (fun w hw => hts w (hat w hw)) hgood hWd.2.1 hWd.2.2.1 a2 (by rw [C.2.2.1]; exact a3.1.1) d0 d3 d4 d6 d9 (fun x hx => by rw [h9] at hx; cases hx)
    (show 2 + 3 < R.frames from Nat.lt_of_lt_of_le (by omega) hRm.1) (by rw [am_wd_eq]; show _ + (13 * (2 + 1) + 43) ≤ _; omega) (Nat.le_trans (by omega) hRm.2.2.1) (Nat.le_trans (by omega) hRm.2.2.2) C.2.2.2.2.2.1
    (fun t hv hz hk => (a7 μ t (fun _ _ => rfl) ?_ hv ⟨Nat.le_trans a2.1 hz, fun q hq hA => (hk q (Nat.lt_of_lt_of_le hq a2.1)).trans (a2.2.1 q hq hA)⟩).2 kx rfl) a2.2.2 (by omega) (by omega)
  obtain ⟨L, b1, b2, b3, b4, b5, b6, b7, b8, b9⟩ := a1
  exact ⟨L, b1.kept (fun k q hq => hk q.1 ((b1 k q hq).lt)), b2, b3, b4, b5, b6, b7, b8, b9⟩
/-- a table's row takes what is thrown -/
theorem simx_catch {y : MethodName} {cc : ByteArray} {nL : Nat} {ret : Option FieldType} {hh : List (Nat × Nat × Nat × Nat)} {h1 : am_H} {kx : Nat} (pre : List (Nat × Nat × Nat × Nat)) (x : Nat × Nat × Nat × Nat) (suf : List (Nat × Nat × Nat × Nat)) (hsp : hh = pre ++ x :: suf) (hcv : x.1 ≤ pc ∧ pc < x.2.1) (hct : x.2.2.2 ≠ 0) {i1 i2 : Nat}
    (w1 : lw_tbl[i1]? = some (.classLink y.cls x.2.2.2 (am_xn kx))) (w2 : lw_tbl[i2]? = some (.castable (am_xn kx) (am_xn kx))) (hkx : kx < 3) (hpre : ∀ z ∈ pre, z.2.2.2 ≠ 0 ∧ ∃ (j i3 : Nat), j < 3 ∧ j ≠ kx ∧ lw_tbl[i3]? = some (.classLink y.cls z.2.2.2 (am_xn j)))
    (k : Sim (y, cc, nL, ret, hh) d x.2.2.1 lv [.inr (.inr (some (0, m_nx h1 0)))] (m_op h1) r) : SimX (y, cc, nL, ret, hh) d pc lv h1 kx r := by
  intro h' o e
  obtain ⟨q1, q2⟩ := k h' o e
  have hle := am_le_op h1
  refine ⟨hle.trans q1, fun l D dA base b n xs p e9 R s m args below meth c mc ms Qc XC C μ H locs cells slots ls rest q ce a1 a2 a3 a5 a6 a7 g1 g2 g3 => ?_⟩
  have hts := C.2.2.2.2.2.2.2.1
  have hWd := C.2.2.2.2.2.2.2.2.2.2.2
  have ht : c.exceptionTable.toList = tableOf hh := C.2.2.2.2.2.2.2.2.1
  have hext : am_ext μ h1 (am_up μ (0, m_nx h1 0) q) := am_up_ext
  have hcov : ∀ z : Nat × Nat × Nat × Nat, z.1 ≤ pc ∧ pc < z.2.1 → covers ⟨z.1, z.2.1, z.2.2.1, z.2.2.2⟩ pc = true := fun z hz => by simp [covers, hz.1, hz.2]
  refine vx_catch (own := y.cls) (name := am_xn kx) C.2.2.2.2.1 (tableOf pre) ⟨x.1, x.2.1, x.2.2.1, x.2.2.2⟩ (tableOf suf) (by rw [ht, hsp]; simp [tableOf]) (fun z hz => ?_) (hcov x hcv) hct (am_Tw hts w1 rfl) (am_Tw hts w2 rfl) g1 g2 g3 ?_
  · simp only [tableOf, List.mem_map] at hz
    obtain ⟨z0, hz0, rfl⟩ := hz
    obtain ⟨f1, j, i3, f2, f3, f4⟩ := hpre z0 hz0
    exact Or.inr ⟨f1, am_xn j, am_Tw hts f4 rfl, hWd.2.2.2.2.2.2 kx j hkx f2 (fun z => f3 z.symm)⟩
  · obtain ⟨L, b1, b2, b3, b4, b5, b6, b7, b8, b9⟩ := a1
    have hnx : ∀ a, m_nx (m_op h1) a = if a = 0 then m_nx h1 0 + 1 else m_nx h1 a := fun _ => rfl
    have hL : ∀ a ∈ L, a.2 < m_nx h1 a.1 := fun a ha => ((b4 a).mp ha).1
    have hws : am_ws dA (am_up μ (0, m_nx h1 0) q) (m_op h1) L = am_ws dA μ h1 L := by
      unfold am_ws
      apply List.map_congr_left
      intro a ha
      rw [am_up_ne (am_lt_ne (hL a ha)), am_ent_eq (μ1 := am_up μ (0, m_nx h1 0) q) (h1 := m_op h1) (h := h1) (μ := μ) (fun j => rfl) (fun j => by
        show (m_gr h1 a.1 a.2 j).map _ = _
        cases hg : m_gr h1 a.1 a.2 j with
        | none => rfl
        | some c => exact congrArg some (am_up_ne (am_lt_ne (b5 _ _ _ _ hg)))) (fun j => rfl)]
    have K := q2 l D dA base b n xs p e9 R s m args below meth c mc ms Qc XC C (am_up μ (0, m_nx h1 0) q) H locs cells slots ls
      ⟨L, by rw [hws]; exact b1, by rw [hws]; exact b2, b3, fun a => by
        rw [b4 a, hnx]
        by_cases h0 : a.1 = 0
        · have hk9 : am_kd a.1 = 9 := by rw [h0]; rfl
          simp [hk9]
        · rw [if_neg h0], fun s k j c hc => Nat.lt_of_lt_of_le (b5 s k j c hc) (hle.2.2 _), by rw [am_up_ne (fun z => by cases congrArg Prod.fst z)]; exact b6, b7, b8, by rw [hnx, if_neg (by decide)]; exact b9⟩
      a2 (a3.move hext hle) (am_cls.cons (show m_nx h1 0 < m_nx (m_op h1) 0 by rw [hnx, if_pos rfl]; exact Nat.lt_succ_self _) (fun v hv => by cases hv)) a5 a6 (fun μ' t e1 e2 e3 e4 => a7 μ' t (hext.trans hle e1) e2 e3 e4)
    rw [List.map_cons, show am_v (am_up μ (0, m_nx h1 0) q) (.inr (.inr (some (0, m_nx h1 0)))) = .ref q from by show Value.ref (am_up μ (0, m_nx h1 0) q (0, m_nx h1 0)) = _; rw [am_up_eq]] at K
    exact K
end SimCalls
