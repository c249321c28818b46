/-! the list of all that is there, one of them changed -/
theorem am_ws_at {dA : Nat → ClassId} {μ : Nat × Nat → Nat} {h : am_H} {L : List (Nat × Nat)} {i : Nat} {a : Nat × Nat} (hi : L[i]? = some a) : (am_ws dA μ h L)[i]? = some (μ a, am_ent dA μ h a) := by
  rw [am_ws, List.getElem?_map, hi]; rfl
theorem am_ws_set {dA : Nat → ClassId} {μ : Nat × Nat → Nat} {h h1 : am_H} {L : List (Nat × Nat)} {i : Nat} {a : Nat × Nat} (hi : L[i]? = some a) (hn : L.Nodup) (he : ∀ a' : Nat × Nat, a' ≠ a → am_ent dA μ h1 a' = am_ent dA μ h a') :
    (am_ws dA μ h L).set i (μ a, am_ent dA μ h1 a) = am_ws dA μ h1 L := by
  apply List.ext_getElem?
  intro j
  by_cases hj : i = j
  · subst hj
    have hlt : i < (am_ws dA μ h L).length := by
      rw [am_ws, List.length_map]; exact (List.getElem?_eq_some_iff.mp hi).1
    rw [List.getElem?_set_self hlt, am_ws_at hi]
  · rw [List.getElem?_set_ne hj]
    rw [am_ws, am_ws, List.getElem?_map, List.getElem?_map]
    cases hLj : L[j]? with
    | none => rfl
    | some c =>
      have hne : c ≠ a := by
        intro hc
        subst hc
        have h1 := List.getElem?_eq_some_iff.mp hi
        have h2 := List.getElem?_eq_some_iff.mp hLj
        obtain ⟨p1, e1⟩ := h1
        obtain ⟨p2, e2⟩ := h2
        rcases Nat.lt_or_gt_of_ne hj with q | q
        · exact List.pairwise_iff_getElem.mp hn i j p1 p2 q (e1.trans e2.symm)
        · exact List.pairwise_iff_getElem.mp hn j i p2 p1 q (e2.trans e1.symm)
      show some (μ c, am_ent dA μ h c) = some (μ c, am_ent dA μ h1 c)
      rw [he c hne]
theorem am_ent_eq {dA : Nat → ClassId} {μ μ1 : Nat × Nat → Nat} {h h1 : am_H} {a : Nat × Nat} (e1 : ∀ j, m_gi h1 a.1 a.2 j = m_gi h a.1 a.2 j) (e2 : ∀ j, (m_gr h1 a.1 a.2 j).map μ1 = (m_gr h a.1 a.2 j).map μ) (e3 : ∀ j, m_gl h1 a.1 a.2 j = m_gl h a.1 a.2 j) : am_ent dA μ1 h1 a = am_ent dA μ h a := by
  have hf : am_fs μ1 h1 a.1 a.2 = am_fs μ h a.1 a.2 := by
    unfold am_fs
    congr 1
    funext j
    cases am_rf (am_ci a.1) j
    · show Value.int _ = Value.int _
      rw [e1]
    · show va_rf _ = va_rf _
      rw [e2]
  unfold am_ent
  split
  · rw [hf]
  · rw [show (fun j => (m_gr h1 a.1 a.2 j).map μ1) = fun j => (m_gr h a.1 a.2 j).map μ from funext e2]
  · rw [show (fun j => m_gl h1 a.1 a.2 j) = fun j => m_gl h a.1 a.2 j from funext e3]
  · rw [show (fun j => m_gi h1 a.1 a.2 j) = fun j => m_gi h a.1 a.2 j from funext e1]
theorem m_gi_si (h : am_H) (s k j : Nat) (v : Int32) (a b c : Nat) : m_gi (m_si h s k j v) a b c = if a = s ∧ b = k ∧ c = j then v else m_gi h a b c := rfl
theorem m_gr_sr (h : am_H) (s k j : Nat) (v : Option (Nat × Nat)) (a b c : Nat) : m_gr (m_sr h s k j v) a b c = if a = s ∧ b = k ∧ c = j then v else m_gr h a b c := rfl
theorem m_gl_sl (h : am_H) (s k j : Nat) (v : Int64) (a b c : Nat) : m_gl (m_sl h s k j v) a b c = if a = s ∧ b = k ∧ c = j then v else m_gl h a b c := rfl
theorem am_pr_ne {a c : Nat × Nat} (h : a ≠ c) : ¬ (a.1 = c.1 ∧ a.2 = c.2) := fun q => h (Prod.ext q.1 q.2)
theorem am_ent_si {dA : Nat → ClassId} {μ : Nat × Nat → Nat} {h : am_H} {a : Nat × Nat} {j : Nat} {v : Int32} (a' : Nat × Nat) (hn : a' ≠ a) : am_ent dA μ (m_si h a.1 a.2 j v) a' = am_ent dA μ h a' :=
  am_ent_eq (fun i => by rw [m_gi_si, if_neg (fun q => am_pr_ne hn ⟨q.1, q.2.1⟩)]) (fun _ => rfl) (fun _ => rfl)
theorem am_ent_sr {dA : Nat → ClassId} {μ : Nat × Nat → Nat} {h : am_H} {a : Nat × Nat} {j : Nat} {v : Option (Nat × Nat)} (a' : Nat × Nat) (hn : a' ≠ a) : am_ent dA μ (m_sr h a.1 a.2 j v) a' = am_ent dA μ h a' :=
  am_ent_eq (fun _ => rfl) (fun i => by rw [m_gr_sr, if_neg (fun q => am_pr_ne hn ⟨q.1, q.2.1⟩)]) (fun _ => rfl)
theorem am_ent_sl {dA : Nat → ClassId} {μ : Nat × Nat → Nat} {h : am_H} {a : Nat × Nat} {j : Nat} {v : Int64} (a' : Nat × Nat) (hn : a' ≠ a) : am_ent dA μ (m_sl h a.1 a.2 j v) a' = am_ent dA μ h a' :=
  am_ent_eq (fun _ => rfl) (fun _ => rfl) (fun i => by rw [m_gl_sl, if_neg (fun q => am_pr_ne hn ⟨q.1, q.2.1⟩)])
/-! ## a method's body, told by what the abstract machine does -/
/-- name, code, words of locals, what it returns, its table -/
abbrev am_M : Type := MethodName × ByteArray × Nat × Option FieldType × List (Nat × Nat × Nat × Nat)
/-- words that stay when the tables get warmer -/
def am_gw : Cond → Bool
  | .methodLinkNest _ _ _ _ => true
  | .declares _ => true
  | .castable _ _ => true
  | .arrayOver (.object _) => true
  | .stringRef _ _ _ => true
  | w => goodWord w
theorem am_gw_warm {w : Cond} (hg : am_gw w = true) {s U : State} (hW : s.WarmedH U.vm) {args a' : Array Value} (h : w.before args s = true) : w.before a' U = true := by
  unfold am_gw at hg
  split at hg
  · exact va_Nw.use rfl (va_Nw.warmM hW (va_Nw.of rfl h))
  · exact va_Nw.use rfl (va_Nw.warmD hW (va_Nw.of rfl h))
  · exact va_Nw.use rfl (va_Nw.warmC hW (va_Nw.of rfl h))
  · exact va_AO.use (va_AO.moved hW.alike (va_AO.of h))
  · have h1 := Cond.stringRef_warmed hW h
    have hv : (s.setVm U.vm).vm = U.vm := rfl
    simp only [Cond.before, Cond.holds, Cond.value, State.names, State.poolOf?, State.resolvedAt?, hv] at h1 ⊢
    exact h1
  · exact word_at hW (good_of_word hg) h
def am_T : List Cond := lw_tbl.filter am_gw
def am_cw (M : am_M) : Cond := match M.2.2.2.2 with
  | [] => .code M.1 M.2.1 M.2.2.1 M.2.2.2.1
  | hh => .codeWith M.1 M.2.1 M.2.2.1 M.2.2.2.1 hh
def am_w (M : am_M) : List Cond := am_cw M :: am_T
def am_Ncs (U : State) : Prop := ∀ i j : Nat, i < 3 → j < 3 → i ≠ j → va_Nc (am_xn i) (am_xn j) U
def am_Wd (D : va_G) (dA : Nat → ClassId) (base b n : Nat) (xs : Nat → Int32) (U : State) (H : Heap) : Prop :=
  va_K D vwCl (am_tys dA) U ∧ vx_Zq Bundle.tN "UNASSIGNED_STACK" Bundle.steD (fun q : Nat => base ≤ q) U H ∧ vx_Zq Bundle.tN "SUPPRESSED_SENTINEL" Bundle.listD (fun q : Nat => base ≤ q) U H ∧ (va_X b n xs U H ∧ n ≤ 2560) ∧ b < base ∧ base ≤ H.size ∧ am_Ncs U
def am_Cx (l : Launch) (D : va_G) (dA : Nat → ClassId) (base b n : Nat) (xs : Nat → Int32) (M : am_M) (d : Nat) (p : Program) (R : Room) (s : State) (m : MethodId) (args : Array Value) (meth : Method) (c : Code) (mc ms : Nat) : Prop :=
  p.tables.exec = Jvm.exec ∧ c.code = M.2.1 ∧ c.maxLocals = M.2.2.1 ∧ meth.sig.returnType = M.2.2.2.1 ∧ s.vm.findClass M.1.cls = some m.cls ∧ meth.locks = false ∧ meth.name = M.1.name ∧ (∀ w ∈ am_T, w.before args s = true) ∧
  c.exceptionTable.toList = tableOf M.2.2.2.2 ∧ l.stackTraces = false ∧ (d ≤ R.frames ∧ 36 * d ≤ R.locals ∧ mc ≤ R.cells ∧ ms ≤ R.slots) ∧ am_Wd D dA base b n xs s s.heap
def am_Fin (D : va_G) (dA : Nat → ClassId) (base b n : Nat) (xs : Nat → Int32) (s : State) (args : Array Value) (μ : Nat × Nat → Nat) (h h' : am_H) (o : Option am_V ⊕ Nat) (Qc : Array Value → State → Outcome → State → Prop) (XC : String → State → State → Prop) : Prop :=
  ∀ (μ' : Nat × Nat → Nat) (t : State), am_ext μ h μ' → am_Rel D dA base b n xs μ' h' t.heap → s.vm.Alike t.vm → va_F (fun q : Nat => base ≤ q) s t →
    (∀ v : Option am_V, o = .inl v → (∀ w, v = some w → am_clo h' w) → Qc args s (.returned (v.map (am_v μ'))) t) ∧ (∀ k : Nat, o = .inr k → XC (am_xn k) s t)
def Sim (M : am_M) (d pc : Nat) (lv : List (Option am_V)) (st : List am_V) (h : am_H) (r : am_R) : Prop :=
  ∀ (h' : am_H) (o : Option am_V ⊕ Nat), r = some (h', o) → am_le h h' ∧
  ∀ (l : Launch) (D : va_G) (dA : Nat → ClassId) (base b n : Nat) (xs : Nat → Int32) (p : Program) (e : Env) (R : Room) (s : State) (m : MethodId) (args : Array Value) (below : List Frame) (meth : Method) (c : Code) (mc ms : Nat) (Qc : Array Value → State → Outcome → State → Prop) (XC : String → State → State → Prop),
    am_Cx l D dA base b n xs M d p R s m args meth c mc ms →
    ∀ (μ : Nat × Nat → Nat) (H : Heap) (locs : List Loc) (cells slots : Nat) (ls : Array Slot),
      am_Rel D dA base b n xs μ h H → va_S (fun q : Nat => base ≤ q) s.heap H locs → am_Ls M.2.2.1 μ h lv ls → am_cls h st →
      cells + (m_nc h' - m_nc h) = mc → slots + (m_ns h' - m_ns h) = ms → am_Fin D dA base b n xs s args μ h h' o Qc XC →
      W p l e R s m args below meth c H locs cells slots (vx_MQ below Qc XC args s mc ms (fun q : Nat => base ≤ q)) (F0 m pc ls (st.map (am_v μ)))
theorem sim_none {M : am_M} {d pc : Nat} {lv : List (Option am_V)} {st : List am_V} {h : am_H} : Sim M d pc lv st h none := fun h' o e => by cases e
theorem sim_lv {M : am_M} {d pc : Nat} {lv lv' : List (Option am_V)} {st : List am_V} {h : am_H} {r : am_R} (hl : am_leL lv' lv) (k : Sim M d pc lv' st h r) : Sim M d pc lv st h r := by
  intro h' o e
  obtain ⟨q1, q2⟩ := k h' o e
  exact ⟨q1, fun l D dA base b n xs p e R s m args below meth c mc ms Qc XC C μ H locs cells slots ls a1 a2 a3 => q2 l D dA base b n xs p e R s m args below meth c mc ms Qc XC C μ H locs cells slots ls a1 a2 (a3.sub hl)⟩
/-- a step that writes nothing but the stack -/
theorem sim_go {M : am_M} {d pc pc' : Nat} {lv : List (Option am_V)} {st st' : List am_V} {h : am_H} {r : am_R}
    (hc : am_cls h st → (∀ (i : Nat) (v : am_V), lv[i]? = some (some v) → am_clo h v) → am_cls h st')
    (go : ∀ (l : Launch) (p : Program) (e : Env) (R : Room) (s : State) (m : MethodId) (args : Array Value) (below : List Frame) (meth : Method) (c : Code) (Q : State → Prop) (μ : Nat × Nat → Nat) (H : Heap) (locs : List Loc) (cells slots : Nat) (ls : Array Slot),
      p.tables.exec = Jvm.exec → c.code = M.2.1 → s.vm.findClass M.1.cls = some m.cls → (∀ w ∈ am_T, w.before args s = true) → am_Ls M.2.2.1 μ h lv ls →
      W p l e R s m args below meth c H locs cells slots Q (F0 m pc' ls (st'.map (am_v μ))) → W p l e R s m args below meth c H locs cells slots Q (F0 m pc ls (st.map (am_v μ))))
    (k : Sim M d pc' lv st' h r) : Sim M d pc lv st h r := by
  intro h' o e
  obtain ⟨q1, q2⟩ := k h' o e
  refine ⟨q1, fun l D dA base b n xs p e R s m args below meth c mc ms Qc XC C μ H locs cells slots ls a1 a2 a3 a4 a5 a6 a7 => ?_⟩
  exact go l p e R s m args below meth c _ μ H locs cells slots ls C.1 C.2.1 C.2.2.2.2.1 C.2.2.2.2.2.2.2.1 a3 (q2 l D dA base b n xs p e R s m args below meth c mc ms Qc XC C μ H locs cells slots ls a1 a2 a3 (hc a4 a3.2) a5 a6 a7)
section SimRows
variable {M : am_M} {d pc : Nat} {lv : List (Option am_V)} {st : List am_V} {h : am_H} {r : am_R}
theorem am_clo_i {h : am_H} {x : Int32} : am_clo h (.inl x) := trivial
theorem am_clo_l {h : am_H} {x : Int64} : am_clo h (.inr (.inl x)) := trivial
theorem am_clo_n {h : am_H} : am_clo h (.inr (.inr none)) := trivial
theorem sim_iconst {n : Int} (v : Int32) (d0 : decode M.2.1 pc = .ok (.iconst n, 1)) (hv : Int32.ofInt n = v) (k : Sim M d (pc + 1) lv (.inl v :: st) h r) : Sim M d pc lv st h r :=
  sim_go (fun c _ => c.cons am_clo_i) (fun _ _ _ _ _ _ _ _ _ _ _ _ _ _ _ _ _ hx hb _ _ _ k => lv_iconst hx hb d0 hv k) k
theorem sim_bipush {n : Int} (v : Int32) (d0 : decode M.2.1 pc = .ok (.bipush n, 2)) (hv : (Int8.ofInt n).toInt32 = v) (k : Sim M d (pc + 2) lv (.inl v :: st) h r) : Sim M d pc lv st h r :=
  sim_go (fun c _ => c.cons am_clo_i) (fun _ _ _ _ _ _ _ _ _ _ _ _ _ _ _ _ _ hx hb _ _ _ k => lv_bipush hx hb d0 hv k) k
theorem sim_sipush {n : Int} (v : Int32) (d0 : decode M.2.1 pc = .ok (.sipush n, 3)) (hv : (Int16.ofInt n).toInt32 = v) (k : Sim M d (pc + 3) lv (.inl v :: st) h r) : Sim M d pc lv st h r :=
  sim_go (fun c _ => c.cons am_clo_i) (fun _ _ _ _ _ _ _ _ _ _ _ _ _ _ _ _ _ hx hb _ _ _ k => lv_sipush hx hb d0 hv k) k
theorem sim_lconst {n : Fin 2} (v : Int64) (d0 : decode M.2.1 pc = .ok (.lconst n, 1)) (hv : Int64.ofNat (n : Nat) = v) (k : Sim M d (pc + 1) lv (.inr (.inl v) :: st) h r) : Sim M d pc lv st h r :=
  sim_go (fun c _ => c.cons am_clo_l) (fun _ _ _ _ _ _ _ _ _ _ _ _ _ _ _ _ _ hx hb _ _ _ k => lv_lconst hx hb d0 hv k) k
theorem am_Tw {args : Array Value} {s : State} (ht : ∀ w ∈ am_T, w.before args s = true) {w : Cond} {i : Nat} (hw : lw_tbl[i]? = some w) (hg : am_gw w = true) : w.before args s = true :=
  ht w (List.mem_filter.mpr ⟨List.mem_of_getElem? hw, hg⟩)
theorem sim_ldc {i ix : Nat} (v : Int32) (d0 : decode M.2.1 pc = .ok (.ldc ix, 2)) (hw : lw_tbl[i]? = some (.constant M.1.cls ix v)) (k : Sim M d (pc + 2) lv (.inl v :: st) h r) : Sim M d pc lv st h r :=
  sim_go (fun c _ => c.cons am_clo_i) (fun _ _ _ _ _ _ _ _ _ _ _ _ _ _ _ _ _ hx hb ho ht _ k => lv_ldc hx hb ho (am_Tw ht hw rfl) d0 k) k
theorem sim_ldcw {i ix : Nat} (v : Int32) (d0 : decode M.2.1 pc = .ok (.ldc_w ix, 3)) (hw : lw_tbl[i]? = some (.constant M.1.cls ix v)) (k : Sim M d (pc + 3) lv (.inl v :: st) h r) : Sim M d pc lv st h r :=
  sim_go (fun c _ => c.cons am_clo_i) (fun _ _ _ _ _ _ _ _ _ _ _ _ _ _ _ _ _ hx hb ho ht _ k => lv_ldcw hx hb ho (am_Tw ht hw rfl) d0 k) k
theorem sim_ldc2 {i ix : Nat} (v : Int64) (d0 : decode M.2.1 pc = .ok (.ldc2_w ix, 3)) (hw : lw_tbl[i]? = some (.constantLong M.1.cls ix v)) (k : Sim M d (pc + 3) lv (.inr (.inl v) :: st) h r) : Sim M d pc lv st h r :=
  sim_go (fun c _ => c.cons am_clo_l) (fun _ _ _ _ _ _ _ _ _ _ _ _ _ _ _ _ _ hx hb ho ht _ k => lv_ldc2 hx hb ho (am_Tw ht hw rfl) d0 k) k
theorem sim_iload_n {i : Fin 4} {x : Int32} (d0 : decode M.2.1 pc = .ok (.iload_n i, 1)) (hl : lv[(i : Nat)]? = some (some (.inl x))) (k : Sim M d (pc + 1) lv (.inl x :: st) h r) : Sim M d pc lv st h r :=
  sim_go (fun c _ => c.cons am_clo_i) (fun _ _ _ _ _ _ _ _ _ _ _ _ _ _ _ _ _ hx hb _ _ a k => lv_iload_n hx hb d0 rfl (a.get hl) k) k
theorem sim_iload {i : Nat} {x : Int32} (d0 : decode M.2.1 pc = .ok (.iload i, 2)) (hl : lv[i]? = some (some (.inl x))) (k : Sim M d (pc + 2) lv (.inl x :: st) h r) : Sim M d pc lv st h r :=
  sim_go (fun c _ => c.cons am_clo_i) (fun _ _ _ _ _ _ _ _ _ _ _ _ _ _ _ _ _ hx hb _ _ a k => lv_iload hx hb d0 (a.get hl) k) k
theorem sim_lload_n {i : Fin 4} {x : Int64} (d0 : decode M.2.1 pc = .ok (.lload_n i, 1)) (hl : lv[(i : Nat)]? = some (some (.inr (.inl x)))) (k : Sim M d (pc + 1) lv (.inr (.inl x) :: st) h r) : Sim M d pc lv st h r :=
  sim_go (fun c _ => c.cons am_clo_l) (fun _ _ _ _ _ _ _ _ _ _ _ _ _ _ _ _ _ hx hb _ _ a k => lv_lload_n hx hb d0 rfl (a.get hl) k) k
theorem sim_aload_n {i : Fin 4} {o : Option (Nat × Nat)} (d0 : decode M.2.1 pc = .ok (.aload_n i, 1)) (hl : lv[(i : Nat)]? = some (some (.inr (.inr o)))) (k : Sim M d (pc + 1) lv (.inr (.inr o) :: st) h r) : Sim M d pc lv st h r :=
  sim_go (fun c c2 => c.cons (c2 _ _ hl)) (fun _ _ _ _ _ _ _ _ _ _ _ _ _ _ _ _ _ hx hb _ _ a k => by
    cases o with
    | none => exact lv_aload_nN hx hb d0 rfl (a.get hl) k
    | some q => exact lv_aload_n hx hb d0 rfl (a.get hl) k) k
theorem sim_aload {i : Nat} {o : Option (Nat × Nat)} (d0 : decode M.2.1 pc = .ok (.aload i, 2)) (hl : lv[i]? = some (some (.inr (.inr o)))) (k : Sim M d (pc + 2) lv (.inr (.inr o) :: st) h r) : Sim M d pc lv st h r :=
  sim_go (fun c c2 => c.cons (c2 _ _ hl)) (fun _ _ _ _ _ _ _ _ _ _ _ _ _ _ _ _ _ hx hb _ _ a k => by
    cases o with
    | none => exact lv_aloadN hx hb d0 (a.get hl) k
    | some q => exact lv_aload hx hb d0 (a.get hl) k) k
theorem sim_null (d0 : decode M.2.1 pc = .ok (.aconst_null, 1)) (k : Sim M d (pc + 1) lv (.inr (.inr none) :: st) h r) : Sim M d pc lv st h r :=
  sim_go (fun c _ => c.cons am_clo_n) (fun _ _ _ _ _ _ _ _ _ _ _ _ _ _ _ _ _ hx hb _ _ _ k => lv_null hx hb d0 k) k
theorem sim_iadd {x y : Int32} (d0 : decode M.2.1 pc = .ok (.iadd, 1)) (k : Sim M d (pc + 1) lv (.inl (x + y) :: st) h r) : Sim M d pc lv (.inl y :: .inl x :: st) h r :=
  sim_go (fun c _ => c.tail.tail.cons am_clo_i) (fun _ _ _ _ _ _ _ _ _ _ _ _ _ _ _ _ _ hx hb _ _ _ k => lv_iadd hx hb d0 k) k
theorem sim_isub {x y : Int32} (d0 : decode M.2.1 pc = .ok (.isub, 1)) (k : Sim M d (pc + 1) lv (.inl (x - y) :: st) h r) : Sim M d pc lv (.inl y :: .inl x :: st) h r :=
  sim_go (fun c _ => c.tail.tail.cons am_clo_i) (fun _ _ _ _ _ _ _ _ _ _ _ _ _ _ _ _ _ hx hb _ _ _ k => lv_isub hx hb d0 k) k
theorem sim_imul {x y : Int32} (d0 : decode M.2.1 pc = .ok (.imul, 1)) (k : Sim M d (pc + 1) lv (.inl (x * y) :: st) h r) : Sim M d pc lv (.inl y :: .inl x :: st) h r :=
  sim_go (fun c _ => c.tail.tail.cons am_clo_i) (fun _ _ _ _ _ _ _ _ _ _ _ _ _ _ _ _ _ hx hb _ _ _ k => lv_imul hx hb d0 k) k
theorem sim_iand {x y : Int32} (d0 : decode M.2.1 pc = .ok (.iand, 1)) (k : Sim M d (pc + 1) lv (.inl (x &&& y) :: st) h r) : Sim M d pc lv (.inl y :: .inl x :: st) h r :=
  sim_go (fun c _ => c.tail.tail.cons am_clo_i) (fun _ _ _ _ _ _ _ _ _ _ _ _ _ _ _ _ _ hx hb _ _ _ k => lv_iand hx hb d0 k) k
theorem sim_ior {x y : Int32} (d0 : decode M.2.1 pc = .ok (.ior, 1)) (k : Sim M d (pc + 1) lv (.inl (x ||| y) :: st) h r) : Sim M d pc lv (.inl y :: .inl x :: st) h r :=
  sim_go (fun c _ => c.tail.tail.cons am_clo_i) (fun _ _ _ _ _ _ _ _ _ _ _ _ _ _ _ _ _ hx hb _ _ _ k => lv_ior hx hb d0 k) k
theorem sim_ixor {x y : Int32} (d0 : decode M.2.1 pc = .ok (.ixor, 1)) (k : Sim M d (pc + 1) lv (.inl (x ^^^ y) :: st) h r) : Sim M d pc lv (.inl y :: .inl x :: st) h r :=
  sim_go (fun c _ => c.tail.tail.cons am_clo_i) (fun _ _ _ _ _ _ _ _ _ _ _ _ _ _ _ _ _ hx hb _ _ _ k => lv_ixor hx hb d0 k) k
theorem sim_ishl {x y : Int32} (d0 : decode M.2.1 pc = .ok (.ishl, 1)) (k : Sim M d (pc + 1) lv (.inl (x <<< (y &&& 31)) :: st) h r) : Sim M d pc lv (.inl y :: .inl x :: st) h r :=
  sim_go (fun c _ => c.tail.tail.cons am_clo_i) (fun _ _ _ _ _ _ _ _ _ _ _ _ _ _ _ _ _ hx hb _ _ _ k => lv_ishl hx hb d0 k) k
theorem sim_ishr {x y : Int32} (d0 : decode M.2.1 pc = .ok (.ishr, 1)) (k : Sim M d (pc + 1) lv (.inl (x >>> (y &&& 31)) :: st) h r) : Sim M d pc lv (.inl y :: .inl x :: st) h r :=
  sim_go (fun c _ => c.tail.tail.cons am_clo_i) (fun _ _ _ _ _ _ _ _ _ _ _ _ _ _ _ _ _ hx hb _ _ _ k => lv_ishr hx hb d0 k) k
def m_ushr (x y : Int32) : Int32 := (x.toUInt32 >>> (y.toUInt32 &&& Int32.toUInt32 31)).toInt32
def m_lushr (x : Int64) (y : Int32) : Int64 := (x.toUInt64 >>> (y.toInt64.toUInt64 &&& Int64.toUInt64 63)).toInt64
def m_i2c (x : Int32) : Int32 := (x.toUInt32 % 65536).toInt32
theorem sim_iushr {x y : Int32} (d0 : decode M.2.1 pc = .ok (.iushr, 1)) (k : Sim M d (pc + 1) lv (.inl (m_ushr x y) :: st) h r) : Sim M d pc lv (.inl y :: .inl x :: st) h r :=
  sim_go (fun c _ => c.tail.tail.cons am_clo_i) (fun _ _ _ _ _ _ _ _ _ _ _ _ _ _ _ _ _ hx hb _ _ _ k => lv_iushr hx hb d0 rfl k) k
theorem sim_lushr {x : Int64} {y : Int32} (d0 : decode M.2.1 pc = .ok (.lushr, 1)) (k : Sim M d (pc + 1) lv (.inr (.inl (m_lushr x y)) :: st) h r) : Sim M d pc lv (.inl y :: .inr (.inl x) :: st) h r :=
  sim_go (fun c _ => c.tail.tail.cons am_clo_l) (fun _ _ _ _ _ _ _ _ _ _ _ _ _ _ _ _ _ hx hb _ _ _ k => lv_lushr hx hb d0 rfl k) k
theorem sim_lshl {x : Int64} {y : Int32} (d0 : decode M.2.1 pc = .ok (.lshl, 1)) (k : Sim M d (pc + 1) lv (.inr (.inl (x <<< (y.toInt64 &&& 63))) :: st) h r) : Sim M d pc lv (.inl y :: .inr (.inl x) :: st) h r :=
  sim_go (fun c _ => c.tail.tail.cons am_clo_l) (fun _ _ _ _ _ _ _ _ _ _ _ _ _ _ _ _ _ hx hb _ _ _ k => lv_lshl hx hb d0 rfl k) k
theorem sim_land {x y : Int64} (d0 : decode M.2.1 pc = .ok (.land, 1)) (k : Sim M d (pc + 1) lv (.inr (.inl (x &&& y)) :: st) h r) : Sim M d pc lv (.inr (.inl y) :: .inr (.inl x) :: st) h r :=
  sim_go (fun c _ => c.tail.tail.cons am_clo_l) (fun _ _ _ _ _ _ _ _ _ _ _ _ _ _ _ _ _ hx hb _ _ _ k => lv_land hx hb d0 k) k
theorem sim_lor {x y : Int64} (d0 : decode M.2.1 pc = .ok (.lor, 1)) (k : Sim M d (pc + 1) lv (.inr (.inl (x ||| y)) :: st) h r) : Sim M d pc lv (.inr (.inl y) :: .inr (.inl x) :: st) h r :=
  sim_go (fun c _ => c.tail.tail.cons am_clo_l) (fun _ _ _ _ _ _ _ _ _ _ _ _ _ _ _ _ _ hx hb _ _ _ k => lv_lor hx hb d0 k) k
theorem sim_i2l {x : Int32} (d0 : decode M.2.1 pc = .ok (.i2l, 1)) (k : Sim M d (pc + 1) lv (.inr (.inl x.toInt64) :: st) h r) : Sim M d pc lv (.inl x :: st) h r :=
  sim_go (fun c _ => c.tail.cons am_clo_l) (fun _ _ _ _ _ _ _ _ _ _ _ _ _ _ _ _ _ hx hb _ _ _ k => lv_i2l hx hb d0 rfl k) k
theorem sim_l2i {x : Int64} (d0 : decode M.2.1 pc = .ok (.l2i, 1)) (k : Sim M d (pc + 1) lv (.inl x.toInt32 :: st) h r) : Sim M d pc lv (.inr (.inl x) :: st) h r :=
  sim_go (fun c _ => c.tail.cons am_clo_i) (fun _ _ _ _ _ _ _ _ _ _ _ _ _ _ _ _ _ hx hb _ _ _ k => lv_l2i hx hb d0 rfl k) k
theorem sim_i2c {x : Int32} (d0 : decode M.2.1 pc = .ok (.i2c, 1)) (k : Sim M d (pc + 1) lv (.inl (m_i2c x) :: st) h r) : Sim M d pc lv (.inl x :: st) h r :=
  sim_go (fun c _ => c.tail.cons am_clo_i) (fun _ _ _ _ _ _ _ _ _ _ _ _ _ _ _ _ _ hx hb _ _ _ k => lv_i2c hx hb d0 rfl k) k
theorem sim_goto {off : Int} (tgt : Nat) (d0 : decode M.2.1 pc = .ok (.goto off, 3)) (ht : (pc : Int) + off = (tgt : Int)) (k : Sim M d tgt lv st h r) : Sim M d pc lv st h r :=
  sim_go (fun c _ => c) (fun _ _ _ _ _ _ _ _ _ _ _ _ _ _ _ _ _ hx hb _ _ _ k => lv_goto hx hb d0 ht k) k
theorem am_cat1 {μ : Nat × Nat → Nat} {x : Int32} : (am_v μ (.inl x)).category = 1 := rfl
theorem am_cat1r {μ : Nat × Nat → Nat} {o : Option (Nat × Nat)} : (am_v μ (.inr (.inr o))).category = 1 := by cases o <;> rfl
theorem sim_dup_r {o : Option (Nat × Nat)} (d0 : decode M.2.1 pc = .ok (.dup, 1)) (k : Sim M d (pc + 1) lv (.inr (.inr o) :: .inr (.inr o) :: st) h r) : Sim M d pc lv (.inr (.inr o) :: st) h r :=
  sim_go (fun c _ => c.cons c.head) (fun _ _ _ _ _ _ _ _ _ _ _ _ _ _ _ _ _ hx hb _ _ _ k => lv_dup hx hb d0 am_cat1r k) k
theorem sim_dup_i {x : Int32} (d0 : decode M.2.1 pc = .ok (.dup, 1)) (k : Sim M d (pc + 1) lv (.inl x :: .inl x :: st) h r) : Sim M d pc lv (.inl x :: st) h r :=
  sim_go (fun c _ => c.cons c.head) (fun _ _ _ _ _ _ _ _ _ _ _ _ _ _ _ _ _ hx hb _ _ _ k => lv_dup hx hb d0 am_cat1 k) k
theorem sim_pop_i {x : Int32} (d0 : decode M.2.1 pc = .ok (.pop, 1)) (k : Sim M d (pc + 1) lv st h r) : Sim M d pc lv (.inl x :: st) h r :=
  sim_go (fun c _ => c.tail) (fun _ _ _ _ _ _ _ _ _ _ _ _ _ _ _ _ _ hx hb _ _ _ k => lv_pop hx hb d0 am_cat1 k) k
theorem sim_dup2 {x : Int32} {o : Option (Nat × Nat)} (d0 : decode M.2.1 pc = .ok (.dup2, 1)) (k : Sim M d (pc + 1) lv (.inl x :: .inr (.inr o) :: .inl x :: .inr (.inr o) :: st) h r) : Sim M d pc lv (.inl x :: .inr (.inr o) :: st) h r :=
  sim_go (fun c _ => (c.cons c.tail.head).cons c.head) (fun _ _ _ _ _ _ _ _ _ _ _ _ _ _ _ _ _ hx hb _ _ _ k => lv_dup2_11 hx hb d0 am_cat1 am_cat1r k) k
theorem sim_lcmp {x y : Int64} (d0 : decode M.2.1 pc = .ok (.lcmp, 1)) (k : Sim M d (pc + 1) lv (.inl (lg_cmp x y) :: st) h r) : Sim M d pc lv (.inr (.inl y) :: .inr (.inl x) :: st) h r :=
  sim_go (fun c _ => c.tail.tail.cons am_clo_i) (fun _ _ _ _ _ _ _ _ _ _ _ _ _ _ _ _ _ hx hb _ _ _ k => W.lcmp hx hb d0 k) k
theorem sim_rw {st' : List am_V} (e : st = st') (k : Sim M d pc lv st' h r) : Sim M d pc lv st h r := e ▸ k
end SimRows
