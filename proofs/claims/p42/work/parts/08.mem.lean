theorem am_isO_of {s ci : Nat} (h : am_isO s ci = true) : am_kd s = 0 ∧ am_ci s = ci := by simpa [am_isO] using h
theorem am_isA_of {s ty : Nat} (h : am_isA s ty = true) : am_kd s = 1 ∧ am_ty s = ty := by simpa [am_isA] using h
theorem am_isL_of {s : Nat} (h : am_isL s = true) : am_kd s = 4 ∧ am_ty s = 3 := by simpa [am_isL] using h
theorem am_isR_of {s : Nat} (h : am_isR s = true) : am_kd s = 5 := by simpa [am_isR] using h
theorem am_in_of {i : Int32} {n : Nat} (h : m_in i n = true) : vp_in i n := by simpa [m_in, vp_in] using h
/-- the entries, by kind -/
theorem am_ent0 {dA : Nat → ClassId} {μ : Nat × Nat → Nat} {h : am_H} {a : Nat × Nat} {ci : Nat} (e : am_isO a.1 ci = true) : am_ent dA μ h a = .inr (ci, am_fs μ h a.1 a.2) := by
  obtain ⟨e1, e2⟩ := am_isO_of e
  unfold am_ent
  rw [e1, e2]
  try rfl
theorem am_ent1 {dA : Nat → ClassId} {μ : Nat × Nat → Nat} {h : am_H} {a : Nat × Nat} {ty : Nat} (e : am_isA a.1 ty = true) : am_ent dA μ h a = .inl (dA ty, (am_ln a.1, .inl fun j => m_gi h a.1 a.2 j)) := by
  obtain ⟨e1, e2⟩ := am_isA_of e
  unfold am_ent
  rw [e1, e2]
  try rfl
theorem am_ent4 {dA : Nat → ClassId} {μ : Nat × Nat → Nat} {h : am_H} {a : Nat × Nat} (e : am_isL a.1 = true) : am_ent dA μ h a = .inl (dA 3, (am_ln a.1, .inr (.inl fun j => m_gl h a.1 a.2 j))) := by
  obtain ⟨e1, e2⟩ := am_isL_of e
  unfold am_ent
  rw [e1, e2]
  try rfl
theorem am_ent5 {dA : Nat → ClassId} {μ : Nat × Nat → Nat} {h : am_H} {a : Nat × Nat} (e : am_isR a.1 = true) : am_ent dA μ h a = .inl (dA (am_ty a.1), (am_ln a.1, .inr (.inr (.inr (.inr fun j => (m_gr h a.1 a.2 j).map μ))))) := by
  have e1 := am_isR_of e
  unfold am_ent
  rw [e1]
  try rfl
theorem am_fs_get {μ : Nat × Nat → Nat} {h : am_H} {s k j ci : Nat} (e : am_ci s = ci) (hj : j < am_nf ci) : (am_fs μ h s k)[j]? = some (am_fv μ h s k j (am_rf ci j)) := by
  subst e
  rw [am_fs, List.getElem?_map, List.getElem?_range hj]; rfl
theorem am_fs_len {μ : Nat × Nat → Nat} {h : am_H} {s k : Nat} : (am_fs μ h s k).length = am_nf (am_ci s) := by rw [am_fs, List.length_map, List.length_range]
theorem am_fs_si {μ : Nat × Nat → Nat} {h : am_H} {s k j ci : Nat} {x : Int32} (e : am_ci s = ci) (hj : j < am_nf ci) (hr : am_rf ci j = false) : (am_fs μ h s k).set j (am_v μ (.inl x)) = am_fs μ (m_si h s k j x) s k := by
  subst e
  apply List.ext_getElem?
  intro i
  by_cases hi : j = i
  · subst hi
    rw [List.getElem?_set_self (by rw [am_fs_len]; exact hj), am_fs_get rfl hj, hr]
    show some (Value.int x) = some (Value.int _)
    rw [m_gi_si, if_pos ⟨rfl, rfl, rfl⟩]
  · rw [List.getElem?_set_ne hi]
    by_cases hl : i < am_nf (am_ci s)
    · rw [am_fs_get rfl hl, am_fs_get rfl hl]
      congr 1
      cases am_rf (am_ci s) i
      · show Value.int _ = Value.int _
        rw [m_gi_si, if_neg (fun q => hi q.2.2.symm)]
      · rfl
    · rw [List.getElem?_eq_none (by rw [am_fs_len]; omega), List.getElem?_eq_none (by rw [am_fs_len]; omega)]
theorem am_fs_sr {μ : Nat × Nat → Nat} {h : am_H} {s k j ci : Nat} {o : Option (Nat × Nat)} (e : am_ci s = ci) (hj : j < am_nf ci) (hr : am_rf ci j = true) : (am_fs μ h s k).set j (am_v μ (.inr (.inr o))) = am_fs μ (m_sr h s k j o) s k := by
  subst e
  apply List.ext_getElem?
  intro i
  by_cases hi : j = i
  · subst hi
    rw [List.getElem?_set_self (by rw [am_fs_len]; exact hj), am_fs_get rfl hj, hr]
    show some (va_rf _) = some (va_rf _)
    rw [m_gr_sr, if_pos ⟨rfl, rfl, rfl⟩]
  · rw [List.getElem?_set_ne hi]
    by_cases hl : i < am_nf (am_ci s)
    · rw [am_fs_get rfl hl, am_fs_get rfl hl]
      congr 1
      cases am_rf (am_ci s) i
      · rfl
      · show va_rf _ = va_rf _
        rw [m_gr_sr, if_neg (fun q => hi q.2.2.symm)]
    · rw [List.getElem?_eq_none (by rw [am_fs_len]; omega), List.getElem?_eq_none (by rw [am_fs_len]; omega)]
section SimMem
variable {M : am_M} {d pc : Nat} {lv : List (Option am_V)} {st : List am_V} {h : am_H} {r : am_R}
/-- a step that reads the thing a -/
theorem sim_rd {pc' : Nat} {st' : List am_V} {a : Nat × Nat} (ha : .inr (.inr (some a)) ∈ st) (hk : am_kd a.1 ≠ 9)
    (hc : am_cls h st → (∀ (s k j : Nat) (c : Nat × Nat), m_gr h s k j = some c → c.2 < m_nx h c.1) → am_cls h st')
    (go : ∀ (l : Launch) (D : va_G) (dA : Nat → ClassId) (p : Program) (e : Env) (R : Room) (s : State) (m : MethodId) (args : Array Value) (below : List Frame) (meth : Method) (c : Code) (Q : State → Prop) (μ : Nat × Nat → Nat) (H : Heap) (locs : List Loc) (cells slots : Nat) (ls : Array Slot) (L : List (Nat × Nat)) (i : Nat),
      p.tables.exec = Jvm.exec → c.code = M.2.1 → s.vm.findClass M.1.cls = some m.cls → (∀ w ∈ am_T, w.before args s = true) → va_K D vwCl (am_tys dA) s → va_P D vwCl (am_ws dA μ h L) H → (am_ws dA μ h L)[i]? = some (μ a, am_ent dA μ h a) →
      W p l e R s m args below meth c H locs cells slots Q (F0 m pc' ls (st'.map (am_v μ))) → W p l e R s m args below meth c H locs cells slots Q (F0 m pc ls (st.map (am_v μ))))
    (k : Sim M d pc' lv st' h r) : Sim M d pc lv st h r := by
  intro h' o e
  obtain ⟨q1, q2⟩ := k h' o e
  refine ⟨q1, fun l D dA base b n xs p e R s m args below meth c mc ms Qc XC C μ H locs cells slots ls a1 a2 a3 a4 a5 a6 a7 => ?_⟩
  obtain ⟨L, b1, b2, b3, b4, b5, b6⟩ := id a1
  obtain ⟨i, hi⟩ := List.getElem?_of_mem ((b4 a).mpr ⟨a4 _ ha, hk⟩)
  exact go l D dA p e R s m args below meth c _ μ H locs cells slots ls L i C.1 C.2.1 C.2.2.2.2.1 C.2.2.2.2.2.2.2.1 C.2.2.2.2.2.2.2.2.2.2.2.1 b1 (am_ws_at hi) (q2 l D dA base b n xs p e R s m args below meth c mc ms Qc XC C μ H locs cells slots ls a1 a2 a3 (hc a4 b5) a5 a6 a7)
theorem am_kd0 {s ci : Nat} (h : am_isO s ci = true) : am_kd s ≠ 9 := by rw [(am_isO_of h).1]; decide
theorem am_kd1 {s ty : Nat} (h : am_isA s ty = true) : am_kd s ≠ 9 := by rw [(am_isA_of h).1]; decide
theorem am_kd4 {s : Nat} (h : am_isL s = true) : am_kd s ≠ 9 := by rw [(am_isL_of h).1]; decide
theorem am_kd5 {s : Nat} (h : am_isR s = true) : am_kd s ≠ 9 := by rw [am_isR_of h]; decide
theorem sim_getI {a : Nat × Nat} {ix i : Nat} (ci j : Nat) {C : String} {T : u_T} {N : Nat} (d0 : decode M.2.1 pc = .ok (.getfield ix, 3)) (hcl : vwCl[ci]? = some (C, T, N)) (hw : lw_tbl[i]? = some (.fieldLink M.1.cls ix (T j).1 (T j).2.1 (T j).2.2.1)) (hj : j < N) (hr : am_rf ci j = false)
    (k : Sim M d (pc + 3) lv (.inl (m_gi h a.1 a.2 j) :: st) h r) : Sim M d pc lv (.inr (.inr (some a)) :: st) h (m_ck (am_isO a.1 ci) r) :=
  sim_ck fun ho => sim_rd (a := a) List.mem_cons_self (am_kd0 ho) (fun c _ => c.tail.cons am_clo_i) (fun l D dA p e R s m args below meth c Q μ H locs cells slots ls L q hx hb hown ht hK hP hq k => by
    obtain ⟨f1, f2, f3, f4, f5⟩ := am_clF hcl
    rw [am_ent0 ho] at hq
    refine va_get hx hb ht f2 hown hK hP q hq hcl j hj (am_Tw ht hw rfl) (fun _ h9 => h9) (am_fs_get (am_isO_of ho).2 (by rw [← f1]; exact hj)) d0 ?_
    rw [hr]
    exact k) k
theorem sim_getR {a : Nat × Nat} {ix i : Nat} (ci j : Nat) {C : String} {T : u_T} {N : Nat} (d0 : decode M.2.1 pc = .ok (.getfield ix, 3)) (hcl : vwCl[ci]? = some (C, T, N)) (hw : lw_tbl[i]? = some (.fieldLink M.1.cls ix (T j).1 (T j).2.1 (T j).2.2.1)) (hj : j < N) (hr : am_rf ci j = true)
    (k : Sim M d (pc + 3) lv (.inr (.inr (m_gr h a.1 a.2 j)) :: st) h r) : Sim M d pc lv (.inr (.inr (some a)) :: st) h (m_ck (am_isO a.1 ci) r) :=
  sim_ck fun ho => sim_rd (a := a) List.mem_cons_self (am_kd0 ho) (fun c g => c.tail.cons (by
      cases hg : m_gr h a.1 a.2 j with
      | none => exact am_clo_n
      | some c => exact g _ _ _ _ hg)) (fun l D dA p e R s m args below meth c Q μ H locs cells slots ls L q hx hb hown ht hK hP hq k => by
    obtain ⟨f1, f2, f3, f4, f5⟩ := am_clF hcl
    rw [am_ent0 ho] at hq
    refine va_get hx hb ht f2 hown hK hP q hq hcl j hj (am_Tw ht hw rfl) (fun _ h9 => h9) (am_fs_get (am_isO_of ho).2 (by rw [← f1]; exact hj)) d0 ?_
    rw [hr]
    exact k) k
theorem sim_iald {a : Nat × Nat} {i : Int32} (d0 : decode M.2.1 pc = .ok (.iaload, 1)) (k : Sim M d (pc + 1) lv (.inl (m_gi h a.1 a.2 i.toNatClampNeg) :: st) h r) : Sim M d pc lv (.inl i :: .inr (.inr (some a)) :: st) h (m_ck (am_isA a.1 0 && m_in i (am_ln a.1)) r) :=
  sim_ck fun ho => by
    obtain ⟨o1, o2⟩ := Bool.and_eq_true_iff.mp ho
    exact sim_rd (a := a) (List.mem_cons_of_mem _ List.mem_cons_self) (am_kd1 o1) (fun c _ => c.tail.tail.cons am_clo_i) (fun l D dA p e R s m args below meth c Q μ H locs cells slots ls L q hx hb hown ht hK hP hq k => by
      rw [am_ent1 o1] at hq
      exact va_iald hx hb hK hP q 0 hq rfl (am_in_of o2) d0 k) k
theorem sim_zald {a : Nat × Nat} {i : Int32} (d0 : decode M.2.1 pc = .ok (.baload, 1)) (k : Sim M d (pc + 1) lv (.inl (m_gi h a.1 a.2 i.toNatClampNeg) :: st) h r) : Sim M d pc lv (.inl i :: .inr (.inr (some a)) :: st) h (m_ck (am_isA a.1 1 && m_in i (am_ln a.1)) r) :=
  sim_ck fun ho => by
    obtain ⟨o1, o2⟩ := Bool.and_eq_true_iff.mp ho
    exact sim_rd (a := a) (List.mem_cons_of_mem _ List.mem_cons_self) (am_kd1 o1) (fun c _ => c.tail.tail.cons am_clo_i) (fun l D dA p e R s m args below meth c Q μ H locs cells slots ls L q hx hb hown ht hK hP hq k => by
      rw [am_ent1 o1] at hq
      exact va_zald hx hb hK hP q 1 hq rfl (am_in_of o2) d0 k) k
theorem sim_cald {a : Nat × Nat} {i : Int32} (d0 : decode M.2.1 pc = .ok (.caload, 1)) (k : Sim M d (pc + 1) lv (.inl (m_gi h a.1 a.2 i.toNatClampNeg) :: st) h r) : Sim M d pc lv (.inl i :: .inr (.inr (some a)) :: st) h (m_ck (am_isA a.1 2 && m_in i (am_ln a.1)) r) :=
  sim_ck fun ho => by
    obtain ⟨o1, o2⟩ := Bool.and_eq_true_iff.mp ho
    exact sim_rd (a := a) (List.mem_cons_of_mem _ List.mem_cons_self) (am_kd1 o1) (fun c _ => c.tail.tail.cons am_clo_i) (fun l D dA p e R s m args below meth c Q μ H locs cells slots ls L q hx hb hown ht hK hP hq k => by
      rw [am_ent1 o1] at hq
      exact va_cald hx hb hK hP q 2 hq rfl (am_in_of o2) d0 k) k
def am_rty (t : Nat) : Option (Nat × String) := match t with
  | 4 => some (3, RX3)
  | 5 => some (9, RX9)
  | 6 => some (0, RX0)
  | 7 => some (1, RX1)
  | 8 => some (6, RX6)
  | _ => none
theorem am_rty_tys {dA : Nat → ClassId} {t c : Nat} {C : String} (h : am_rty t = some (c, C)) : (am_tys dA)[t]? = some (dA t, .object C) ∧ ∃ T N, vwCl[c]? = some (C, T, N) := by
  match t, h with
  | 4, h => cases h; exact ⟨rfl, _, _, rfl⟩
  | 5, h => cases h; exact ⟨rfl, _, _, rfl⟩
  | 6, h => cases h; exact ⟨rfl, _, _, rfl⟩
  | 7, h => cases h; exact ⟨rfl, _, _, rfl⟩
  | 8, h => cases h; exact ⟨rfl, _, _, rfl⟩
def am_isQ (s t : Nat) : Bool := am_kd s == 5 && am_ty s == t
theorem am_isQ_of {s t : Nat} (h : am_isQ s t = true) : am_isR s = true ∧ am_ty s = t := by simpa [am_isQ, am_isR] using h
theorem sim_aald {a : Nat × Nat} {i : Int32} (t : Nat) {c : Nat} {C : String} (ht : am_rty t = some (c, C)) (d0 : decode M.2.1 pc = .ok (.aaload, 1)) (k : Sim M d (pc + 1) lv (.inr (.inr (m_gr h a.1 a.2 i.toNatClampNeg)) :: st) h r) : Sim M d pc lv (.inl i :: .inr (.inr (some a)) :: st) h (m_ck (am_isQ a.1 t && m_in i (am_ln a.1)) r) :=
  sim_ck fun ho => by
    obtain ⟨o1, o2⟩ := Bool.and_eq_true_iff.mp ho
    obtain ⟨o3, o4⟩ := am_isQ_of o1
    exact sim_rd (a := a) (List.mem_cons_of_mem _ List.mem_cons_self) (am_kd5 o3) (fun c g => c.tail.tail.cons (by
      cases hg : m_gr h a.1 a.2 i.toNatClampNeg with
      | none => exact am_clo_n
      | some c => exact g _ _ _ _ hg)) (fun l D dA p e R s m args below meth c Q μ H locs cells slots ls L q hx hb hown ht9 hK hP hq k => by
      rw [am_ent5 o3, o4] at hq
      exact va_aldq hx hb hK hP q t hq (am_rty_tys ht).1 (am_in_of o2) d0 k) k
theorem sim_alenI {a : Nat × Nat} (v : Int32) (d0 : decode M.2.1 pc = .ok (.arraylength, 1)) (k : Sim M d (pc + 1) lv (.inl (Int32.ofNat (am_ln a.1)) :: st) h r) : Sim M d pc lv (.inr (.inr (some a)) :: st) h (m_ck (am_isA a.1 0) r) :=
  sim_ck fun o1 => sim_rd (a := a) List.mem_cons_self (am_kd1 o1) (fun c _ => c.tail.cons am_clo_i) (fun l D dA p e R s m args below meth c Q μ H locs cells slots ls L q hx hb hown ht hK hP hq k => by
      rw [am_ent1 o1] at hq
      exact va_alen hx hb hK hP q 0 hq (ty := .int) rfl rfl d0 k) k
/-- a step that writes into the thing a -/
theorem sim_wr {pc' : Nat} {st' : List am_V} {a : Nat × Nat} {h1 : am_H} (ha : .inr (.inr (some a)) ∈ st) (hk : am_kd a.1 ≠ 9) (hle : am_le h h1) (hcs : m_nc h1 = m_nc h ∧ m_ns h1 = m_ns h) (hnx : m_nx h1 = m_nx h)
    (hc : am_cls h st → am_cls h st') (hcl : am_cls h st → (∀ (s k j : Nat) (c : Nat × Nat), m_gr h s k j = some c → c.2 < m_nx h c.1) → (∀ (s k j : Nat) (c : Nat × Nat), m_gr h1 s k j = some c → c.2 < m_nx h c.1))
    (he : ∀ (dA : Nat → ClassId) (μ : Nat × Nat → Nat) (a' : Nat × Nat), a' ≠ a → am_ent dA μ h1 a' = am_ent dA μ h a') (hg : ∀ k j, m_gi h1 1 k j = m_gi h 1 k j)
    (go : ∀ (l : Launch) (D : va_G) (dA : Nat → ClassId) (base : Nat) (p : Program) (e : Env) (R : Room) (s : State) (m : MethodId) (args : Array Value) (below : List Frame) (meth : Method) (c : Code) (Q : State → Prop) (μ : Nat × Nat → Nat) (H : Heap) (locs : List Loc) (cells slots : Nat) (ls : Array Slot) (L : List (Nat × Nat)) (i : Nat),
      p.tables.exec = Jvm.exec → c.code = M.2.1 → s.vm.findClass M.1.cls = some m.cls → (∀ w ∈ am_T, w.before args s = true) → meth.name = M.1.name → va_K D vwCl (am_tys dA) s → va_P D vwCl (am_ws dA μ h L) H → va_D (fun q : Nat => base ≤ q) (am_ws dA μ h L) → va_S (fun q : Nat => base ≤ q) s.heap H locs → (am_ws dA μ h L)[i]? = some (μ a, am_ent dA μ h a) →
      (∀ w : Nat × Nat, .inr (.inr (some w)) ∈ st → am_kd w.1 ≠ 9 → ∃ i2 : Nat, (am_ws dA μ h L)[i2]? = some (μ w, am_ent dA μ h w)) →
      (∀ (H1 : Heap) (locs1 : List Loc), va_P D vwCl ((am_ws dA μ h L).set i (μ a, am_ent dA μ h1 a)) H1 → va_D (fun q : Nat => base ≤ q) ((am_ws dA μ h L).set i (μ a, am_ent dA μ h1 a)) → va_S (fun q : Nat => base ≤ q) s.heap H1 locs1 →
        W p l e R s m args below meth c H1 locs1 cells slots Q (F0 m pc' ls (st'.map (am_v μ)))) → W p l e R s m args below meth c H locs cells slots Q (F0 m pc ls (st.map (am_v μ))))
    (k : Sim M d pc' lv st' h1 r) : Sim M d pc lv st h r := by
  intro h' o e
  obtain ⟨q1, q2⟩ := k h' o e
  refine ⟨hle.trans q1, fun l D dA base b n xs p e R s m args below meth c mc ms Qc XC C μ H locs cells slots ls a1 a2 a3 a4 a5 a6 a7 => ?_⟩
  obtain ⟨L, b1, b2, b3, b4, b5, b6, b7, b8, b9⟩ := id a1
  obtain ⟨i, hi⟩ := List.getElem?_of_mem ((b4 a).mpr ⟨a4 _ ha, hk⟩)
  refine go l D dA base p e R s m args below meth c _ μ H locs cells slots ls L i C.1 C.2.1 C.2.2.2.2.1 C.2.2.2.2.2.2.2.1 C.2.2.2.2.2.2.1 C.2.2.2.2.2.2.2.2.2.2.2.1 b1 b2 a2 (am_ws_at hi) (fun w hw hk2 => by
    obtain ⟨i2, hi2⟩ := List.getElem?_of_mem ((b4 w).mpr ⟨a4 _ hw, hk2⟩)
    exact ⟨i2, am_ws_at hi2⟩) (fun H1 locs1 c1 c2 c3 => ?_)
  rw [am_ws_set hi b3 (he dA μ)] at c1 c2
  refine q2 l D dA base b n xs p e R s m args below meth c mc ms Qc XC C μ H1 locs1 cells slots ls ⟨L, c1, c2, b3, by rw [hnx]; exact b4, by rw [hnx]; exact hcl a4 b5, b6, fun j => by rw [hg]; exact b7 j, by rw [hg]; exact b8, by rw [hnx]; exact b9⟩ c3 (a3.move (am_ext.refl μ h) hle) ((hc a4).mono hle) (by rw [hcs.1]; exact a5) (by rw [hcs.2]; exact a6) (fun μ' t e1 e2 e3 e4 => a7 μ' t (fun z hz => e1 z (by rw [hnx]; exact hz)) e2 e3 e4)
theorem am_1 {s : Nat} (h : am_kd s ≠ 9) : ¬ 1 = s := fun e => h (by rw [← e]; rfl)
theorem sim_putI {a : Nat × Nat} {ix i : Nat} {x : Int32} (ci j : Nat) {C : String} {T : u_T} {N : Nat} (d0 : decode M.2.1 pc = .ok (.putfield ix, 3)) (hcl : vwCl[ci]? = some (C, T, N)) (hw : lw_tbl[i]? = some (.fieldLink M.1.cls ix (T j).1 (T j).2.1 (T j).2.2.1)) (hj : j < N) (hr : am_rf ci j = false) (hfin : (T j).2.2.2 = false ∨ ((T j).2.2.2 = true ∧ M.1.name = "<init>" ∧ (T j).1 = M.1.cls))
    (hn : narrow (am_tyX ci j) (.int x) = .int x ∧ fits (am_tyX ci j) (.int x) = true)
    (k : Sim M d (pc + 3) lv st (m_si h a.1 a.2 j x) r) : Sim M d pc lv (.inl x :: .inr (.inr (some a)) :: st) h (m_ck (am_isO a.1 ci) r) :=
  sim_ck fun ho => sim_wr (a := a) (h1 := m_si h a.1 a.2 j x) (List.mem_cons_of_mem _ List.mem_cons_self) (am_kd0 ho) (am_le_si _ _ _ _ _) ⟨rfl, rfl⟩ rfl (fun c => c.tail.tail) (fun _ g => g) (fun dA μ a' hne => am_ent_si a' hne) (fun k9 j9 => by rw [m_gi_si, if_neg (fun q => am_1 (am_kd0 ho) q.1)])
    (fun l D dA base p e R s m args below meth c Q μ H locs cells slots ls L q hx hb hown ht hin hK hP hD hS hq _ kk => by
    obtain ⟨f1, f2, f3, f4, f5⟩ := am_clF hcl
    rw [am_ent0 ho] at hq
    have e2 := (am_isO_of ho).2
    have hj2 : j < am_nf ci := by rw [← f1]; exact hj
    rcases hfin with hfin | ⟨hf1, hf2, hf3⟩
    · refine va_put hx hb ht f2 (am_tyX ci) f3 f4 hown hK hP hD hS q hq hcl j hj (am_Tw ht hw rfl) (fun _ h9 => h9) hfin (f3 j hj) hn.1 hn.2 (by rw [am_fs_len, e2]; exact hj2) d0 (fun H1 locs1 c1 c2 c3 => ?_)
      rw [am_fs_si e2 hj2 hr] at c1 c2
      exact kk H1 locs1 (by rw [am_ent0 ho]; exact c1) (by rw [am_ent0 ho]; exact c2) c3
    · refine va_putF hx hb ht f2 (am_tyX ci) f3 f4 hown hK hP hD hS q hq hcl j hj (am_Tw ht hw rfl) (fun _ h9 => h9) hf1 (hin.trans hf2) hf3 (f3 j hj) hn.1 hn.2 (by rw [am_fs_len, e2]; exact hj2) d0 (fun H1 locs1 c1 c2 c3 => ?_)
      rw [am_fs_si e2 hj2 hr] at c1 c2
      exact kk H1 locs1 (by rw [am_ent0 ho]; exact c1) (by rw [am_ent0 ho]; exact c2) c3) k
theorem sim_putZ {a : Nat × Nat} {ix i : Nat} {x : Int32} (ci j : Nat) {C : String} {T : u_T} {N : Nat} (d0 : decode M.2.1 pc = .ok (.putfield ix, 3)) (hcl : vwCl[ci]? = some (C, T, N)) (hw : lw_tbl[i]? = some (.fieldLink M.1.cls ix (T j).1 (T j).2.1 (T j).2.2.1)) (hj : j < N) (hr : am_rf ci j = false) (hfin : (T j).2.2.2 = false ∨ ((T j).2.2.2 = true ∧ M.1.name = "<init>" ∧ (T j).1 = M.1.cls)) (hty : am_tyX ci j = .boolean)
    (k : Sim M d (pc + 3) lv st (m_si h a.1 a.2 j x) r) : Sim M d pc lv (.inl x :: .inr (.inr (some a)) :: st) h (m_ck (m_nz x) (m_ck (am_isO a.1 ci) r)) :=
  sim_ck fun hz => sim_putI ci j d0 hcl hw hj hr hfin (by rw [hty]; exact ⟨(am_nz_n hz).1, (am_nz_n hz).2.1⟩) k
theorem sim_putC {a : Nat × Nat} {ix i : Nat} {x : Int32} (ci j : Nat) {C : String} {T : u_T} {N : Nat} (d0 : decode M.2.1 pc = .ok (.putfield ix, 3)) (hcl : vwCl[ci]? = some (C, T, N)) (hw : lw_tbl[i]? = some (.fieldLink M.1.cls ix (T j).1 (T j).2.1 (T j).2.2.1)) (hj : j < N) (hr : am_rf ci j = false) (hfin : (T j).2.2.2 = false ∨ ((T j).2.2.2 = true ∧ M.1.name = "<init>" ∧ (T j).1 = M.1.cls)) (hty : am_tyX ci j = .char)
    (k : Sim M d (pc + 3) lv st (m_si h a.1 a.2 j x) r) : Sim M d pc lv (.inl x :: .inr (.inr (some a)) :: st) h (m_ck (m_nzc x) (m_ck (am_isO a.1 ci) r)) :=
  sim_ck fun hz => sim_putI ci j d0 hcl hw hj hr hfin (by rw [hty]; exact ⟨(am_nzc_n hz).1, (am_nzc_n hz).2.1⟩) k
theorem am_fits_r {t : FieldType} {o : Option Nat} (h : am_refT t = true) : narrow t (va_rf o) = va_rf o ∧ fits t (va_rf o) = true := by
  cases t <;> first | (simp [am_refT] at h; done) | (cases o <;> exact ⟨rfl, rfl⟩)
theorem sim_putR {a : Nat × Nat} {ix i : Nat} {o : Option (Nat × Nat)} (ci j : Nat) {C : String} {T : u_T} {N : Nat} (d0 : decode M.2.1 pc = .ok (.putfield ix, 3)) (hcl : vwCl[ci]? = some (C, T, N)) (hw : lw_tbl[i]? = some (.fieldLink M.1.cls ix (T j).1 (T j).2.1 (T j).2.2.1)) (hj : j < N) (hr : am_rf ci j = true) (hfin : (T j).2.2.2 = false ∨ ((T j).2.2.2 = true ∧ M.1.name = "<init>" ∧ (T j).1 = M.1.cls))
    (k : Sim M d (pc + 3) lv st (m_sr h a.1 a.2 j o) r) : Sim M d pc lv (.inr (.inr o) :: .inr (.inr (some a)) :: st) h (m_ck (am_isO a.1 ci) r) :=
  sim_ck fun ho => sim_wr (a := a) (h1 := m_sr h a.1 a.2 j o) (List.mem_cons_of_mem _ List.mem_cons_self) (am_kd0 ho) (am_le_sr _ _ _ _ _) ⟨rfl, rfl⟩ rfl (fun c => c.tail.tail) (fun c g s k j c9 hc9 => by
      rw [m_gr_sr] at hc9
      split at hc9
      · have := c.head
        rw [hc9] at this
        exact this
      · exact g _ _ _ _ hc9) (fun dA μ a' hne => am_ent_sr a' hne) (fun k9 j9 => rfl)
    (fun l D dA base p e R s m args below meth c Q μ H locs cells slots ls L q hx hb hown ht hin hK hP hD hS hq _ kk => by
    obtain ⟨f1, f2, f3, f4, f5⟩ := am_clF hcl
    rw [am_ent0 ho] at hq
    have e2 := (am_isO_of ho).2
    have hj2 : j < am_nf ci := by rw [← f1]; exact hj
    have hn : narrow (am_tyX ci j) (va_rf (o.map μ)) = va_rf (o.map μ) ∧ fits (am_tyX ci j) (va_rf (o.map μ)) = true := am_fits_r ((f5 j hj).symm.trans hr)
    rcases hfin with hfin | ⟨hf1, hf2, hf3⟩
    · refine va_put hx hb ht f2 (am_tyX ci) f3 f4 hown hK hP hD hS q hq hcl j hj (am_Tw ht hw rfl) (fun _ h9 => h9) hfin (f3 j hj) hn.1 hn.2 (by rw [am_fs_len, e2]; exact hj2) d0 (fun H1 locs1 c1 c2 c3 => ?_)
      rw [am_fs_sr e2 hj2 hr] at c1 c2
      exact kk H1 locs1 (by rw [am_ent0 ho]; exact c1) (by rw [am_ent0 ho]; exact c2) c3
    · refine va_putF hx hb ht f2 (am_tyX ci) f3 f4 hown hK hP hD hS q hq hcl j hj (am_Tw ht hw rfl) (fun _ h9 => h9) hf1 (hin.trans hf2) hf3 (f3 j hj) hn.1 hn.2 (by rw [am_fs_len, e2]; exact hj2) d0 (fun H1 locs1 c1 c2 c3 => ?_)
      rw [am_fs_sr e2 hj2 hr] at c1 c2
      exact kk H1 locs1 (by rw [am_ent0 ho]; exact c1) (by rw [am_ent0 ho]; exact c2) c3) k
theorem am_upd_si {h : am_H} {a : Nat × Nat} {j : Nat} {x : Int32} : upd (fun i => m_gi h a.1 a.2 i) j x = fun i => m_gi (m_si h a.1 a.2 j x) a.1 a.2 i := by
  funext i
  show (if i = j then x else _) = _
  rw [m_gi_si]
  by_cases q : i = j
  · rw [if_pos q, if_pos ⟨rfl, rfl, q⟩]
  · rw [if_neg q, if_neg (fun z => q z.2.2)]
theorem sim_iast {a : Nat × Nat} {i x : Int32} (d0 : decode M.2.1 pc = .ok (.iastore, 1)) (k : Sim M d (pc + 1) lv st (m_si h a.1 a.2 i.toNatClampNeg x) r) : Sim M d pc lv (.inl x :: .inl i :: .inr (.inr (some a)) :: st) h (m_ck (am_isA a.1 0 && m_in i (am_ln a.1)) r) :=
  sim_ck fun ho => by
    obtain ⟨o1, o2⟩ := Bool.and_eq_true_iff.mp ho
    exact sim_wr (a := a) (h1 := m_si h a.1 a.2 i.toNatClampNeg x) (List.mem_cons_of_mem _ (List.mem_cons_of_mem _ List.mem_cons_self)) (am_kd1 o1) (am_le_si _ _ _ _ _) ⟨rfl, rfl⟩ rfl (fun c => c.tail.tail.tail) (fun _ g => g) (fun dA μ a' hne => am_ent_si a' hne) (fun k9 j9 => by rw [m_gi_si, if_neg (fun q => am_1 (am_kd1 o1) q.1)])
      (fun l D dA base p e R s m args below meth c Q μ H locs cells slots ls L q hx hb hown ht hin hK hP hD hS hq _ kk => by
      rw [am_ent1 o1] at hq
      refine va_iast hx hb hK hP hD hS q 0 hq rfl (am_in_of o2) d0 (fun H1 locs1 c1 c2 c3 => ?_)
      rw [am_upd_si] at c1 c2
      exact kk H1 locs1 (by rw [am_ent1 o1]; exact c1) (by rw [am_ent1 o1]; exact c2) c3) k
theorem sim_zast {a : Nat × Nat} {i x : Int32} (d0 : decode M.2.1 pc = .ok (.bastore, 1)) (k : Sim M d (pc + 1) lv st (m_si h a.1 a.2 i.toNatClampNeg x) r) : Sim M d pc lv (.inl x :: .inl i :: .inr (.inr (some a)) :: st) h (m_ck (m_nz x) (m_ck (am_isA a.1 1 && m_in i (am_ln a.1)) r)) :=
  sim_ck fun hz => sim_ck fun ho => by
    obtain ⟨o1, o2⟩ := Bool.and_eq_true_iff.mp ho
    exact sim_wr (a := a) (h1 := m_si h a.1 a.2 i.toNatClampNeg x) (List.mem_cons_of_mem _ (List.mem_cons_of_mem _ List.mem_cons_self)) (am_kd1 o1) (am_le_si _ _ _ _ _) ⟨rfl, rfl⟩ rfl (fun c => c.tail.tail.tail) (fun _ g => g) (fun dA μ a' hne => am_ent_si a' hne) (fun k9 j9 => by rw [m_gi_si, if_neg (fun q => am_1 (am_kd1 o1) q.1)])
      (fun l D dA base p e R s m args below meth c Q μ H locs cells slots ls L q hx hb hown ht hin hK hP hD hS hq _ kk => by
      rw [am_ent1 o1] at hq
      refine va_zast hx hb hK hP hD hS q 1 hq rfl (am_in_of o2) d0 (fun H1 locs1 c1 c2 c3 => ?_)
      rw [(am_nz_n hz).2.2, am_upd_si] at c1 c2
      exact kk H1 locs1 (by rw [am_ent1 o1]; exact c1) (by rw [am_ent1 o1]; exact c2) c3) k
theorem sim_cast {a : Nat × Nat} {i x : Int32} (d0 : decode M.2.1 pc = .ok (.castore, 1)) (k : Sim M d (pc + 1) lv st (m_si h a.1 a.2 i.toNatClampNeg x) r) : Sim M d pc lv (.inl x :: .inl i :: .inr (.inr (some a)) :: st) h (m_ck (m_nzc x) (m_ck (am_isA a.1 2 && m_in i (am_ln a.1)) r)) :=
  sim_ck fun hz => sim_ck fun ho => by
    obtain ⟨o1, o2⟩ := Bool.and_eq_true_iff.mp ho
    exact sim_wr (a := a) (h1 := m_si h a.1 a.2 i.toNatClampNeg x) (List.mem_cons_of_mem _ (List.mem_cons_of_mem _ List.mem_cons_self)) (am_kd1 o1) (am_le_si _ _ _ _ _) ⟨rfl, rfl⟩ rfl (fun c => c.tail.tail.tail) (fun _ g => g) (fun dA μ a' hne => am_ent_si a' hne) (fun k9 j9 => by rw [m_gi_si, if_neg (fun q => am_1 (am_kd1 o1) q.1)])
      (fun l D dA base p e R s m args below meth c Q μ H locs cells slots ls L q hx hb hown ht hin hK hP hD hS hq _ kk => by
      rw [am_ent1 o1] at hq
      refine va_cast hx hb hK hP hD hS q 2 hq rfl (am_in_of o2) d0 (fun H1 locs1 c1 c2 c3 => ?_)
      rw [(am_nzc_n hz).2.2, am_upd_si] at c1 c2
      exact kk H1 locs1 (by rw [am_ent1 o1]; exact c1) (by rw [am_ent1 o1]; exact c2) c3) k
theorem sim_aast {a w : Nat × Nat} {i : Int32} (t : Nat) {c : Nat} {C : String} (ht0 : am_rty t = some (c, C)) (d0 : decode M.2.1 pc = .ok (.aastore, 1)) (k : Sim M d (pc + 1) lv st (m_sr h a.1 a.2 i.toNatClampNeg (some w)) r) : Sim M d pc lv (.inr (.inr (some w)) :: .inl i :: .inr (.inr (some a)) :: st) h (m_ck (am_isO w.1 c && (am_isQ a.1 t && m_in i (am_ln a.1))) r) :=
  sim_ck fun ho0 => by
    obtain ⟨ho9, ho⟩ := Bool.and_eq_true_iff.mp ho0
    obtain ⟨o1, o2⟩ := Bool.and_eq_true_iff.mp ho
    obtain ⟨o3, o4⟩ := am_isQ_of o1
    exact sim_wr (a := a) (h1 := m_sr h a.1 a.2 i.toNatClampNeg (some w)) (List.mem_cons_of_mem _ (List.mem_cons_of_mem _ List.mem_cons_self)) (am_kd5 o3) (am_le_sr _ _ _ _ _) ⟨rfl, rfl⟩ rfl (fun c => c.tail.tail.tail) (fun c g s k j c9 hc9 => by
        rw [m_gr_sr] at hc9
        split at hc9
        · have := c.head
          rw [hc9] at this
          exact this
        · exact g _ _ _ _ hc9) (fun dA μ a' hne => am_ent_sr a' hne) (fun k9 j9 => rfl)
      (fun l D dA base p e R s m args below meth c Q μ H locs cells slots ls L q hx hb hown ht hin hK hP hD hS hq hwx kk => by
      obtain ⟨i2, hi2⟩ := hwx w List.mem_cons_self (am_kd0 ho9)
      obtain ⟨g1, T, N, g2⟩ := am_rty_tys (dA := dA) ht0
      rw [am_ent0 ho9] at hi2
      rw [am_ent5 o3, o4] at hq
      refine va_astq hx hb hK hP hD hS q t i2 _ hq g1 hi2 g2 (am_in_of o2) d0 (fun H1 locs1 c1 c2 c3 => ?_)
      rw [show va_up (fun j => (m_gr h a.1 a.2 j).map μ) i.toNatClampNeg (some (μ w)) = fun j => (m_gr (m_sr h a.1 a.2 i.toNatClampNeg (some w)) a.1 a.2 j).map μ from by
        funext z
        show (if z = i.toNatClampNeg then _ else _) = _
        rw [m_gr_sr]
        by_cases q : z = i.toNatClampNeg
        · rw [if_pos q, if_pos ⟨rfl, rfl, q⟩]; rfl
        · rw [if_neg q, if_neg (fun z => q z.2.2)]] at c1 c2
      exact kk H1 locs1 (by rw [am_ent5 o3, o4]; exact c1) (by rw [am_ent5 o3, o4]; exact c2) c3) k
end SimMem
