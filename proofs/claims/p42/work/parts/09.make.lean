/-! ## rows that make things, throw, call -/
def am_up (μ : Nat × Nat → Nat) (a : Nat × Nat) (q : Nat) : Nat × Nat → Nat := fun z => if z = a then q else μ z
theorem am_up_ne {μ : Nat × Nat → Nat} {a z : Nat × Nat} {q : Nat} (h : z ≠ a) : am_up μ a q z = μ z := if_neg h
theorem am_up_eq {μ : Nat × Nat → Nat} {a : Nat × Nat} {q : Nat} : am_up μ a q a = q := if_pos rfl
theorem m_nx_al (h : am_H) (s n a : Nat) : m_nx (m_al h s n) a = if a = s then m_nx h s + 1 else m_nx h a := rfl
theorem m_gi_al (h : am_H) (s n a b c : Nat) : m_gi (m_al h s n) a b c = if a = s ∧ b = m_nx h s then 0 else m_gi h a b c := rfl
theorem m_gr_al (h : am_H) (s n a b c : Nat) : m_gr (m_al h s n) a b c = if a = s ∧ b = m_nx h s then none else m_gr h a b c := rfl
theorem m_gl_al (h : am_H) (s n a b c : Nat) : m_gl (m_al h s n) a b c = if a = s ∧ b = m_nx h s then 0 else m_gl h a b c := rfl
theorem am_lt_ne {h : am_H} {s : Nat} {a : Nat × Nat} (ha : a.2 < m_nx h a.1) : a ≠ (s, m_nx h s) := fun e => by
  rw [e] at ha
  exact Nat.lt_irrefl _ ha
theorem am_up_ext {h : am_H} {μ : Nat × Nat → Nat} {s q : Nat} : am_ext μ h (am_up μ (s, m_nx h s) q) := fun a ha => am_up_ne (am_lt_ne ha)
theorem am_ws_al {dA : Nat → ClassId} {μ : Nat × Nat → Nat} {h : am_H} {L : List (Nat × Nat)} {s n q : Nat} (hL : ∀ a ∈ L, a.2 < m_nx h a.1) (hcl : ∀ (s k j : Nat) (c : Nat × Nat), m_gr h s k j = some c → c.2 < m_nx h c.1) :
    am_ws dA μ h L ++ [(q, am_ent dA (am_up μ (s, m_nx h s) q) (m_al h s n) (s, m_nx h s))] = am_ws dA (am_up μ (s, m_nx h s) q) (m_al h s n) (L ++ [(s, m_nx h s)]) := by
  unfold am_ws
  rw [List.map_append]
  congr 1
  · apply List.map_congr_left
    intro a ha
    have hne := am_lt_ne (s := s) (hL a ha)
    have h2 : ¬ (a.1 = s ∧ a.2 = m_nx h s) := fun z => hne (Prod.ext z.1 z.2)
    rw [am_up_ne hne, am_ent_eq (μ1 := am_up μ (s, m_nx h s) q) (h1 := m_al h s n) (h := h) (μ := μ) (fun j => by rw [m_gi_al, if_neg h2]) (fun j => by
      rw [m_gr_al, if_neg h2]
      cases hg : m_gr h a.1 a.2 j with
      | none => rfl
      | some c => exact congrArg some (am_up_ne (am_lt_ne (hcl _ _ _ _ hg)))) (fun j => by rw [m_gl_al, if_neg h2])]
  · show _ = [((am_up μ (s, m_nx h s) q) (s, m_nx h s), _)]
    rw [am_up_eq]
theorem am_Rel_al {D : va_G} {dA : Nat → ClassId} {base b n0 : Nat} {xs : Nat → Int32} {μ : Nat × Nat → Nat} {h : am_H} {s n q : Nat} {L : List (Nat × Nat)} {H1 : Heap} (hs : am_kd s ≠ 9)
    (b3 : L.Nodup) (b4 : ∀ a : Nat × Nat, a ∈ L ↔ a.2 < m_nx h a.1 ∧ am_kd a.1 ≠ 9) (b5 : ∀ (s k j : Nat) (c : Nat × Nat), m_gr h s k j = some c → c.2 < m_nx h c.1) (b6 : μ (1, 0) = b) (b7 : ∀ j : Nat, m_gi h 1 0 j = xs j) (b8 : m_gi h 1 1 0 = Int32.ofNat n0) (b9 : 0 < m_nx h 1)
    (c1 : va_P D vwCl (am_ws dA μ h L ++ [(q, am_ent dA (am_up μ (s, m_nx h s) q) (m_al h s n) (s, m_nx h s))]) H1) (c2 : va_D (fun q : Nat => base ≤ q) (am_ws dA μ h L ++ [(q, am_ent dA (am_up μ (s, m_nx h s) q) (m_al h s n) (s, m_nx h s))])) :
    am_Rel D dA base b n0 xs (am_up μ (s, m_nx h s) q) (m_al h s n) H1 := by
  have hL : ∀ a ∈ L, a.2 < m_nx h a.1 := fun a ha => ((b4 a).mp ha).1
  have h1s : ¬ 1 = s := am_1 hs
  rw [am_ws_al hL b5] at c1 c2
  refine ⟨L ++ [(s, m_nx h s)], c1, c2, ?_, fun a => ?_, fun s' k j c hc => ?_, ?_, fun j => ?_, ?_, ?_⟩
  · rw [List.nodup_append]
    refine ⟨b3, by simp, fun a ha c hc => ?_⟩
    simp only [List.mem_singleton] at hc
    rw [hc]
    exact am_lt_ne (hL a ha)
  · rw [List.mem_append, b4 a, List.mem_singleton, m_nx_al]
    constructor
    · rintro (⟨z1, z2⟩ | z)
      · refine ⟨?_, z2⟩
        split
        · next e => rw [e] at z1; omega
        · exact z1
      · subst z
        exact ⟨by rw [if_pos rfl]; exact Nat.lt_succ_self _, hs⟩
    · rintro ⟨z1, z2⟩
      split at z1
      · next e =>
        rcases Nat.lt_or_ge a.2 (m_nx h s) with g | g
        · exact Or.inl ⟨by rw [e]; exact g, z2⟩
        · exact Or.inr (Prod.ext e (by omega))
      · exact Or.inl ⟨z1, z2⟩
  · rw [m_gr_al] at hc
    split at hc
    · cases hc
    · exact Nat.lt_of_lt_of_le (b5 _ _ _ _ hc) ((am_le_al h s n).2.2 _)
  · rw [am_up_ne (fun z => h1s (congrArg Prod.fst z))]; exact b6
  · rw [m_gi_al, if_neg (fun z => h1s z.1)]; exact b7 j
  · rw [m_gi_al, if_neg (fun z => h1s z.1)]; exact b8
  · rw [m_nx_al, if_neg h1s]; exact b9
section SimMake
variable {M : am_M} {d pc : Nat} {lv : List (Option am_V)} {st : List am_V} {h : am_H} {r : am_R}
theorem sim_al {pc' s n : Nat} {st' : List am_V} (hs : am_kd s ≠ 9) (hc : am_cls h st → am_cls h st')
    (go : ∀ (l : Launch) (D : va_G) (dA : Nat → ClassId) (base : Nat) (p : Program) (e : Env) (R : Room) (s0 : State) (m : MethodId) (args : Array Value) (below : List Frame) (meth : Method) (c : Code) (Q : State → Prop) (μ : Nat × Nat → Nat) (H : Heap) (locs : List Loc) (cells slots : Nat) (ls : Array Slot) (L : List (Nat × Nat)),
      p.tables.exec = Jvm.exec → c.code = M.2.1 → s0.vm.findClass M.1.cls = some m.cls → (∀ w ∈ am_T, w.before args s0 = true) → va_K D vwCl (am_tys dA) s0 → va_P D vwCl (am_ws dA μ h L) H → va_D (fun q : Nat => base ≤ q) (am_ws dA μ h L) → va_S (fun q : Nat => base ≤ q) s0.heap H locs → (∀ q : Nat, s0.heap.size ≤ q → base ≤ q) → cells + 1 ≤ R.cells → slots + n ≤ R.slots →
      (∀ (q : Nat) (H1 : Heap), va_P D vwCl (am_ws dA μ h L ++ [(q, am_ent dA (am_up μ (s, m_nx h s) q) (m_al h s n) (s, m_nx h s))]) H1 → va_D (fun q : Nat => base ≤ q) (am_ws dA μ h L ++ [(q, am_ent dA (am_up μ (s, m_nx h s) q) (m_al h s n) (s, m_nx h s))]) → va_S (fun q : Nat => base ≤ q) s0.heap H1 locs →
        W p l e R s0 m args below meth c H1 locs (cells + 1) (slots + n) Q (F0 m pc' ls (.ref q :: st'.map (am_v μ)))) → W p l e R s0 m args below meth c H locs cells slots Q (F0 m pc ls (st.map (am_v μ))))
    (k : Sim M d pc' lv (.inr (.inr (some (s, m_nx h s))) :: st') (m_al h s n) r) : Sim M d pc lv st h r := by
  intro h' o e
  obtain ⟨q1, q2⟩ := k h' o e
  have hle := am_le_al h s n
  refine ⟨hle.trans q1, fun l D dA base b n0 xs p e R s0 m args below meth c mc ms Qc XC C μ H locs cells slots ls a1 a2 a3 a4 a5 a6 a7 => ?_⟩
  obtain ⟨L, b1, b2, b3, b4, b5, b6, b7, b8, b9⟩ := id a1
  have hnc : m_nc (m_al h s n) = m_nc h + 1 := rfl
  have hns : m_ns (m_al h s n) = m_ns h + n := rfl
  have hq1 := q1.1
  have hq2 := q1.2.1
  have hR1 := C.2.2.2.2.2.2.2.2.2.2.1.2.2.1
  have hR2 := C.2.2.2.2.2.2.2.2.2.2.1.2.2.2
  refine go l D dA base p e R s0 m args below meth c _ μ H locs cells slots ls L C.1 C.2.1 C.2.2.2.2.1 C.2.2.2.2.2.2.2.1 C.2.2.2.2.2.2.2.2.2.2.2.1 b1 b2 a2 (fun q hq => Nat.le_trans C.2.2.2.2.2.2.2.2.2.2.2.2.2.2.2.2.1 hq) (by omega) (by omega) (fun q H1 c1 c2 c3 => ?_)
  have hrel := am_Rel_al hs b3 b4 b5 b6 b7 b8 b9 c1 c2
  have K := q2 l D dA base b n0 xs p e R s0 m args below meth c mc ms Qc XC C (am_up μ (s, m_nx h s) q) H1 locs (cells + 1) (slots + n) ls hrel c3 (a3.move am_up_ext hle)
    (((hc a4).mono hle).cons (show m_nx h s < m_nx (m_al h s n) s by rw [m_nx_al, if_pos rfl]; exact Nat.lt_succ_self _)) (by omega) (by omega) (fun μ' t e1 e2 e3 e4 => a7 μ' t (am_up_ext.trans hle e1) e2 e3 e4)
  rw [List.map_cons, am_vs_ext am_up_ext (hc a4)] at K
  rw [show am_v (am_up μ (s, m_nx h s) q) (.inr (.inr (some (s, m_nx h s)))) = .ref q from by show Value.ref (am_up μ (s, m_nx h s) q (s, m_nx h s)) = _; rw [am_up_eq]] at K
  exact K
theorem am_clD {ci : Nat} {C : String} {T : u_T} {N : Nat} (hc : vwCl[ci]? = some (C, T, N)) : ∀ k, k < N → defaultValue (am_tyX ci k) = (match am_rf ci k with | true => Value.null | false => Value.int 0) := by
  match ci, hc with
  | 0, hc => cases hc; decide +kernel
  | 1, hc => cases hc; decide +kernel
  | 2, hc => cases hc; decide +kernel
  | 3, hc => cases hc; decide +kernel
  | 4, hc => cases hc; decide +kernel
  | 5, hc => cases hc; decide +kernel
  | 6, hc => cases hc; decide +kernel
  | 7, hc => cases hc; decide +kernel
  | 8, hc => cases hc; decide +kernel
  | 9, hc => cases hc; decide +kernel
  | 10, hc => cases hc; decide +kernel
  | k + 11, hc => simp at hc
theorem sim_new {ix i1 i2 i3 : Nat} (s ci : Nat) {C : String} {T : u_T} (N : Nat) (d0 : decode M.2.1 pc = .ok (.new ix, 3)) (hcl : vwCl[ci]? = some (C, T, N)) (hs : am_isO s ci = true) (w1 : lw_tbl[i1]? = some (.classLink M.1.cls ix C)) (w2 : lw_tbl[i2]? = some (.instantiable C N)) (w3 : lw_tbl[i3]? = some (.initialized C))
    (k : Sim M d (pc + 3) lv (.inr (.inr (some (s, m_nx h s))) :: st) (m_al h s N) r) : Sim M d pc lv st h r :=
  sim_al (am_kd0 hs) (fun c => c) (fun l D dA base p e R s0 m args below meth c Q μ H locs cells slots ls L hx hb hown ht hK hP hD hS hA hcc hss kk => by
    obtain ⟨f1, f2, f3, f4, f5⟩ := am_clF hcl
    refine va_new (fs := am_fs (am_up μ (s, m_nx h s) 0) (m_al h s N) s (m_nx h s)) hx hb ht f2 (am_tyX ci) f3 hown (am_Tw ht w1 rfl) (am_Tw ht w2 rfl) (am_Tw ht w3 rfl) hK hP hD hS hA hcl (fun j hj => ?_) hcc hss d0 (fun q H1 c1 c2 c3 => kk q H1 ?_ ?_ c3)
    · have e2 := (am_isO_of hs).2
      rw [vp_V, List.getD_eq_getElem?_getD, am_fs_get e2 (by rw [← f1]; exact hj), am_clD hcl j hj]
      cases am_rf ci j
      · show Value.int 0 = Value.int _
        rw [m_gi_al, if_pos ⟨rfl, rfl⟩]
      · show Value.null = va_rf _
        rw [m_gr_al, if_pos ⟨rfl, rfl⟩]; rfl
    all_goals
      rw [am_ent0 (a := (s, m_nx h s)) hs]
      have hfs : am_fs (am_up μ (s, m_nx h s) q) (m_al h s N) s (m_nx h s) = am_fs (am_up μ (s, m_nx h s) 0) (m_al h s N) s (m_nx h s) := by
        unfold am_fs
        congr 1
        funext j
        cases am_rf (am_ci s) j
        · rfl
        · show va_rf _ = va_rf _
          rw [m_gr_al, if_pos ⟨rfl, rfl⟩]; rfl
      rw [hfs]
      assumption) k
theorem am_cA {D : va_G} {dA : Nat → ClassId} {s0 : State} {ty : FieldType} {t : Nat} {cA : ClassId} (hK : va_K D vwCl (am_tys dA) s0) (hK1 : va_K D vwCl (am_tys dA ++ [(cA, ty)]) s0) (ht : (am_tys dA)[t]? = some (dA t, ty)) : cA = dA t := by
  have h1 := (hK.2 t _ ht).2
  have h2 := (hK1.2 (am_tys dA).length (cA, ty) (by rw [List.getElem?_append_right (Nat.le_refl _), Nat.sub_self]; rfl)).2
  cases ty with
  | object C =>
    obtain ⟨_, _, _, _, _, g1⟩ := h1
    obtain ⟨_, _, _, _, _, g2⟩ := h2
    exact Option.some.inj (g2.symm.trans g1)
  | _ =>
    have g1 : s0.vm.findClass _ = some (dA t) := h1
    have g2 : s0.vm.findClass _ = some cA := h2
    exact Option.some.inj (g2.symm.trans g1)
theorem m_nlt {n : Int32} {N : Nat} (hn : n = nI N) (hN : N < 2 ^ 31) : ¬ n < 0 ∧ n.toNatClampNeg = N := by
  subst hn
  exact ⟨nI_pos hN, nI_clamp hN⟩
theorem sim_newI {atype : ArrayType} {i1 : Nat} {n : Int32} (s t : Nat) {ty : FieldType} (N : Nat) (d0 : decode M.2.1 pc = .ok (.newarray atype, 2)) (hty : newarray.typeOf atype = ty) (hs : am_isA s t = true) (hN : am_ln s = N) (hn : n = nI N) (hN2 : N ≤ 100000) (ht : ∀ dA : Nat → ClassId, (am_tys dA)[t]? = some (dA t, ty)) (hdf : defaultValue ty = .int 0) (hcb : componentBytes ty ≤ 8) (w1 : lw_tbl[i1]? = some (.arrayClass ty))
    (k : Sim M d (pc + 2) lv (.inr (.inr (some (s, m_nx h s))) :: st) (m_al h s N) r) : Sim M d pc lv (.inl n :: st) h r :=
  sim_al (am_kd1 hs) (fun c => c.tail) (fun l D dA base p e R s0 m args below meth c Q μ H locs cells slots ls L hx hb hown ht9 hK hP hD hS hA hcc hss kk => by
    obtain ⟨z1, z2⟩ := m_nlt hn (by omega)
    subst hty
    refine va_newa (atype := atype) (a0 := (am_ln s, .inl fun j => m_gi (m_al h s N) s (m_nx h s) j)) (N' := N) hx hb (am_Tw ht9 w1 rfl) rfl hK hP hD hS hA (fun cA => ?_) z1 z2 (Nat.le_trans (Nat.mul_le_mul hN2 hcb) (Nat.le_of_ble_eq_true rfl)) hcc hss d0 (fun q cA H1 hK1 c1 c2 c3 => ?_)
    · rw [vp_cell_i, hN]
      congr 1
      funext j
      rw [m_gi_al, if_pos ⟨rfl, rfl⟩, hdf]
    · cases am_cA hK hK1 (ht dA)
      exact kk q H1 (by rw [am_ent1 (a := (s, m_nx h s)) hs]; exact c1) (by rw [am_ent1 (a := (s, m_nx h s)) hs]; exact c2) c3) k
theorem sim_newR {ix i1 i2 c0 : Nat} {n : Int32} (s t N : Nat) {C : String} (d0 : decode M.2.1 pc = .ok (.anewarray ix, 3)) (ht : am_rty t = some (c0, C)) (hs : am_isQ s t = true) (hN : am_ln s = N) (hn : n = nI N) (hN2 : N ≤ 100000) (w1 : lw_tbl[i1]? = some (.classLink M.1.cls ix C)) (w2 : lw_tbl[i2]? = some (.arrayOver (.object C)))
    (k : Sim M d (pc + 3) lv (.inr (.inr (some (s, m_nx h s))) :: st) (m_al h s N) r) : Sim M d pc lv (.inl n :: st) h r :=
  sim_al (am_kd5 (am_isQ_of hs).1) (fun c => c.tail) (fun l D dA base p e R s0 m args below meth c Q μ H locs cells slots ls L hx hb hown ht9 hK hP hD hS hA hcc hss kk => by
    obtain ⟨z1, z2⟩ := m_nlt hn (by omega)
    obtain ⟨o3, o4⟩ := am_isQ_of hs
    refine va_newq (N' := N) hx hb hown (am_Tw ht9 w1 rfl) (va_AO.of (am_Tw ht9 w2 rfl)) hK hP hD hS hA z1 z2 (Nat.le_trans (Nat.mul_le_mul_right 4 hN2) (Nat.le_of_ble_eq_true rfl)) hcc hss d0 (fun q cA H1 hK1 c1 c2 c3 => ?_)
    cases am_cA hK hK1 (am_rty_tys ht).1
    have he : am_ent dA (am_up μ (s, m_nx h s) q) (m_al h s N) (s, m_nx h s) = .inl (dA t, N, .inr (.inr (.inr (.inr (fun _ => none))))) := by
      rw [am_ent5 (a := (s, m_nx h s)) o3]
      show Sum.inl (dA (am_ty s), am_ln s, _) = _
      rw [o4, hN]
      congr 7
      funext j
      rw [m_gr_al, if_pos ⟨rfl, rfl⟩]; rfl
    exact kk q H1 (by rw [he]; exact c1) (by rw [he]; exact c2) c3) k
end SimMake
