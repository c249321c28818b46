abbrev m_X11_isSo : am_M := (yX11_isSo, cX11_isSo, 6, some .boolean, [])
def f_X11_isSo_389  (s0 : Int32) (h : am_H) : am_R := m_rz h s0
theorem t_X11_isSo_389 (d : Nat) (hd : 4 ≤ d)  (s0 : Int32) (h : am_H) : Sim m_X11_isSo d 389 [none, none, none, none, none, none] [.inl s0] h (f_X11_isSo_389  s0 h) := by
  unfold f_X11_isSo_389
  exact sim_zret dX11_isSo_389 rfl
def f_X11_isSo_384   (h : am_H) : am_R := f_X11_isSo_389 (1 : Int32) h
theorem t_X11_isSo_384 (d : Nat) (hd : 4 ≤ d)   (h : am_H) : Sim m_X11_isSo d 384 [none, none, none, none, none, none] [] h (f_X11_isSo_384   h) := by
  unfold f_X11_isSo_384
  refine sim_iconst (1) dX11_isSo_384 (by decide +kernel) ?_
  refine sim_goto 389 dX11_isSo_385 (by decide) ?_
  exact sim_lv (am_leN (am_leN (am_leN (am_leN (am_leN (am_leN am_leT)))))) (t_X11_isSo_389 d (by omega) _ _)
def f_X11_isSo_360 (rc12 : Nat × Nat → Int32 → Int32 → Int32 → Int32 → am_H → am_R) (a0 : Nat × Nat) (x1 : Int32) (x2 : Int32) (x3 : Int32) (x4 : Int32) (h : am_H) : am_R := rc12 a0 x1 x2 x3 (x4 + 1) h
theorem t_X11_isSo_360 (d : Nat) (hd : 4 ≤ d) (rc12 : Nat × Nat → Int32 → Int32 → Int32 → Int32 → am_H → am_R) (hrc12 : ∀ a0 x1 x2 x3 x4 h, Sim m_X11_isSo d 12 [some (.inr (.inr (some a0))), some (.inl x1), some (.inl x2), some (.inl x3), some (.inl x4), none] [] h (rc12 a0 x1 x2 x3 x4 h)) (a0 : Nat × Nat) (x1 : Int32) (x2 : Int32) (x3 : Int32) (x4 : Int32) (h : am_H) : Sim m_X11_isSo d 360 [some (.inr (.inr (some a0))), some (.inl x1), some (.inl x2), some (.inl x3), some (.inl x4), none] [] h (f_X11_isSo_360 rc12 a0 x1 x2 x3 x4 h) := by
  unfold f_X11_isSo_360
  refine sim_iinc (1) dX11_isSo_360 rfl (by decide +kernel) (Nat.le_of_ble_eq_true rfl) ?_
  refine sim_goto 12 dX11_isSo_363 (by decide) ?_
  exact sim_lv (am_leS (am_leS (am_leS (am_leS (am_leS (am_leN am_leT)))))) (hrc12 _ _ _ _ _ _)
def f_X11_isSo_354 (rc12 : Nat × Nat → Int32 → Int32 → Int32 → Int32 → am_H → am_R) (a0 : Nat × Nat) (x1 : Int32) (x2 : Int32) (x3 : Int32) (x4 : Int32) (s0 : Int32) (s1 : Option (Nat × Nat)) (h : am_H) : am_R := m_ao s1 11 fun a64 => m_bV (f_X11_gets a64 s0 h) fun h62 => f_X11_isSo_360 rc12 a0 x1 x2 x3 x4 h62
theorem t_X11_isSo_354 (d : Nat) (hd : 4 ≤ d) (rc12 : Nat × Nat → Int32 → Int32 → Int32 → Int32 → am_H → am_R) (hrc12 : ∀ a0 x1 x2 x3 x4 h, Sim m_X11_isSo d 12 [some (.inr (.inr (some a0))), some (.inl x1), some (.inl x2), some (.inl x3), some (.inl x4), none] [] h (rc12 a0 x1 x2 x3 x4 h)) (a0 : Nat × Nat) (x1 : Int32) (x2 : Int32) (x3 : Int32) (x4 : Int32) (s0 : Int32) (s1 : Option (Nat × Nat)) (h : am_H) : Sim m_X11_isSo d 354 [some (.inr (.inr (some a0))), some (.inl x1), some (.inl x2), some (.inl x3), some (.inl x4), none] [.inl s0, .inr (.inr s1)] h (f_X11_isSo_354 rc12 a0 x1 x2 x3 x4 s0 s1 h) := by
  unfold f_X11_isSo_354
  refine sim_ao1 (fun a64 e => ?_)
  refine sim_virt (d - 1) e dX11_isSo_354 (k_X11_gets (d - 1) (by omega) _ _ _) q_X11_gets rfl rfl wm_RX11_218 rfl rfl (by omega) (Nat.le_of_ble_eq_true rfl) am_nV (am_rV fun h62 => ?_) am_eV
  refine sim_goto 360 dX11_isSo_357 (by decide) ?_
  exact sim_lv (am_leS (am_leS (am_leS (am_leS (am_leS (am_leN am_leT)))))) (t_X11_isSo_360 d (by omega) _ hrc12 _ _ _ _ _ _)
def f_X11_isSo_321 (rc12 : Nat × Nat → Int32 → Int32 → Int32 → Int32 → am_H → am_R) (a0 : Nat × Nat) (x1 : Int32) (x2 : Int32) (x3 : Int32) (x4 : Int32) (s0 : Int32) (s1 : Option (Nat × Nat)) (h : am_H) : am_R := m_ao s1 11 fun a67 => m_bV (f_X11_gets a67 s0 h) fun h65 => f_X11_isSo_360 rc12 a0 x1 x2 x3 x4 h65
theorem t_X11_isSo_321 (d : Nat) (hd : 4 ≤ d) (rc12 : Nat × Nat → Int32 → Int32 → Int32 → Int32 → am_H → am_R) (hrc12 : ∀ a0 x1 x2 x3 x4 h, Sim m_X11_isSo d 12 [some (.inr (.inr (some a0))), some (.inl x1), some (.inl x2), some (.inl x3), some (.inl x4), none] [] h (rc12 a0 x1 x2 x3 x4 h)) (a0 : Nat × Nat) (x1 : Int32) (x2 : Int32) (x3 : Int32) (x4 : Int32) (s0 : Int32) (s1 : Option (Nat × Nat)) (h : am_H) : Sim m_X11_isSo d 321 [some (.inr (.inr (some a0))), some (.inl x1), some (.inl x2), some (.inl x3), some (.inl x4), none] [.inl s0, .inr (.inr s1)] h (f_X11_isSo_321 rc12 a0 x1 x2 x3 x4 s0 s1 h) := by
  unfold f_X11_isSo_321
  refine sim_ao1 (fun a67 e => ?_)
  refine sim_virt (d - 1) e dX11_isSo_321 (k_X11_gets (d - 1) (by omega) _ _ _) q_X11_gets rfl rfl wm_RX11_218 rfl rfl (by omega) (Nat.le_of_ble_eq_true rfl) am_nV (am_rV fun h65 => ?_) am_eV
  refine sim_goto 360 dX11_isSo_324 (by decide) ?_
  exact sim_lv (am_leS (am_leS (am_leS (am_leS (am_leS (am_leN am_leT)))))) (t_X11_isSo_360 d (by omega) _ hrc12 _ _ _ _ _ _)
def f_X11_isSo_320 (rc12 : Nat × Nat → Int32 → Int32 → Int32 → Int32 → am_H → am_R) (a0 : Nat × Nat) (x1 : Int32) (x2 : Int32) (x3 : Int32) (x4 : Int32) (s0 : Option (Nat × Nat)) (h : am_H) : am_R := f_X11_isSo_321 rc12 a0 x1 x2 x3 x4 (0 : Int32) s0 h
theorem t_X11_isSo_320 (d : Nat) (hd : 4 ≤ d) (rc12 : Nat × Nat → Int32 → Int32 → Int32 → Int32 → am_H → am_R) (hrc12 : ∀ a0 x1 x2 x3 x4 h, Sim m_X11_isSo d 12 [some (.inr (.inr (some a0))), some (.inl x1), some (.inl x2), some (.inl x3), some (.inl x4), none] [] h (rc12 a0 x1 x2 x3 x4 h)) (a0 : Nat × Nat) (x1 : Int32) (x2 : Int32) (x3 : Int32) (x4 : Int32) (s0 : Option (Nat × Nat)) (h : am_H) : Sim m_X11_isSo d 320 [some (.inr (.inr (some a0))), some (.inl x1), some (.inl x2), some (.inl x3), some (.inl x4), none] [.inr (.inr s0)] h (f_X11_isSo_320 rc12 a0 x1 x2 x3 x4 s0 h) := by
  unfold f_X11_isSo_320
  refine sim_iconst (0) dX11_isSo_320 (by decide +kernel) ?_
  exact sim_lv (am_leS (am_leS (am_leS (am_leS (am_leS (am_leN am_leT)))))) (t_X11_isSo_321 d (by omega) _ hrc12 _ _ _ _ _ _ _ _)
def f_X11_isSo_263 (rc12 : Nat × Nat → Int32 → Int32 → Int32 → Int32 → am_H → am_R) (a0 : Nat × Nat) (x1 : Int32) (x2 : Int32) (x3 : Int32) (x4 : Int32) (s0 : Int32) (s1 : Int32) (s2 : Option (Nat × Nat)) (h : am_H) : am_R := m_sZ s2 s1 s0 h fun h58 => m_gR (some a0) 11 27 h58 fun o59 => m_gI (some a0) 11 29 h58 fun v60 => m_sZ o59 v60 (1 : Int32) h58 fun h61 => f_X11_isSo_360 rc12 a0 x1 x2 x3 x4 h61
theorem t_X11_isSo_263 (d : Nat) (hd : 4 ≤ d) (rc12 : Nat × Nat → Int32 → Int32 → Int32 → Int32 → am_H → am_R) (hrc12 : ∀ a0 x1 x2 x3 x4 h, Sim m_X11_isSo d 12 [some (.inr (.inr (some a0))), some (.inl x1), some (.inl x2), some (.inl x3), some (.inl x4), none] [] h (rc12 a0 x1 x2 x3 x4 h)) (a0 : Nat × Nat) (x1 : Int32) (x2 : Int32) (x3 : Int32) (x4 : Int32) (s0 : Int32) (s1 : Int32) (s2 : Option (Nat × Nat)) (h : am_H) : Sim m_X11_isSo d 263 [some (.inr (.inr (some a0))), some (.inl x1), some (.inl x2), some (.inl x3), some (.inl x4), none] [.inl s0, .inl s1, .inr (.inr s2)] h (f_X11_isSo_263 rc12 a0 x1 x2 x3 x4 s0 s1 s2 h) := by
  unfold f_X11_isSo_263
  refine sim_sZ dX11_isSo_263 (fun h58 => ?_)
  refine sim_aload_n dX11_isSo_264 rfl ?_
  refine sim_gR 11 27 dX11_isSo_265 rfl wf_RX11_74 (Nat.le_of_ble_eq_true rfl) rfl (fun o59 => ?_)
  refine sim_aload_n dX11_isSo_268 rfl ?_
  refine sim_gI 11 29 dX11_isSo_269 rfl wf_RX11_213 (Nat.le_of_ble_eq_true rfl) rfl (fun v60 => ?_)
  refine sim_iconst (1) dX11_isSo_272 (by decide +kernel) ?_
  refine sim_sZ dX11_isSo_273 (fun h61 => ?_)
  refine sim_goto 360 dX11_isSo_274 (by decide) ?_
  exact sim_lv (am_leS (am_leS (am_leS (am_leS (am_leS (am_leN am_leT)))))) (t_X11_isSo_360 d (by omega) _ hrc12 _ _ _ _ _ _)
def f_X11_isSo_258 (rc12 : Nat × Nat → Int32 → Int32 → Int32 → Int32 → am_H → am_R) (a0 : Nat × Nat) (x1 : Int32) (x2 : Int32) (x3 : Int32) (x4 : Int32) (s0 : Int32) (s1 : Option (Nat × Nat)) (h : am_H) : am_R := f_X11_isSo_263 rc12 a0 x1 x2 x3 x4 (1 : Int32) s0 s1 h
theorem t_X11_isSo_258 (d : Nat) (hd : 4 ≤ d) (rc12 : Nat × Nat → Int32 → Int32 → Int32 → Int32 → am_H → am_R) (hrc12 : ∀ a0 x1 x2 x3 x4 h, Sim m_X11_isSo d 12 [some (.inr (.inr (some a0))), some (.inl x1), some (.inl x2), some (.inl x3), some (.inl x4), none] [] h (rc12 a0 x1 x2 x3 x4 h)) (a0 : Nat × Nat) (x1 : Int32) (x2 : Int32) (x3 : Int32) (x4 : Int32) (s0 : Int32) (s1 : Option (Nat × Nat)) (h : am_H) : Sim m_X11_isSo d 258 [some (.inr (.inr (some a0))), some (.inl x1), some (.inl x2), some (.inl x3), some (.inl x4), none] [.inl s0, .inr (.inr s1)] h (f_X11_isSo_258 rc12 a0 x1 x2 x3 x4 s0 s1 h) := by
  unfold f_X11_isSo_258
  refine sim_iconst (1) dX11_isSo_258 (by decide +kernel) ?_
  refine sim_goto 263 dX11_isSo_259 (by decide) ?_
  exact sim_lv (am_leS (am_leS (am_leS (am_leS (am_leS (am_leN am_leT)))))) (t_X11_isSo_263 d (by omega) _ hrc12 _ _ _ _ _ _ _ _ _)
def f_X11_isSo_222 (rc12 : Nat × Nat → Int32 → Int32 → Int32 → Int32 → am_H → am_R) (a0 : Nat × Nat) (x1 : Int32) (x2 : Int32) (x3 : Int32) (x4 : Int32) (s0 : Int32) (s1 : Int32) (s2 : Option (Nat × Nat)) (h : am_H) : am_R := m_sZ s2 s1 s0 h fun h71 => f_X11_isSo_360 rc12 a0 x1 x2 x3 x4 h71
theorem t_X11_isSo_222 (d : Nat) (hd : 4 ≤ d) (rc12 : Nat × Nat → Int32 → Int32 → Int32 → Int32 → am_H → am_R) (hrc12 : ∀ a0 x1 x2 x3 x4 h, Sim m_X11_isSo d 12 [some (.inr (.inr (some a0))), some (.inl x1), some (.inl x2), some (.inl x3), some (.inl x4), none] [] h (rc12 a0 x1 x2 x3 x4 h)) (a0 : Nat × Nat) (x1 : Int32) (x2 : Int32) (x3 : Int32) (x4 : Int32) (s0 : Int32) (s1 : Int32) (s2 : Option (Nat × Nat)) (h : am_H) : Sim m_X11_isSo d 222 [some (.inr (.inr (some a0))), some (.inl x1), some (.inl x2), some (.inl x3), some (.inl x4), none] [.inl s0, .inl s1, .inr (.inr s2)] h (f_X11_isSo_222 rc12 a0 x1 x2 x3 x4 s0 s1 s2 h) := by
  unfold f_X11_isSo_222
  refine sim_sZ dX11_isSo_222 (fun h71 => ?_)
  refine sim_goto 360 dX11_isSo_223 (by decide) ?_
  exact sim_lv (am_leS (am_leS (am_leS (am_leS (am_leS (am_leN am_leT)))))) (t_X11_isSo_360 d (by omega) _ hrc12 _ _ _ _ _ _)
def f_X11_isSo_191 (rc12 : Nat × Nat → Int32 → Int32 → Int32 → Int32 → am_H → am_R) (a0 : Nat × Nat) (x1 : Int32) (x2 : Int32) (x3 : Int32) (x4 : Int32) (s0 : Int32) (s1 : Option (Nat × Nat)) (h : am_H) : am_R := m_ao s1 11 fun a70 => m_bV (f_X11_gets a70 s0 h) fun h68 => f_X11_isSo_360 rc12 a0 x1 x2 x3 x4 h68
theorem t_X11_isSo_191 (d : Nat) (hd : 4 ≤ d) (rc12 : Nat × Nat → Int32 → Int32 → Int32 → Int32 → am_H → am_R) (hrc12 : ∀ a0 x1 x2 x3 x4 h, Sim m_X11_isSo d 12 [some (.inr (.inr (some a0))), some (.inl x1), some (.inl x2), some (.inl x3), some (.inl x4), none] [] h (rc12 a0 x1 x2 x3 x4 h)) (a0 : Nat × Nat) (x1 : Int32) (x2 : Int32) (x3 : Int32) (x4 : Int32) (s0 : Int32) (s1 : Option (Nat × Nat)) (h : am_H) : Sim m_X11_isSo d 191 [some (.inr (.inr (some a0))), some (.inl x1), some (.inl x2), some (.inl x3), some (.inl x4), none] [.inl s0, .inr (.inr s1)] h (f_X11_isSo_191 rc12 a0 x1 x2 x3 x4 s0 s1 h) := by
  unfold f_X11_isSo_191
  refine sim_ao1 (fun a70 e => ?_)
  refine sim_virt (d - 1) e dX11_isSo_191 (k_X11_gets (d - 1) (by omega) _ _ _) q_X11_gets rfl rfl wm_RX11_218 rfl rfl (by omega) (Nat.le_of_ble_eq_true rfl) am_nV (am_rV fun h68 => ?_) am_eV
  refine sim_goto 360 dX11_isSo_194 (by decide) ?_
  exact sim_lv (am_leS (am_leS (am_leS (am_leS (am_leS (am_leN am_leT)))))) (t_X11_isSo_360 d (by omega) _ hrc12 _ _ _ _ _ _)
def f_X11_isSo_186 (rc12 : Nat × Nat → Int32 → Int32 → Int32 → Int32 → am_H → am_R) (a0 : Nat × Nat) (x1 : Int32) (x2 : Int32) (x3 : Int32) (x4 : Int32) (s0 : Option (Nat × Nat)) (h : am_H) : am_R := f_X11_isSo_191 rc12 a0 x1 x2 x3 x4 (1 : Int32) s0 h
theorem t_X11_isSo_186 (d : Nat) (hd : 4 ≤ d) (rc12 : Nat × Nat → Int32 → Int32 → Int32 → Int32 → am_H → am_R) (hrc12 : ∀ a0 x1 x2 x3 x4 h, Sim m_X11_isSo d 12 [some (.inr (.inr (some a0))), some (.inl x1), some (.inl x2), some (.inl x3), some (.inl x4), none] [] h (rc12 a0 x1 x2 x3 x4 h)) (a0 : Nat × Nat) (x1 : Int32) (x2 : Int32) (x3 : Int32) (x4 : Int32) (s0 : Option (Nat × Nat)) (h : am_H) : Sim m_X11_isSo d 186 [some (.inr (.inr (some a0))), some (.inl x1), some (.inl x2), some (.inl x3), some (.inl x4), none] [.inr (.inr s0)] h (f_X11_isSo_186 rc12 a0 x1 x2 x3 x4 s0 h) := by
  unfold f_X11_isSo_186
  refine sim_iconst (1) dX11_isSo_186 (by decide +kernel) ?_
  refine sim_goto 191 dX11_isSo_187 (by decide) ?_
  exact sim_lv (am_leS (am_leS (am_leS (am_leS (am_leS (am_leN am_leT)))))) (t_X11_isSo_191 d (by omega) _ hrc12 _ _ _ _ _ _ _ _)
def f_X11_isSo_64 (rc12 : Nat × Nat → Int32 → Int32 → Int32 → Int32 → am_H → am_R) (a0 : Nat × Nat) (x1 : Int32) (x2 : Int32) (x3 : Int32) (x4 : Int32) (s0 : Int32) (h : am_H) : am_R := m_gR (some a0) 11 25 h fun o15 => m_aI o15 0 x4 h fun v16 => if v16 = 33 then (m_gR (some a0) 11 28 h fun o17 => m_gI (some a0) 11 29 h fun v18 => m_gR (some a0) 11 28 h fun o19 => m_gI (some a0) 11 29 h fun v20 => m_aI o19 1 v20 h fun v21 => if v21 = 0 then (f_X11_isSo_222 rc12 a0 x1 x2 x3 x4 (1 : Int32) v18 o17 h) else (f_X11_isSo_222 rc12 a0 x1 x2 x3 x4 (0 : Int32) v18 o17 h)) else if v16 = 40 then (m_ao (some a0) 11 fun a24 => m_bV (f_X11_opens a24 h) fun h22 => f_X11_isSo_360 rc12 a0 x1 x2 x3 x4 h22) else if v16 = 41 then (m_gI (some a0) 11 29 h fun v25 => m_pI (some a0) 11 29 (v25 - (1 : Int32)) h fun h26 => m_gR (some a0) 11 26 h26 fun o27 => m_gI (some a0) 11 29 h26 fun v28 => m_aI o27 1 (v28 + (1 : Int32)) h26 fun v29 => if v29 = 0 then (m_gR (some a0) 11 27 h26 fun o30 => m_gI (some a0) 11 29 h26 fun v31 => m_aI o30 1 (v31 + (1 : Int32)) h26 fun v32 => if v32 = 0 then (f_X11_isSo_191 rc12 a0 x1 x2 x3 x4 (0 : Int32) (some a0) h26) else (f_X11_isSo_186 rc12 a0 x1 x2 x3 x4 (some a0) h26)) else (f_X11_isSo_186 rc12 a0 x1 x2 x3 x4 (some a0) h26)) else if v16 = 97 then (m_ao (some a0) 11 fun a35 => m_bI (f_X11_areTold a35 x1 x2 h) fun h33 v34 => if v34 = 0 then (f_X11_isSo_320 rc12 a0 x1 x2 x3 x4 (some a0) h33) else (m_gR (some a0) 11 6 h33 fun o36 => m_aI o36 0 x2 h33 fun v37 => m_bI (f_X11_has v37 s0 h33) fun h38 v39 => if v39 = 0 then (f_X11_isSo_320 rc12 a0 x1 x2 x3 x4 (some a0) h38) else (f_X11_isSo_321 rc12 a0 x1 x2 x3 x4 (1 : Int32) (some a0) h38))) else if v16 = 114 then (m_gR (some a0) 11 5 h fun o40 => m_aI o40 0 x2 h fun v41 => m_gR (some a0) 11 25 h fun o42 => m_aI o42 0 (x4 + (1 : Int32)) h fun v43 => if (v43 - (48 : Int32)) < v41 then (f_X11_isSo_354 rc12 a0 x1 x2 x3 x4 (0 : Int32) (some a0) h) else (f_X11_isSo_354 rc12 a0 x1 x2 x3 x4 (1 : Int32) (some a0) h)) else if v16 = 116 then (m_ao (some a0) 11 fun a46 => m_bI (f_X11_isOfTag a46 x2 s0 x3 h) fun h44 v45 => m_ao (some a0) 11 fun a49 => m_bV (f_X11_gets a49 v45 h44) fun h47 => f_X11_isSo_360 rc12 a0 x1 x2 x3 x4 h47) else if v16 = 124 then (m_gR (some a0) 11 26 h fun o50 => m_gI (some a0) 11 29 h fun v51 => m_gR (some a0) 11 26 h fun o52 => m_gI (some a0) 11 29 h fun v53 => m_aI o52 1 v53 h fun v54 => if v54 = 0 then (m_gR (some a0) 11 27 h fun o55 => m_gI (some a0) 11 29 h fun v56 => m_aI o55 1 v56 h fun v57 => if v57 = 0 then (f_X11_isSo_263 rc12 a0 x1 x2 x3 x4 (0 : Int32) v51 o50 h) else (f_X11_isSo_258 rc12 a0 x1 x2 x3 x4 v51 o50 h)) else (f_X11_isSo_258 rc12 a0 x1 x2 x3 x4 v51 o50 h)) else (f_X11_isSo_360 rc12 a0 x1 x2 x3 x4 h)
theorem t_X11_isSo_64 (d : Nat) (hd : 4 ≤ d) (rc12 : Nat × Nat → Int32 → Int32 → Int32 → Int32 → am_H → am_R) (hrc12 : ∀ a0 x1 x2 x3 x4 h, Sim m_X11_isSo d 12 [some (.inr (.inr (some a0))), some (.inl x1), some (.inl x2), some (.inl x3), some (.inl x4), none] [] h (rc12 a0 x1 x2 x3 x4 h)) (a0 : Nat × Nat) (x1 : Int32) (x2 : Int32) (x3 : Int32) (x4 : Int32) (s0 : Int32) (h : am_H) : Sim m_X11_isSo d 64 [some (.inr (.inr (some a0))), some (.inl x1), some (.inl x2), some (.inl x3), some (.inl x4), none] [.inl s0] h (f_X11_isSo_64 rc12 a0 x1 x2 x3 x4 s0 h) := by
  unfold f_X11_isSo_64
  refine sim_istore dX11_isSo_64 (Nat.le_of_ble_eq_true rfl) ?_
  refine sim_aload_n dX11_isSo_66 rfl ?_
  refine sim_gR 11 25 dX11_isSo_67 rfl wf_RX11_68 (Nat.le_of_ble_eq_true rfl) rfl (fun o15 => ?_)
  refine sim_iload dX11_isSo_70 rfl ?_
  refine sim_aI dX11_isSo_72 (fun v16 => ?_)
  refine sim_case (fun c73_33 => ?_) (fun c73_33 => ?_)
  · refine sim_lookup (off := 124) 197 dX11_isSo_73 (by decide +kernel) (by rw [c73_33]; decide +kernel) (by decide) ?_
    refine sim_aload_n dX11_isSo_197 rfl ?_
    refine sim_gR 11 28 dX11_isSo_198 rfl wf_RX11_77 (Nat.le_of_ble_eq_true rfl) rfl (fun o17 => ?_)
    refine sim_aload_n dX11_isSo_201 rfl ?_
    refine sim_gI 11 29 dX11_isSo_202 rfl wf_RX11_213 (Nat.le_of_ble_eq_true rfl) rfl (fun v18 => ?_)
    refine sim_aload_n dX11_isSo_205 rfl ?_
    refine sim_gR 11 28 dX11_isSo_206 rfl wf_RX11_77 (Nat.le_of_ble_eq_true rfl) rfl (fun o19 => ?_)
    refine sim_aload_n dX11_isSo_209 rfl ?_
    refine sim_gI 11 29 dX11_isSo_210 rfl wf_RX11_213 (Nat.le_of_ble_eq_true rfl) rfl (fun v20 => ?_)
    refine sim_aZ dX11_isSo_213 (fun v21 => ?_)
    refine sim_if_ne 221 dX11_isSo_214 (by decide) (fun c => ?_) (fun c => ?_)
    · refine sim_iconst (0) dX11_isSo_221 (by decide +kernel) ?_
      exact sim_lv (am_leS (am_leS (am_leS (am_leS (am_leS (am_leN am_leT)))))) (t_X11_isSo_222 d (by omega) _ hrc12 _ _ _ _ _ _ _ _ _)
    · refine sim_iconst (1) dX11_isSo_217 (by decide +kernel) ?_
      refine sim_goto 222 dX11_isSo_218 (by decide) ?_
      exact sim_lv (am_leS (am_leS (am_leS (am_leS (am_leS (am_leN am_leT)))))) (t_X11_isSo_222 d (by omega) _ hrc12 _ _ _ _ _ _ _ _ _)
  refine sim_case (fun c73_40 => ?_) (fun c73_40 => ?_)
  · refine sim_lookup (off := 67) 140 dX11_isSo_73 (by decide +kernel) (by rw [c73_40]; decide +kernel) (by decide) ?_
    refine sim_aload_n dX11_isSo_140 rfl ?_
    refine sim_ao0 (fun a24 e => ?_)
    refine sim_virt (d - 1) e dX11_isSo_141 (k_X11_opens (d - 1) (by omega) _  _) q_X11_opens rfl rfl wm_RX11_216 rfl rfl (by omega) (Nat.le_of_ble_eq_true rfl) am_nV (am_rV fun h22 => ?_) am_eV
    refine sim_goto 360 dX11_isSo_144 (by decide) ?_
    exact sim_lv (am_leS (am_leS (am_leS (am_leS (am_leS (am_leN am_leT)))))) (t_X11_isSo_360 d (by omega) _ hrc12 _ _ _ _ _ _)
  refine sim_case (fun c73_41 => ?_) (fun c73_41 => ?_)
  · refine sim_lookup (off := 74) 147 dX11_isSo_73 (by decide +kernel) (by rw [c73_41]; decide +kernel) (by decide) ?_
    refine sim_aload_n dX11_isSo_147 rfl ?_
    refine sim_dup_r dX11_isSo_148 ?_
    refine sim_gI 11 29 dX11_isSo_149 rfl wf_RX11_213 (Nat.le_of_ble_eq_true rfl) rfl (fun v25 => ?_)
    refine sim_iconst (1) dX11_isSo_152 (by decide +kernel) ?_
    refine sim_isub dX11_isSo_153 ?_
    refine sim_pI 11 29 dX11_isSo_154 rfl wf_RX11_213 (Nat.le_of_ble_eq_true rfl) rfl (Or.inl rfl) rfl (fun h26 => ?_)
    refine sim_aload_n dX11_isSo_157 rfl ?_
    refine sim_aload_n dX11_isSo_158 rfl ?_
    refine sim_gR 11 26 dX11_isSo_159 rfl wf_RX11_71 (Nat.le_of_ble_eq_true rfl) rfl (fun o27 => ?_)
    refine sim_aload_n dX11_isSo_162 rfl ?_
    refine sim_gI 11 29 dX11_isSo_163 rfl wf_RX11_213 (Nat.le_of_ble_eq_true rfl) rfl (fun v28 => ?_)
    refine sim_iconst (1) dX11_isSo_166 (by decide +kernel) ?_
    refine sim_iadd dX11_isSo_167 ?_
    refine sim_aZ dX11_isSo_168 (fun v29 => ?_)
    refine sim_if_ne 186 dX11_isSo_169 (by decide) (fun c => ?_) (fun c => ?_)
    · exact sim_lv (am_leS (am_leS (am_leS (am_leS (am_leS (am_leN am_leT)))))) (t_X11_isSo_186 d (by omega) _ hrc12 _ _ _ _ _ _ _)
    · refine sim_aload_n dX11_isSo_172 rfl ?_
      refine sim_gR 11 27 dX11_isSo_173 rfl wf_RX11_74 (Nat.le_of_ble_eq_true rfl) rfl (fun o30 => ?_)
      refine sim_aload_n dX11_isSo_176 rfl ?_
      refine sim_gI 11 29 dX11_isSo_177 rfl wf_RX11_213 (Nat.le_of_ble_eq_true rfl) rfl (fun v31 => ?_)
      refine sim_iconst (1) dX11_isSo_180 (by decide +kernel) ?_
      refine sim_iadd dX11_isSo_181 ?_
      refine sim_aZ dX11_isSo_182 (fun v32 => ?_)
      refine sim_if_eq 190 dX11_isSo_183 (by decide) (fun c => ?_) (fun c => ?_)
      · refine sim_iconst (0) dX11_isSo_190 (by decide +kernel) ?_
        exact sim_lv (am_leS (am_leS (am_leS (am_leS (am_leS (am_leN am_leT)))))) (t_X11_isSo_191 d (by omega) _ hrc12 _ _ _ _ _ _ _ _)
      · exact sim_lv (am_leS (am_leS (am_leS (am_leS (am_leS (am_leN am_leT)))))) (t_X11_isSo_186 d (by omega) _ hrc12 _ _ _ _ _ _ _)
  refine sim_case (fun c73_97 => ?_) (fun c73_97 => ?_)
  · refine sim_lookup (off := 219) 292 dX11_isSo_73 (by decide +kernel) (by rw [c73_97]; decide +kernel) (by decide) ?_
    refine sim_aload_n dX11_isSo_292 rfl ?_
    refine sim_aload_n dX11_isSo_293 rfl ?_
    refine sim_iload_n dX11_isSo_294 rfl ?_
    refine sim_iload_n dX11_isSo_295 rfl ?_
    refine sim_ao2 (fun a35 e => ?_)
    refine sim_virt (d - 1) e dX11_isSo_296 (k_X11_areTold (d - 1) (by omega) _ _ _ _) q_X11_areTold rfl rfl wm_RX11_172 rfl rfl (by omega) (Nat.le_of_ble_eq_true rfl) am_nI (am_rI fun h33 v34 => ?_) am_eI
    refine sim_if_eq 320 dX11_isSo_299 (by decide) (fun c => ?_) (fun c => ?_)
    · exact sim_lv (am_leS (am_leS (am_leS (am_leS (am_leS (am_leN am_leT)))))) (t_X11_isSo_320 d (by omega) _ hrc12 _ _ _ _ _ _ _)
    · refine sim_aload_n dX11_isSo_302 rfl ?_
      refine sim_gR 11 6 dX11_isSo_303 rfl wf_RX11_20 (Nat.le_of_ble_eq_true rfl) rfl (fun o36 => ?_)
      refine sim_iload_n dX11_isSo_306 rfl ?_
      refine sim_aI dX11_isSo_307 (fun v37 => ?_)
      refine sim_iload dX11_isSo_308 rfl ?_
      refine sim_static (d - 1) dX11_isSo_310 (k_X11_has (d - 1) (by omega) _ _ _) q_X11_has wm_RX11_155 rfl rfl (by omega) (Nat.le_of_ble_eq_true rfl) am_nI (am_rI fun h38 v39 => ?_) am_eI
      refine sim_if_eq 320 dX11_isSo_313 (by decide) (fun c => ?_) (fun c => ?_)
      · exact sim_lv (am_leS (am_leS (am_leS (am_leS (am_leS (am_leN am_leT)))))) (t_X11_isSo_320 d (by omega) _ hrc12 _ _ _ _ _ _ _)
      · refine sim_iconst (1) dX11_isSo_316 (by decide +kernel) ?_
        refine sim_goto 321 dX11_isSo_317 (by decide) ?_
        exact sim_lv (am_leS (am_leS (am_leS (am_leS (am_leS (am_leN am_leT)))))) (t_X11_isSo_321 d (by omega) _ hrc12 _ _ _ _ _ _ _ _)
  refine sim_case (fun c73_114 => ?_) (fun c73_114 => ?_)
  · refine sim_lookup (off := 254) 327 dX11_isSo_73 (by decide +kernel) (by rw [c73_114]; decide +kernel) (by decide) ?_
    refine sim_aload_n dX11_isSo_327 rfl ?_
    refine sim_aload_n dX11_isSo_328 rfl ?_
    refine sim_gR 11 5 dX11_isSo_329 rfl wf_RX11_17 (Nat.le_of_ble_eq_true rfl) rfl (fun o40 => ?_)
    refine sim_iload_n dX11_isSo_332 rfl ?_
    refine sim_aI dX11_isSo_333 (fun v41 => ?_)
    refine sim_aload_n dX11_isSo_334 rfl ?_
    refine sim_gR 11 25 dX11_isSo_335 rfl wf_RX11_68 (Nat.le_of_ble_eq_true rfl) rfl (fun o42 => ?_)
    refine sim_iload dX11_isSo_338 rfl ?_
    refine sim_iconst (1) dX11_isSo_340 (by decide +kernel) ?_
    refine sim_iadd dX11_isSo_341 ?_
    refine sim_aI dX11_isSo_342 (fun v43 => ?_)
    refine sim_bipush (48) dX11_isSo_343 (by decide +kernel) ?_
    refine sim_isub dX11_isSo_345 ?_
    refine sim_ic_gt 353 dX11_isSo_346 (by decide) (fun c => ?_) (fun c => ?_)
    · refine sim_iconst (0) dX11_isSo_353 (by decide +kernel) ?_
      exact sim_lv (am_leS (am_leS (am_leS (am_leS (am_leS (am_leN am_leT)))))) (t_X11_isSo_354 d (by omega) _ hrc12 _ _ _ _ _ _ _ _)
    · refine sim_iconst (1) dX11_isSo_349 (by decide +kernel) ?_
      refine sim_goto 354 dX11_isSo_350 (by decide) ?_
      exact sim_lv (am_leS (am_leS (am_leS (am_leS (am_leS (am_leN am_leT)))))) (t_X11_isSo_354 d (by omega) _ hrc12 _ _ _ _ _ _ _ _)
  refine sim_case (fun c73_116 => ?_) (fun c73_116 => ?_)
  · refine sim_lookup (off := 204) 277 dX11_isSo_73 (by decide +kernel) (by rw [c73_116]; decide +kernel) (by decide) ?_
    refine sim_aload_n dX11_isSo_277 rfl ?_
    refine sim_aload_n dX11_isSo_278 rfl ?_
    refine sim_iload_n dX11_isSo_279 rfl ?_
    refine sim_iload dX11_isSo_280 rfl ?_
    refine sim_iload_n dX11_isSo_282 rfl ?_
    refine sim_ao3 (fun a46 e => ?_)
    refine sim_virt (d - 1) e dX11_isSo_283 (k_X11_isOfTag (d - 1) (by omega) _ _ _ _ _) q_X11_isOfTag rfl rfl wm_RX11_222 rfl rfl (by omega) (Nat.le_of_ble_eq_true rfl) am_nI (am_rI fun h44 v45 => ?_) am_eI
    refine sim_ao1 (fun a49 e => ?_)
    refine sim_virt (d - 1) e dX11_isSo_286 (k_X11_gets (d - 1) (by omega) _ _ _) q_X11_gets rfl rfl wm_RX11_218 rfl rfl (by omega) (Nat.le_of_ble_eq_true rfl) am_nV (am_rV fun h47 => ?_) am_eV
    refine sim_goto 360 dX11_isSo_289 (by decide) ?_
    exact sim_lv (am_leS (am_leS (am_leS (am_leS (am_leS (am_leN am_leT)))))) (t_X11_isSo_360 d (by omega) _ hrc12 _ _ _ _ _ _)
  refine sim_case (fun c73_124 => ?_) (fun c73_124 => ?_)
  · refine sim_lookup (off := 153) 226 dX11_isSo_73 (by decide +kernel) (by rw [c73_124]; decide +kernel) (by decide) ?_
    refine sim_aload_n dX11_isSo_226 rfl ?_
    refine sim_gR 11 26 dX11_isSo_227 rfl wf_RX11_71 (Nat.le_of_ble_eq_true rfl) rfl (fun o50 => ?_)
    refine sim_aload_n dX11_isSo_230 rfl ?_
    refine sim_gI 11 29 dX11_isSo_231 rfl wf_RX11_213 (Nat.le_of_ble_eq_true rfl) rfl (fun v51 => ?_)
    refine sim_aload_n dX11_isSo_234 rfl ?_
    refine sim_gR 11 26 dX11_isSo_235 rfl wf_RX11_71 (Nat.le_of_ble_eq_true rfl) rfl (fun o52 => ?_)
    refine sim_aload_n dX11_isSo_238 rfl ?_
    refine sim_gI 11 29 dX11_isSo_239 rfl wf_RX11_213 (Nat.le_of_ble_eq_true rfl) rfl (fun v53 => ?_)
    refine sim_aZ dX11_isSo_242 (fun v54 => ?_)
    refine sim_if_ne 258 dX11_isSo_243 (by decide) (fun c => ?_) (fun c => ?_)
    · exact sim_lv (am_leS (am_leS (am_leS (am_leS (am_leS (am_leN am_leT)))))) (t_X11_isSo_258 d (by omega) _ hrc12 _ _ _ _ _ _ _ _)
    · refine sim_aload_n dX11_isSo_246 rfl ?_
      refine sim_gR 11 27 dX11_isSo_247 rfl wf_RX11_74 (Nat.le_of_ble_eq_true rfl) rfl (fun o55 => ?_)
      refine sim_aload_n dX11_isSo_250 rfl ?_
      refine sim_gI 11 29 dX11_isSo_251 rfl wf_RX11_213 (Nat.le_of_ble_eq_true rfl) rfl (fun v56 => ?_)
      refine sim_aZ dX11_isSo_254 (fun v57 => ?_)
      refine sim_if_eq 262 dX11_isSo_255 (by decide) (fun c => ?_) (fun c => ?_)
      · refine sim_iconst (0) dX11_isSo_262 (by decide +kernel) ?_
        exact sim_lv (am_leS (am_leS (am_leS (am_leS (am_leS (am_leN am_leT)))))) (t_X11_isSo_263 d (by omega) _ hrc12 _ _ _ _ _ _ _ _ _)
      · exact sim_lv (am_leS (am_leS (am_leS (am_leS (am_leS (am_leN am_leT)))))) (t_X11_isSo_258 d (by omega) _ hrc12 _ _ _ _ _ _ _ _)
  refine sim_lookup (off := 287) 360 dX11_isSo_73 (by decide +kernel) ((lv_osw c73_33 rfl).trans ((lv_osw c73_40 rfl).trans ((lv_osw c73_41 rfl).trans ((lv_osw c73_97 rfl).trans ((lv_osw c73_114 rfl).trans ((lv_osw c73_116 rfl).trans ((lv_osw c73_124 rfl).trans rfl))))))) (by decide) ?_
  exact sim_lv (am_leS (am_leS (am_leS (am_leS (am_leS (am_leN am_leT)))))) (t_X11_isSo_360 d (by omega) _ hrc12 _ _ _ _ _ _)
def f_X11_isSo_12  : Nat → Nat × Nat → Int32 → Int32 → Int32 → Int32 → am_H → am_R
  | 0, _, _, _, _, _, _ => none
  | n + 1, a0, x1, x2, x3, x4, h => m_gI (some a0) 11 24 h fun v5 => if v5 ≤ x4 then (m_gR (some a0) 11 26 h fun o6 => m_aI o6 1 (0 : Int32) h fun v7 => if v7 = 0 then (m_gR (some a0) 11 27 h fun o8 => m_aI o8 1 (0 : Int32) h fun v9 => if v9 = 0 then (f_X11_isSo_389 (0 : Int32) h) else (f_X11_isSo_384 h)) else (f_X11_isSo_384 h)) else (m_gI (some a0) 11 24 h fun v10 => if v10 ≤ (x4 + (2 : Int32)) then (f_X11_isSo_64 (f_X11_isSo_12  n) a0 x1 x2 x3 x4 (0 : Int32) h) else (m_gR (some a0) 11 25 h fun o11 => m_aI o11 0 (x4 + (1 : Int32)) h fun v12 => m_gR (some a0) 11 25 h fun o13 => m_aI o13 0 (x4 + (2 : Int32)) h fun v14 => f_X11_isSo_64 (f_X11_isSo_12  n) a0 x1 x2 x3 x4 ((((10 : Int32) * (v12 - (48 : Int32))) + v14) - (48 : Int32)) h))
theorem t_X11_isSo_12 (d : Nat) (hd : 4 ≤ d)  : ∀ (n : Nat) (a0 : Nat × Nat) (x1 : Int32) (x2 : Int32) (x3 : Int32) (x4 : Int32) (h : am_H), Sim m_X11_isSo d 12 [some (.inr (.inr (some a0))), some (.inl x1), some (.inl x2), some (.inl x3), some (.inl x4), none] [] h (f_X11_isSo_12  n a0 x1 x2 x3 x4 h) := by
  intro n
  induction n with
  | zero => intros; exact sim_none
  | succ n hrc12 =>
    intro a0 x1 x2 x3 x4 h
    rw [f_X11_isSo_12]
    refine sim_iload dX11_isSo_12 rfl ?_
    refine sim_aload_n dX11_isSo_14 rfl ?_
    refine sim_gI 11 24 dX11_isSo_15 rfl wf_RX11_202 (Nat.le_of_ble_eq_true rfl) rfl (fun v5 => ?_)
    refine sim_ic_ge 366 dX11_isSo_18 (by decide) (fun c => ?_) (fun c => ?_)
    · refine sim_aload_n dX11_isSo_366 rfl ?_
      refine sim_gR 11 26 dX11_isSo_367 rfl wf_RX11_71 (Nat.le_of_ble_eq_true rfl) rfl (fun o6 => ?_)
      refine sim_iconst (0) dX11_isSo_370 (by decide +kernel) ?_
      refine sim_aZ dX11_isSo_371 (fun v7 => ?_)
      refine sim_if_ne 384 dX11_isSo_372 (by decide) (fun c => ?_) (fun c => ?_)
      · exact sim_lv (am_leN (am_leN (am_leN (am_leN (am_leN (am_leN am_leT)))))) (t_X11_isSo_384 d (by omega) _)
      · refine sim_aload_n dX11_isSo_375 rfl ?_
        refine sim_gR 11 27 dX11_isSo_376 rfl wf_RX11_74 (Nat.le_of_ble_eq_true rfl) rfl (fun o8 => ?_)
        refine sim_iconst (0) dX11_isSo_379 (by decide +kernel) ?_
        refine sim_aZ dX11_isSo_380 (fun v9 => ?_)
        refine sim_if_eq 388 dX11_isSo_381 (by decide) (fun c => ?_) (fun c => ?_)
        · refine sim_iconst (0) dX11_isSo_388 (by decide +kernel) ?_
          exact sim_lv (am_leN (am_leN (am_leN (am_leN (am_leN (am_leN am_leT)))))) (t_X11_isSo_389 d (by omega) _ _)
        · exact sim_lv (am_leN (am_leN (am_leN (am_leN (am_leN (am_leN am_leT)))))) (t_X11_isSo_384 d (by omega) _)
    · refine sim_iload dX11_isSo_21 rfl ?_
      refine sim_iconst (2) dX11_isSo_23 (by decide +kernel) ?_
      refine sim_iadd dX11_isSo_24 ?_
      refine sim_aload_n dX11_isSo_25 rfl ?_
      refine sim_gI 11 24 dX11_isSo_26 rfl wf_RX11_202 (Nat.le_of_ble_eq_true rfl) rfl (fun v10 => ?_)
      refine sim_ic_ge 63 dX11_isSo_29 (by decide) (fun c => ?_) (fun c => ?_)
      · refine sim_iconst (0) dX11_isSo_63 (by decide +kernel) ?_
        exact sim_lv (am_leS (am_leS (am_leS (am_leS (am_leS (am_leN am_leT)))))) (t_X11_isSo_64 d (by omega) _ hrc12 _ _ _ _ _ _ _)
      · refine sim_bipush (10) dX11_isSo_32 (by decide +kernel) ?_
        refine sim_aload_n dX11_isSo_34 rfl ?_
        refine sim_gR 11 25 dX11_isSo_35 rfl wf_RX11_68 (Nat.le_of_ble_eq_true rfl) rfl (fun o11 => ?_)
        refine sim_iload dX11_isSo_38 rfl ?_
        refine sim_iconst (1) dX11_isSo_40 (by decide +kernel) ?_
        refine sim_iadd dX11_isSo_41 ?_
        refine sim_aI dX11_isSo_42 (fun v12 => ?_)
        refine sim_bipush (48) dX11_isSo_43 (by decide +kernel) ?_
        refine sim_isub dX11_isSo_45 ?_
        refine sim_imul dX11_isSo_46 ?_
        refine sim_aload_n dX11_isSo_47 rfl ?_
        refine sim_gR 11 25 dX11_isSo_48 rfl wf_RX11_68 (Nat.le_of_ble_eq_true rfl) rfl (fun o13 => ?_)
        refine sim_iload dX11_isSo_51 rfl ?_
        refine sim_iconst (2) dX11_isSo_53 (by decide +kernel) ?_
        refine sim_iadd dX11_isSo_54 ?_
        refine sim_aI dX11_isSo_55 (fun v14 => ?_)
        refine sim_iadd dX11_isSo_56 ?_
        refine sim_bipush (48) dX11_isSo_57 (by decide +kernel) ?_
        refine sim_isub dX11_isSo_59 ?_
        refine sim_goto 64 dX11_isSo_60 (by decide) ?_
        exact sim_lv (am_leS (am_leS (am_leS (am_leS (am_leS (am_leN am_leT)))))) (t_X11_isSo_64 d (by omega) _ hrc12 _ _ _ _ _ _ _)
def f_X11_isSo (a0 : Nat × Nat) (x1 : Int32) (x2 : Int32) (x3 : Int32) (h : am_H) : am_R := m_pI (some a0) 11 29 (-1 : Int32) h fun h1 => m_ao (some a0) 11 fun a4 => m_bV (f_X11_opens a4 h1) fun h2 => f_X11_isSo_12 5000 a0 x1 x2 x3 (0 : Int32) h2
theorem k_X11_isSo (d : Nat) (hd : 4 ≤ d) (a0 : Nat × Nat) (x1 : Int32) (x2 : Int32) (x3 : Int32) (h : am_H) : am_Con m_X11_isSo d [.inr (.inr (some a0)), .inl x1, .inl x2, .inl x3] h (f_X11_isSo a0 x1 x2 x3 h) := am_con (by decide +kernel) (Nat.le_of_ble_eq_true rfl) (by
  unfold f_X11_isSo
  refine sim_aload_n dX11_isSo_0 rfl ?_
  refine sim_iconst (-1) dX11_isSo_1 (by decide +kernel) ?_
  refine sim_pI 11 29 dX11_isSo_2 rfl wf_RX11_213 (Nat.le_of_ble_eq_true rfl) rfl (Or.inl rfl) rfl (fun h1 => ?_)
  refine sim_aload_n dX11_isSo_5 rfl ?_
  refine sim_ao0 (fun a4 e => ?_)
  refine sim_virt (d - 1) e dX11_isSo_6 (k_X11_opens (d - 1) (by omega) _  _) q_X11_opens rfl rfl wm_RX11_216 rfl rfl (by omega) (Nat.le_of_ble_eq_true rfl) am_nV (am_rV fun h2 => ?_) am_eV
  refine sim_iconst (0) dX11_isSo_9 (by decide +kernel) ?_
  refine sim_istore dX11_isSo_10 (Nat.le_of_ble_eq_true rfl) ?_
  exact sim_lv (am_leS (am_leS (am_leS (am_leS (am_leS (am_leN am_leT)))))) (t_X11_isSo_12 d (by omega) _ _ _ _ _ _ _))
theorem q_X11_isSo : am_Cal m_X11_isSo 3 2 := ⟨am_mem 1432 (w := Cond.code yX11_isSo cX11_isSo 6 (some .boolean)) (by decide +kernel) rfl, am_mem 64 (w := Cond.initialized RX11) (by decide +kernel) rfl, fun z => absurd z (by decide), fun _ => am_mem 1431 (w := Cond.instanceMethod yX11_isSo) (by decide +kernel) rfl, fun z => absurd z (by decide), fun _ => am_mem 42 (w := Cond.selects RX11 yX11_isSo yX11_isSo) (by decide +kernel) rfl, by decide +kernel, by decide +kernel, Nat.le_of_ble_eq_true rfl⟩
abbrev m_X11_searchOf : am_M := (yX11_searchOf, cX11_searchOf, 5, some .int, [])
def f_X11_searchOf_44 (rc5 : Nat × Nat → Int32 → Int32 → Int32 → Int32 → am_H → am_R) (a0 : Nat × Nat) (x1 : Int32) (x2 : Int32) (x4 : Int32) (s0 : Int32) (s1 : Int32) (h : am_H) : am_R := rc5 a0 x1 x2 (s1 ||| s0) (x4 + 1) h
theorem t_X11_searchOf_44 (d : Nat) (hd : 5 ≤ d) (rc5 : Nat × Nat → Int32 → Int32 → Int32 → Int32 → am_H → am_R) (hrc5 : ∀ a0 x1 x2 x3 x4 h, Sim m_X11_searchOf d 5 [some (.inr (.inr (some a0))), some (.inl x1), some (.inl x2), some (.inl x3), some (.inl x4)] [] h (rc5 a0 x1 x2 x3 x4 h)) (a0 : Nat × Nat) (x1 : Int32) (x2 : Int32) (x4 : Int32) (s0 : Int32) (s1 : Int32) (h : am_H) : Sim m_X11_searchOf d 44 [some (.inr (.inr (some a0))), some (.inl x1), some (.inl x2), none, some (.inl x4)] [.inl s0, .inl s1] h (f_X11_searchOf_44 rc5 a0 x1 x2 x4 s0 s1 h) := by
  unfold f_X11_searchOf_44
  refine sim_ior dX11_searchOf_44 ?_
  refine sim_istore_n dX11_searchOf_45 (Nat.le_of_ble_eq_true rfl) ?_
  refine sim_iinc (1) dX11_searchOf_46 rfl (by decide +kernel) (Nat.le_of_ble_eq_true rfl) ?_
  refine sim_goto 5 dX11_searchOf_49 (by decide) ?_
  exact sim_lv (am_leS (am_leS (am_leS (am_leS (am_leS am_leT))))) (hrc5 _ _ _ _ _ _)
def f_X11_searchOf_43 (rc5 : Nat × Nat → Int32 → Int32 → Int32 → Int32 → am_H → am_R) (a0 : Nat × Nat) (x1 : Int32) (x2 : Int32) (x4 : Int32) (s0 : Int32) (h : am_H) : am_R := f_X11_searchOf_44 rc5 a0 x1 x2 x4 (0 : Int32) s0 h
theorem t_X11_searchOf_43 (d : Nat) (hd : 5 ≤ d) (rc5 : Nat × Nat → Int32 → Int32 → Int32 → Int32 → am_H → am_R) (hrc5 : ∀ a0 x1 x2 x3 x4 h, Sim m_X11_searchOf d 5 [some (.inr (.inr (some a0))), some (.inl x1), some (.inl x2), some (.inl x3), some (.inl x4)] [] h (rc5 a0 x1 x2 x3 x4 h)) (a0 : Nat × Nat) (x1 : Int32) (x2 : Int32) (x4 : Int32) (s0 : Int32) (h : am_H) : Sim m_X11_searchOf d 43 [some (.inr (.inr (some a0))), some (.inl x1), some (.inl x2), none, some (.inl x4)] [.inl s0] h (f_X11_searchOf_43 rc5 a0 x1 x2 x4 s0 h) := by
  unfold f_X11_searchOf_43
  refine sim_iconst (0) dX11_searchOf_43 (by decide +kernel) ?_
  exact sim_lv (am_leS (am_leS (am_leS (am_leN (am_leS am_leT))))) (t_X11_searchOf_44 d (by omega) _ hrc5 _ _ _ _ _ _ _)
def f_X11_searchOf_5  : Nat → Nat × Nat → Int32 → Int32 → Int32 → Int32 → am_H → am_R
  | 0, _, _, _, _, _, _ => none
  | n + 1, a0, x1, x2, x3, x4, h => m_gI (some a0) 11 4 h fun v1 => if v1 ≤ x4 then (m_ri h x3) else (m_ao (some a0) 11 fun a4 => m_bI (f_X11_isSeen a4 x1 x4 h) fun h2 v3 => if v3 = 0 then (f_X11_searchOf_43 (f_X11_searchOf_5  n) a0 x1 x2 x4 x3 h2) else (m_ao (some a0) 11 fun a7 => m_bI (f_X11_isSo a7 x1 x4 x2 h2) fun h5 v6 => if v6 = 0 then (f_X11_searchOf_43 (f_X11_searchOf_5  n) a0 x1 x2 x4 x3 h5) else (f_X11_searchOf_44 (f_X11_searchOf_5  n) a0 x1 x2 x4 ((1 : Int32) <<< (x4 &&& 31)) x3 h5)))
theorem t_X11_searchOf_5 (d : Nat) (hd : 5 ≤ d)  : ∀ (n : Nat) (a0 : Nat × Nat) (x1 : Int32) (x2 : Int32) (x3 : Int32) (x4 : Int32) (h : am_H), Sim m_X11_searchOf d 5 [some (.inr (.inr (some a0))), some (.inl x1), some (.inl x2), some (.inl x3), some (.inl x4)] [] h (f_X11_searchOf_5  n a0 x1 x2 x3 x4 h) := by
  intro n
  induction n with
  | zero => intros; exact sim_none
  | succ n hrc5 =>
    intro a0 x1 x2 x3 x4 h
    rw [f_X11_searchOf_5]
    refine sim_iload dX11_searchOf_5 rfl ?_
    refine sim_aload_n dX11_searchOf_7 rfl ?_
    refine sim_gI 11 4 dX11_searchOf_8 rfl wf_RX11_133 (Nat.le_of_ble_eq_true rfl) rfl (fun v1 => ?_)
    refine sim_ic_ge 52 dX11_searchOf_11 (by decide) (fun c => ?_) (fun c => ?_)
    · refine sim_iload_n dX11_searchOf_52 rfl ?_
      exact sim_iret dX11_searchOf_53 rfl
    · refine sim_iload_n dX11_searchOf_14 rfl ?_
      refine sim_aload_n dX11_searchOf_15 rfl ?_
      refine sim_iload_n dX11_searchOf_16 rfl ?_
      refine sim_iload dX11_searchOf_17 rfl ?_
      refine sim_ao2 (fun a4 e => ?_)
      refine sim_virt (d - 1) e dX11_searchOf_19 (k_X11_isSeen (d - 1) (by omega) _ _ _ _) q_X11_isSeen rfl rfl wm_RX11_169 rfl rfl (by omega) (Nat.le_of_ble_eq_true rfl) am_nI (am_rI fun h2 v3 => ?_) am_eI
      refine sim_if_eq 43 dX11_searchOf_22 (by decide) (fun c => ?_) (fun c => ?_)
      · exact sim_lv (am_leS (am_leS (am_leS (am_leN (am_leS am_leT))))) (t_X11_searchOf_43 d (by omega) _ hrc5 _ _ _ _ _ _)
      · refine sim_aload_n dX11_searchOf_25 rfl ?_
        refine sim_iload_n dX11_searchOf_26 rfl ?_
        refine sim_iload dX11_searchOf_27 rfl ?_
        refine sim_iload_n dX11_searchOf_29 rfl ?_
        refine sim_ao3 (fun a7 e => ?_)
        refine sim_virt (d - 1) e dX11_searchOf_30 (k_X11_isSo (d - 1) (by omega) _ _ _ _ _) q_X11_isSo rfl rfl wm_RX11_226 rfl rfl (by omega) (Nat.le_of_ble_eq_true rfl) am_nI (am_rI fun h5 v6 => ?_) am_eI
        refine sim_if_eq 43 dX11_searchOf_33 (by decide) (fun c => ?_) (fun c => ?_)
        · exact sim_lv (am_leS (am_leS (am_leS (am_leN (am_leS am_leT))))) (t_X11_searchOf_43 d (by omega) _ hrc5 _ _ _ _ _ _)
        · refine sim_iconst (1) dX11_searchOf_36 (by decide +kernel) ?_
          refine sim_iload dX11_searchOf_37 rfl ?_
          refine sim_ishl dX11_searchOf_39 ?_
          refine sim_goto 44 dX11_searchOf_40 (by decide) ?_
          exact sim_lv (am_leS (am_leS (am_leS (am_leN (am_leS am_leT))))) (t_X11_searchOf_44 d (by omega) _ hrc5 _ _ _ _ _ _ _)
def f_X11_searchOf (a0 : Nat × Nat) (x1 : Int32) (x2 : Int32) (h : am_H) : am_R := f_X11_searchOf_5 5000 a0 x1 x2 (0 : Int32) (0 : Int32) h
theorem k_X11_searchOf (d : Nat) (hd : 5 ≤ d) (a0 : Nat × Nat) (x1 : Int32) (x2 : Int32) (h : am_H) : am_Con m_X11_searchOf d [.inr (.inr (some a0)), .inl x1, .inl x2] h (f_X11_searchOf a0 x1 x2 h) := am_con (by decide +kernel) (Nat.le_of_ble_eq_true rfl) (by
  unfold f_X11_searchOf
  refine sim_iconst (0) dX11_searchOf_0 (by decide +kernel) ?_
  refine sim_istore_n dX11_searchOf_1 (Nat.le_of_ble_eq_true rfl) ?_
  refine sim_iconst (0) dX11_searchOf_2 (by decide +kernel) ?_
  refine sim_istore dX11_searchOf_3 (Nat.le_of_ble_eq_true rfl) ?_
  exact sim_lv (am_leS (am_leS (am_leS (am_leS (am_leS am_leT))))) (t_X11_searchOf_5 d (by omega) _ _ _ _ _ _ _))
theorem q_X11_searchOf : am_Cal m_X11_searchOf 2 2 := ⟨am_mem 1428 (w := Cond.code yX11_searchOf cX11_searchOf 5 (some .int)) (by decide +kernel) rfl, am_mem 64 (w := Cond.initialized RX11) (by decide +kernel) rfl, fun z => absurd z (by decide), fun _ => am_mem 1427 (w := Cond.instanceMethod yX11_searchOf) (by decide +kernel) rfl, fun z => absurd z (by decide), fun _ => am_mem 41 (w := Cond.selects RX11 yX11_searchOf yX11_searchOf) (by decide +kernel) rfl, by decide +kernel, by decide +kernel, Nat.le_of_ble_eq_true rfl⟩
abbrev m_X11_result : am_M := (yX11_result, cX11_result, 7, some .int, [])
def f_X11_result_149  (x4 : Int32) (h : am_H) : am_R := m_ri h x4
theorem t_X11_result_149 (d : Nat) (hd : 6 ≤ d)  (x4 : Int32) (h : am_H) : Sim m_X11_result d 149 [none, none, none, none, some (.inl x4), none, none] [] h (f_X11_result_149  x4 h) := by
  unfold f_X11_result_149
  refine sim_iload dX11_result_149 rfl ?_
  exact sim_iret dX11_result_151 rfl
def f_X11_result_141 (rc50 : Nat × Nat → Int32 → Int32 → Int32 → Int32 → am_H → am_R) (a0 : Nat × Nat) (x2 : Int32) (x3 : Int32) (x5 : Int32) (s0 : Int32) (h : am_H) : am_R := rc50 a0 x2 x3 s0 (x5 + 1) h
theorem t_X11_result_141 (d : Nat) (hd : 6 ≤ d) (rc50 : Nat × Nat → Int32 → Int32 → Int32 → Int32 → am_H → am_R) (hrc50 : ∀ a0 x2 x3 x4 x5 h, Sim m_X11_result d 50 [some (.inr (.inr (some a0))), none, some (.inl x2), some (.inl x3), some (.inl x4), some (.inl x5), none] [] h (rc50 a0 x2 x3 x4 x5 h)) (a0 : Nat × Nat) (x2 : Int32) (x3 : Int32) (x5 : Int32) (s0 : Int32) (h : am_H) : Sim m_X11_result d 141 [some (.inr (.inr (some a0))), none, some (.inl x2), some (.inl x3), none, some (.inl x5), none] [.inl s0] h (f_X11_result_141 rc50 a0 x2 x3 x5 s0 h) := by
  unfold f_X11_result_141
  refine sim_istore dX11_result_141 (Nat.le_of_ble_eq_true rfl) ?_
  refine sim_iinc (1) dX11_result_143 rfl (by decide +kernel) (Nat.le_of_ble_eq_true rfl) ?_
  refine sim_goto 50 dX11_result_146 (by decide) ?_
  exact sim_lv (am_leS (am_leN (am_leS (am_leS (am_leS (am_leS (am_leN am_leT))))))) (hrc50 _ _ _ _ _ _)
def f_X11_result_112 (rc50 : Nat × Nat → Int32 → Int32 → Int32 → Int32 → am_H → am_R) (rc66 : Nat × Nat → Int32 → Int32 → Int32 → Int32 → Int32 → am_H → am_R) (a0 : Nat × Nat) (x2 : Int32) (x3 : Int32) (x5 : Int32) (x6 : Int32) (s0 : Int32) (h : am_H) : am_R := rc66 a0 x2 x3 s0 x5 (x6 + 1) h
theorem t_X11_result_112 (d : Nat) (hd : 6 ≤ d) (rc50 : Nat × Nat → Int32 → Int32 → Int32 → Int32 → am_H → am_R) (hrc50 : ∀ a0 x2 x3 x4 x5 h, Sim m_X11_result d 50 [some (.inr (.inr (some a0))), none, some (.inl x2), some (.inl x3), some (.inl x4), some (.inl x5), none] [] h (rc50 a0 x2 x3 x4 x5 h)) (rc66 : Nat × Nat → Int32 → Int32 → Int32 → Int32 → Int32 → am_H → am_R) (hrc66 : ∀ a0 x2 x3 x4 x5 x6 h, Sim m_X11_result d 66 [some (.inr (.inr (some a0))), none, some (.inl x2), some (.inl x3), some (.inl x4), some (.inl x5), some (.inl x6)] [] h (rc66 a0 x2 x3 x4 x5 x6 h)) (a0 : Nat × Nat) (x2 : Int32) (x3 : Int32) (x5 : Int32) (x6 : Int32) (s0 : Int32) (h : am_H) : Sim m_X11_result d 112 [some (.inr (.inr (some a0))), none, some (.inl x2), some (.inl x3), none, some (.inl x5), some (.inl x6)] [.inl s0] h (f_X11_result_112 rc50 rc66 a0 x2 x3 x5 x6 s0 h) := by
  unfold f_X11_result_112
  refine sim_istore dX11_result_112 (Nat.le_of_ble_eq_true rfl) ?_
  refine sim_iinc (1) dX11_result_114 rfl (by decide +kernel) (Nat.le_of_ble_eq_true rfl) ?_
  refine sim_goto 66 dX11_result_117 (by decide) ?_
  exact sim_lv (am_leS (am_leN (am_leS (am_leS (am_leS (am_leS (am_leS am_leT))))))) (hrc66 _ _ _ _ _ _ _)
def f_X11_result_110 (rc50 : Nat × Nat → Int32 → Int32 → Int32 → Int32 → am_H → am_R) (rc66 : Nat × Nat → Int32 → Int32 → Int32 → Int32 → Int32 → am_H → am_R) (a0 : Nat × Nat) (x2 : Int32) (x3 : Int32) (x4 : Int32) (x5 : Int32) (x6 : Int32) (h : am_H) : am_R := f_X11_result_112 rc50 rc66 a0 x2 x3 x5 x6 x4 h
theorem t_X11_result_110 (d : Nat) (hd : 6 ≤ d) (rc50 : Nat × Nat → Int32 → Int32 → Int32 → Int32 → am_H → am_R) (hrc50 : ∀ a0 x2 x3 x4 x5 h, Sim m_X11_result d 50 [some (.inr (.inr (some a0))), none, some (.inl x2), some (.inl x3), some (.inl x4), some (.inl x5), none] [] h (rc50 a0 x2 x3 x4 x5 h)) (rc66 : Nat × Nat → Int32 → Int32 → Int32 → Int32 → Int32 → am_H → am_R) (hrc66 : ∀ a0 x2 x3 x4 x5 x6 h, Sim m_X11_result d 66 [some (.inr (.inr (some a0))), none, some (.inl x2), some (.inl x3), some (.inl x4), some (.inl x5), some (.inl x6)] [] h (rc66 a0 x2 x3 x4 x5 x6 h)) (a0 : Nat × Nat) (x2 : Int32) (x3 : Int32) (x4 : Int32) (x5 : Int32) (x6 : Int32) (h : am_H) : Sim m_X11_result d 110 [some (.inr (.inr (some a0))), none, some (.inl x2), some (.inl x3), some (.inl x4), some (.inl x5), some (.inl x6)] [] h (f_X11_result_110 rc50 rc66 a0 x2 x3 x4 x5 x6 h) := by
  unfold f_X11_result_110
  refine sim_iload dX11_result_110 rfl ?_
  exact sim_lv (am_leS (am_leN (am_leS (am_leS (am_leN (am_leS (am_leS am_leT))))))) (t_X11_result_112 d (by omega) _ hrc50 _ hrc66 _ _ _ _ _ _ _)
def f_X11_result_105 (rc50 : Nat × Nat → Int32 → Int32 → Int32 → Int32 → am_H → am_R) (rc66 : Nat × Nat → Int32 → Int32 → Int32 → Int32 → Int32 → am_H → am_R) (a0 : Nat × Nat) (x2 : Int32) (x3 : Int32) (x5 : Int32) (x6 : Int32) (h : am_H) : am_R := f_X11_result_112 rc50 rc66 a0 x2 x3 x5 x6 x6 h
theorem t_X11_result_105 (d : Nat) (hd : 6 ≤ d) (rc50 : Nat × Nat → Int32 → Int32 → Int32 → Int32 → am_H → am_R) (hrc50 : ∀ a0 x2 x3 x4 x5 h, Sim m_X11_result d 50 [some (.inr (.inr (some a0))), none, some (.inl x2), some (.inl x3), some (.inl x4), some (.inl x5), none] [] h (rc50 a0 x2 x3 x4 x5 h)) (rc66 : Nat × Nat → Int32 → Int32 → Int32 → Int32 → Int32 → am_H → am_R) (hrc66 : ∀ a0 x2 x3 x4 x5 x6 h, Sim m_X11_result d 66 [some (.inr (.inr (some a0))), none, some (.inl x2), some (.inl x3), some (.inl x4), some (.inl x5), some (.inl x6)] [] h (rc66 a0 x2 x3 x4 x5 x6 h)) (a0 : Nat × Nat) (x2 : Int32) (x3 : Int32) (x5 : Int32) (x6 : Int32) (h : am_H) : Sim m_X11_result d 105 [some (.inr (.inr (some a0))), none, some (.inl x2), some (.inl x3), none, some (.inl x5), some (.inl x6)] [] h (f_X11_result_105 rc50 rc66 a0 x2 x3 x5 x6 h) := by
  unfold f_X11_result_105
  refine sim_iload dX11_result_105 rfl ?_
  refine sim_goto 112 dX11_result_107 (by decide) ?_
  exact sim_lv (am_leS (am_leN (am_leS (am_leS (am_leN (am_leS (am_leS am_leT))))))) (t_X11_result_112 d (by omega) _ hrc50 _ hrc66 _ _ _ _ _ _ _)
def f_X11_result_66 (rc50 : Nat × Nat → Int32 → Int32 → Int32 → Int32 → am_H → am_R) : Nat → Nat × Nat → Int32 → Int32 → Int32 → Int32 → Int32 → am_H → am_R
  | 0, _, _, _, _, _, _, _ => none
  | n + 1, a0, x2, x3, x4, x5, x6, h => m_gI (some a0) 11 4 h fun v12 => if v12 ≤ x6 then (if x5 = x2 then (f_X11_result_141 rc50 a0 x2 (x3 &&& (((1 : Int32) <<< (x4 &&& 31)) ^^^ (-1 : Int32))) x5 x4 h) else (f_X11_result_141 rc50 a0 x2 (x3 &&& (((1 : Int32) <<< (x4 &&& 31)) ^^^ (-1 : Int32))) x5 (-1 : Int32) h)) else (m_bI (f_X11_has x3 x6 h) fun h13 v14 => if v14 = 0 then (f_X11_result_110 rc50 (f_X11_result_66 rc50 n) a0 x2 x3 x4 x5 x6 h13) else (if x4 = (-1 : Int32) then (f_X11_result_105 rc50 (f_X11_result_66 rc50 n) a0 x2 x3 x5 x6 h13) else (m_ao (some a0) 11 fun a17 => m_bI (f_X11_latest a17 x6 h13) fun h15 v16 => m_ao (some a0) 11 fun a20 => m_bI (f_X11_latest a20 x4 h15) fun h18 v19 => if v16 ≤ v19 then (f_X11_result_110 rc50 (f_X11_result_66 rc50 n) a0 x2 x3 x4 x5 x6 h18) else (f_X11_result_105 rc50 (f_X11_result_66 rc50 n) a0 x2 x3 x5 x6 h18))))
theorem t_X11_result_66 (d : Nat) (hd : 6 ≤ d) (rc50 : Nat × Nat → Int32 → Int32 → Int32 → Int32 → am_H → am_R) (hrc50 : ∀ a0 x2 x3 x4 x5 h, Sim m_X11_result d 50 [some (.inr (.inr (some a0))), none, some (.inl x2), some (.inl x3), some (.inl x4), some (.inl x5), none] [] h (rc50 a0 x2 x3 x4 x5 h)) : ∀ (n : Nat) (a0 : Nat × Nat) (x2 : Int32) (x3 : Int32) (x4 : Int32) (x5 : Int32) (x6 : Int32) (h : am_H), Sim m_X11_result d 66 [some (.inr (.inr (some a0))), none, some (.inl x2), some (.inl x3), some (.inl x4), some (.inl x5), some (.inl x6)] [] h (f_X11_result_66 rc50 n a0 x2 x3 x4 x5 x6 h) := by
  intro n
  induction n with
  | zero => intros; exact sim_none
  | succ n hrc66 =>
    intro a0 x2 x3 x4 x5 x6 h
    rw [f_X11_result_66]
    refine sim_iload dX11_result_66 rfl ?_
    refine sim_aload_n dX11_result_68 rfl ?_
    refine sim_gI 11 4 dX11_result_69 rfl wf_RX11_133 (Nat.le_of_ble_eq_true rfl) rfl (fun v12 => ?_)
    refine sim_ic_ge 120 dX11_result_72 (by decide) (fun c => ?_) (fun c => ?_)
    · refine sim_iload_n dX11_result_120 rfl ?_
      refine sim_iconst (1) dX11_result_121 (by decide +kernel) ?_
      refine sim_iload dX11_result_122 rfl ?_
      refine sim_ishl dX11_result_124 ?_
      refine sim_iconst (-1) dX11_result_125 (by decide +kernel) ?_
      refine sim_ixor dX11_result_126 ?_
      refine sim_iand dX11_result_127 ?_
      refine sim_istore_n dX11_result_128 (Nat.le_of_ble_eq_true rfl) ?_
      refine sim_iload dX11_result_129 rfl ?_
      refine sim_iload_n dX11_result_131 rfl ?_
      refine sim_ic_ne 140 dX11_result_132 (by decide) (fun c => ?_) (fun c => ?_)
      · refine sim_iconst (-1) dX11_result_140 (by decide +kernel) ?_
        exact sim_lv (am_leS (am_leN (am_leS (am_leS (am_leN (am_leS (am_leN am_leT))))))) (t_X11_result_141 d (by omega) _ hrc50 _ _ _ _ _ _)
      · refine sim_iload dX11_result_135 rfl ?_
        refine sim_goto 141 dX11_result_137 (by decide) ?_
        exact sim_lv (am_leS (am_leN (am_leS (am_leS (am_leN (am_leS (am_leN am_leT))))))) (t_X11_result_141 d (by omega) _ hrc50 _ _ _ _ _ _)
    · refine sim_iload_n dX11_result_75 rfl ?_
      refine sim_iload dX11_result_76 rfl ?_
      refine sim_static (d - 1) dX11_result_78 (k_X11_has (d - 1) (by omega) _ _ _) q_X11_has wm_RX11_155 rfl rfl (by omega) (Nat.le_of_ble_eq_true rfl) am_nI (am_rI fun h13 v14 => ?_) am_eI
      refine sim_if_eq 110 dX11_result_81 (by decide) (fun c => ?_) (fun c => ?_)
      · exact sim_lv (am_leS (am_leN (am_leS (am_leS (am_leS (am_leS (am_leS am_leT))))))) (t_X11_result_110 d (by omega) _ hrc50 _ hrc66 _ _ _ _ _ _ _)
      · refine sim_iload dX11_result_84 rfl ?_
        refine sim_iconst (-1) dX11_result_86 (by decide +kernel) ?_
        refine sim_ic_eq 105 dX11_result_87 (by decide) (fun c => ?_) (fun c => ?_)
        · exact sim_lv (am_leS (am_leN (am_leS (am_leS (am_leN (am_leS (am_leS am_leT))))))) (t_X11_result_105 d (by omega) _ hrc50 _ hrc66 _ _ _ _ _ _)
        · refine sim_aload_n dX11_result_90 rfl ?_
          refine sim_iload dX11_result_91 rfl ?_
          refine sim_ao1 (fun a17 e => ?_)
          refine sim_virt (d - 1) e dX11_result_93 (k_X11_latest (d - 1) (by omega) _ _ _) q_X11_latest rfl rfl wm_RX11_236 rfl rfl (by omega) (Nat.le_of_ble_eq_true rfl) am_nI (am_rI fun h15 v16 => ?_) am_eI
          refine sim_aload_n dX11_result_96 rfl ?_
          refine sim_iload dX11_result_97 rfl ?_
          refine sim_ao1 (fun a20 e => ?_)
          refine sim_virt (d - 1) e dX11_result_99 (k_X11_latest (d - 1) (by omega) _ _ _) q_X11_latest rfl rfl wm_RX11_236 rfl rfl (by omega) (Nat.le_of_ble_eq_true rfl) am_nI (am_rI fun h18 v19 => ?_) am_eI
          refine sim_ic_le 110 dX11_result_102 (by decide) (fun c => ?_) (fun c => ?_)
          · exact sim_lv (am_leS (am_leN (am_leS (am_leS (am_leS (am_leS (am_leS am_leT))))))) (t_X11_result_110 d (by omega) _ hrc50 _ hrc66 _ _ _ _ _ _ _)
          · exact sim_lv (am_leS (am_leN (am_leS (am_leS (am_leN (am_leS (am_leS am_leT))))))) (t_X11_result_105 d (by omega) _ hrc50 _ hrc66 _ _ _ _ _ _)
def f_X11_result_50  : Nat → Nat × Nat → Int32 → Int32 → Int32 → Int32 → am_H → am_R
  | 0, _, _, _, _, _, _ => none
  | n + 1, a0, x2, x3, x4, x5, h => if x2 < x5 then (f_X11_result_149 x4 h) else (if x3 = 0 then (f_X11_result_149 x4 h) else (f_X11_result_66 (f_X11_result_50  n) 5000 a0 x2 x3 (-1 : Int32) x5 (0 : Int32) h))
theorem t_X11_result_50 (d : Nat) (hd : 6 ≤ d)  : ∀ (n : Nat) (a0 : Nat × Nat) (x2 : Int32) (x3 : Int32) (x4 : Int32) (x5 : Int32) (h : am_H), Sim m_X11_result d 50 [some (.inr (.inr (some a0))), none, some (.inl x2), some (.inl x3), some (.inl x4), some (.inl x5), none] [] h (f_X11_result_50  n a0 x2 x3 x4 x5 h) := by
  intro n
  induction n with
  | zero => intros; exact sim_none
  | succ n hrc50 =>
    intro a0 x2 x3 x4 x5 h
    rw [f_X11_result_50]
    refine sim_iload dX11_result_50 rfl ?_
    refine sim_iload_n dX11_result_52 rfl ?_
    refine sim_ic_gt 149 dX11_result_53 (by decide) (fun c => ?_) (fun c => ?_)
    · exact sim_lv (am_leN (am_leN (am_leN (am_leN (am_leS (am_leN (am_leN am_leT))))))) (t_X11_result_149 d (by omega) _ _)
    · refine sim_iload_n dX11_result_56 rfl ?_
      refine sim_if_eq 149 dX11_result_57 (by decide) (fun c => ?_) (fun c => ?_)
      · exact sim_lv (am_leN (am_leN (am_leN (am_leN (am_leS (am_leN (am_leN am_leT))))))) (t_X11_result_149 d (by omega) _ _)
      · refine sim_iconst (-1) dX11_result_60 (by decide +kernel) ?_
        refine sim_istore dX11_result_61 (Nat.le_of_ble_eq_true rfl) ?_
        refine sim_iconst (0) dX11_result_63 (by decide +kernel) ?_
        refine sim_istore dX11_result_64 (Nat.le_of_ble_eq_true rfl) ?_
        exact sim_lv (am_leS (am_leN (am_leS (am_leS (am_leS (am_leS (am_leS am_leT))))))) (t_X11_result_66 d (by omega) _ hrc50 _ _ _ _ _ _ _ _)
def f_X11_result_29  (a0 : Nat × Nat) (x1 : Int32) (x2 : Int32) (s0 : Int32) (s1 : Option (Nat × Nat)) (h : am_H) : am_R := m_ao s1 11 fun a8 => m_bI (f_X11_holds a8 s0 h) fun h6 v7 => if v7 = 0 then (m_ri h6 (0 : Int32)) else (m_ao (some a0) 11 fun a11 => m_bI (f_X11_searchOf a11 x1 (0 : Int32) h6) fun h9 v10 => f_X11_result_50 5000 a0 x2 v10 (-1 : Int32) (0 : Int32) h9)
theorem t_X11_result_29 (d : Nat) (hd : 6 ≤ d)  (a0 : Nat × Nat) (x1 : Int32) (x2 : Int32) (s0 : Int32) (s1 : Option (Nat × Nat)) (h : am_H) : Sim m_X11_result d 29 [some (.inr (.inr (some a0))), some (.inl x1), some (.inl x2), none, none, none, none] [.inl s0, .inr (.inr s1)] h (f_X11_result_29  a0 x1 x2 s0 s1 h) := by
  unfold f_X11_result_29
  refine sim_ao1 (fun a8 e => ?_)
  refine sim_virt (d - 1) e dX11_result_29 (k_X11_holds (d - 1) (by omega) _ _ _) q_X11_holds rfl rfl wm_RX11_142 rfl rfl (by omega) (Nat.le_of_ble_eq_true rfl) am_nI (am_rI fun h6 v7 => ?_) am_eI
  refine sim_if_ne 37 dX11_result_32 (by decide) (fun c => ?_) (fun c => ?_)
  · refine sim_aload_n dX11_result_37 rfl ?_
    refine sim_iload_n dX11_result_38 rfl ?_
    refine sim_iconst (0) dX11_result_39 (by decide +kernel) ?_
    refine sim_ao2 (fun a11 e => ?_)
    refine sim_virt (d - 1) e dX11_result_40 (k_X11_searchOf (d - 1) (by omega) _ _ _ _) q_X11_searchOf rfl rfl wm_RX11_229 rfl rfl (by omega) (Nat.le_of_ble_eq_true rfl) am_nI (am_rI fun h9 v10 => ?_) am_eI
    refine sim_istore_n dX11_result_43 (Nat.le_of_ble_eq_true rfl) ?_
    refine sim_iconst (-1) dX11_result_44 (by decide +kernel) ?_
    refine sim_istore dX11_result_45 (Nat.le_of_ble_eq_true rfl) ?_
    refine sim_iconst (0) dX11_result_47 (by decide +kernel) ?_
    refine sim_istore dX11_result_48 (Nat.le_of_ble_eq_true rfl) ?_
    exact sim_lv (am_leS (am_leN (am_leS (am_leS (am_leS (am_leS (am_leN am_leT))))))) (t_X11_result_50 d (by omega) _ _ _ _ _ _ _)
  · refine sim_iconst (0) dX11_result_35 (by decide +kernel) ?_
    exact sim_iret dX11_result_36 rfl
def f_X11_result_12  (a0 : Nat × Nat) (x1 : Int32) (x2 : Int32) (s0 : Option (Nat × Nat)) (h : am_H) : am_R := f_X11_result_29 a0 x1 x2 (1 : Int32) s0 h
theorem t_X11_result_12 (d : Nat) (hd : 6 ≤ d)  (a0 : Nat × Nat) (x1 : Int32) (x2 : Int32) (s0 : Option (Nat × Nat)) (h : am_H) : Sim m_X11_result d 12 [some (.inr (.inr (some a0))), some (.inl x1), some (.inl x2), none, none, none, none] [.inr (.inr s0)] h (f_X11_result_12  a0 x1 x2 s0 h) := by
  unfold f_X11_result_12
  refine sim_iconst (1) dX11_result_12 (by decide +kernel) ?_
  refine sim_goto 29 dX11_result_13 (by decide) ?_
  exact sim_lv (am_leS (am_leS (am_leS (am_leN (am_leN (am_leN (am_leN am_leT))))))) (t_X11_result_29 d (by omega) _ _ _ _ _ _)
def f_X11_result (a0 : Nat × Nat) (x1 : Int32) (x2 : Int32) (h : am_H) : am_R := m_bI (f_X11_isFace x1 h) fun h1 v2 => if v2 = 0 then (f_X11_result_12 a0 x1 x2 (some a0) h1) else (if 0 ≤ x2 then (m_ao (some a0) 11 fun a5 => m_bI (f_X11_faultOf a5 h1) fun h3 v4 => if v4 = (-1 : Int32) then (f_X11_result_29 a0 x1 x2 (0 : Int32) (some a0) h3) else (f_X11_result_29 a0 x1 x2 (2 : Int32) (some a0) h3)) else (f_X11_result_12 a0 x1 x2 (some a0) h1))
theorem k_X11_result (d : Nat) (hd : 6 ≤ d) (a0 : Nat × Nat) (x1 : Int32) (x2 : Int32) (h : am_H) : am_Con m_X11_result d [.inr (.inr (some a0)), .inl x1, .inl x2] h (f_X11_result a0 x1 x2 h) := am_con (by decide +kernel) (Nat.le_of_ble_eq_true rfl) (by
  unfold f_X11_result
  refine sim_aload_n dX11_result_0 rfl ?_
  refine sim_iload_n dX11_result_1 rfl ?_
  refine sim_static (d - 1) dX11_result_2 (k_X11_isFace (d - 1) (by omega) _ _) q_X11_isFace wm_RX11_149 rfl rfl (by omega) (Nat.le_of_ble_eq_true rfl) am_nI (am_rI fun h1 v2 => ?_) am_eI
  refine sim_if_eq 12 dX11_result_5 (by decide) (fun c => ?_) (fun c => ?_)
  · exact sim_lv (am_leS (am_leS (am_leS (am_leN (am_leN (am_leN (am_leN am_leT))))))) (t_X11_result_12 d (by omega) _ _ _ _ _)
  · refine sim_iload_n dX11_result_8 rfl ?_
    refine sim_if_ge 16 dX11_result_9 (by decide) (fun c => ?_) (fun c => ?_)
    · refine sim_aload_n dX11_result_16 rfl ?_
      refine sim_ao0 (fun a5 e => ?_)
      refine sim_virt (d - 1) e dX11_result_17 (k_X11_faultOf (d - 1) (by omega) _  _) q_X11_faultOf rfl rfl wm_RX11_209 rfl rfl (by omega) (Nat.le_of_ble_eq_true rfl) am_nI (am_rI fun h3 v4 => ?_) am_eI
      refine sim_iconst (-1) dX11_result_20 (by decide +kernel) ?_
      refine sim_ic_eq 28 dX11_result_21 (by decide) (fun c => ?_) (fun c => ?_)
      · refine sim_iconst (0) dX11_result_28 (by decide +kernel) ?_
        exact sim_lv (am_leS (am_leS (am_leS (am_leN (am_leN (am_leN (am_leN am_leT))))))) (t_X11_result_29 d (by omega) _ _ _ _ _ _)
      · refine sim_iconst (2) dX11_result_24 (by decide +kernel) ?_
        refine sim_goto 29 dX11_result_25 (by decide) ?_
        exact sim_lv (am_leS (am_leS (am_leS (am_leN (am_leN (am_leN (am_leN am_leT))))))) (t_X11_result_29 d (by omega) _ _ _ _ _ _)
    · exact sim_lv (am_leS (am_leS (am_leS (am_leN (am_leN (am_leN (am_leN am_leT))))))) (t_X11_result_12 d (by omega) _ _ _ _ _))
theorem q_X11_result : am_Cal m_X11_result 2 2 := ⟨am_mem 1448 (w := Cond.code yX11_result cX11_result 7 (some .int)) (by decide +kernel) rfl, am_mem 64 (w := Cond.initialized RX11) (by decide +kernel) rfl, fun z => absurd z (by decide), fun _ => am_mem 1446 (w := Cond.instanceMethod yX11_result) (by decide +kernel) rfl, fun z => absurd z (by decide), fun _ => am_mem 1447 (w := Cond.selects RX11 yX11_result yX11_result) (by decide +kernel) rfl, by decide +kernel, by decide +kernel, Nat.le_of_ble_eq_true rfl⟩
abbrev m_X11_same : am_M := (yX11_same, cX11_same, 6, some .boolean, [])
def f_X11_same_100  (s0 : Int32) (h : am_H) : am_R := m_rz h s0
theorem t_X11_same_100 (d : Nat) (hd : 2 ≤ d)  (s0 : Int32) (h : am_H) : Sim m_X11_same d 100 [none, none, none, none, none, none] [.inl s0] h (f_X11_same_100  s0 h) := by
  unfold f_X11_same_100
  exact sim_zret dX11_same_100 rfl
def f_X11_same_82 (rc46 : Nat × Nat → Int32 → Int32 → Int32 → am_H → am_R) (a0 : Nat × Nat) (x3 : Int32) (x4 : Int32) (x5 : Int32) (s0 : Int32) (s1 : Int32) (s2 : Option (Nat × Nat)) (h : am_H) : am_R := m_sI s2 s1 s0 h fun h17 => rc46 a0 x3 x4 (x5 + 1) h17
theorem t_X11_same_82 (d : Nat) (hd : 2 ≤ d) (rc46 : Nat × Nat → Int32 → Int32 → Int32 → am_H → am_R) (hrc46 : ∀ a0 x3 x4 x5 h, Sim m_X11_same d 46 [some (.inr (.inr (some a0))), none, none, some (.inl x3), some (.inl x4), some (.inl x5)] [] h (rc46 a0 x3 x4 x5 h)) (a0 : Nat × Nat) (x3 : Int32) (x4 : Int32) (x5 : Int32) (s0 : Int32) (s1 : Int32) (s2 : Option (Nat × Nat)) (h : am_H) : Sim m_X11_same d 82 [some (.inr (.inr (some a0))), none, none, some (.inl x3), some (.inl x4), some (.inl x5)] [.inl s0, .inl s1, .inr (.inr s2)] h (f_X11_same_82 rc46 a0 x3 x4 x5 s0 s1 s2 h) := by
  unfold f_X11_same_82
  refine sim_sI dX11_same_82 (fun h17 => ?_)
  refine sim_iinc (1) dX11_same_83 rfl (by decide +kernel) (Nat.le_of_ble_eq_true rfl) ?_
  refine sim_goto 46 dX11_same_86 (by decide) ?_
  exact sim_lv (am_leS (am_leN (am_leN (am_leS (am_leS (am_leS am_leT)))))) (hrc46 _ _ _ _ _)
def f_X11_same_46  : Nat → Nat × Nat → Int32 → Int32 → Int32 → am_H → am_R
  | 0, _, _, _, _, _ => none
  | n + 1, a0, x3, x4, x5, h => if (32 : Int32) ≤ x5 then (if x3 = x4 then (f_X11_same_100 (0 : Int32) h) else (f_X11_same_100 (1 : Int32) h)) else (m_gR (some a0) 11 3 h fun o12 => m_gR (some a0) 11 3 h fun o13 => m_aI o13 0 x5 h fun v14 => if v14 = x4 then (f_X11_same_82 (f_X11_same_46  n) a0 x3 x4 x5 x3 x5 o12 h) else (m_gR (some a0) 11 3 h fun o15 => m_aI o15 0 x5 h fun v16 => f_X11_same_82 (f_X11_same_46  n) a0 x3 x4 x5 v16 x5 o12 h))
theorem t_X11_same_46 (d : Nat) (hd : 2 ≤ d)  : ∀ (n : Nat) (a0 : Nat × Nat) (x3 : Int32) (x4 : Int32) (x5 : Int32) (h : am_H), Sim m_X11_same d 46 [some (.inr (.inr (some a0))), none, none, some (.inl x3), some (.inl x4), some (.inl x5)] [] h (f_X11_same_46  n a0 x3 x4 x5 h) := by
  intro n
  induction n with
  | zero => intros; exact sim_none
  | succ n hrc46 =>
    intro a0 x3 x4 x5 h
    rw [f_X11_same_46]
    refine sim_iload dX11_same_46 rfl ?_
    refine sim_bipush (32) dX11_same_48 (by decide +kernel) ?_
    refine sim_ic_ge 89 dX11_same_50 (by decide) (fun c => ?_) (fun c => ?_)
    · refine sim_iload_n dX11_same_89 rfl ?_
      refine sim_iload dX11_same_90 rfl ?_
      refine sim_ic_eq 99 dX11_same_92 (by decide) (fun c => ?_) (fun c => ?_)
      · refine sim_iconst (0) dX11_same_99 (by decide +kernel) ?_
        exact sim_lv (am_leN (am_leN (am_leN (am_leN (am_leN (am_leN am_leT)))))) (t_X11_same_100 d (by omega) _ _)
      · refine sim_iconst (1) dX11_same_95 (by decide +kernel) ?_
        refine sim_goto 100 dX11_same_96 (by decide) ?_
        exact sim_lv (am_leN (am_leN (am_leN (am_leN (am_leN (am_leN am_leT)))))) (t_X11_same_100 d (by omega) _ _)
    · refine sim_aload_n dX11_same_53 rfl ?_
      refine sim_gR 11 3 dX11_same_54 rfl wf_RX11_13 (Nat.le_of_ble_eq_true rfl) rfl (fun o12 => ?_)
      refine sim_iload dX11_same_57 rfl ?_
      refine sim_aload_n dX11_same_59 rfl ?_
      refine sim_gR 11 3 dX11_same_60 rfl wf_RX11_13 (Nat.le_of_ble_eq_true rfl) rfl (fun o13 => ?_)
      refine sim_iload dX11_same_63 rfl ?_
      refine sim_aI dX11_same_65 (fun v14 => ?_)
      refine sim_iload dX11_same_66 rfl ?_
      refine sim_ic_ne 75 dX11_same_68 (by decide) (fun c => ?_) (fun c => ?_)
      · refine sim_aload_n dX11_same_75 rfl ?_
        refine sim_gR 11 3 dX11_same_76 rfl wf_RX11_13 (Nat.le_of_ble_eq_true rfl) rfl (fun o15 => ?_)
        refine sim_iload dX11_same_79 rfl ?_
        refine sim_aI dX11_same_81 (fun v16 => ?_)
        exact sim_lv (am_leS (am_leN (am_leN (am_leS (am_leS (am_leS am_leT)))))) (t_X11_same_82 d (by omega) _ hrc46 _ _ _ _ _ _ _ _)
      · refine sim_iload_n dX11_same_71 rfl ?_
        refine sim_goto 82 dX11_same_72 (by decide) ?_
        exact sim_lv (am_leS (am_leN (am_leN (am_leS (am_leS (am_leS am_leT)))))) (t_X11_same_82 d (by omega) _ hrc46 _ _ _ _ _ _ _ _)
def f_X11_same_20  (a0 : Nat × Nat) (x1 : Int32) (x2 : Int32) (s0 : Int32) (s1 : Option (Nat × Nat)) (h : am_H) : am_R := m_ao s1 11 fun a7 => m_bI (f_X11_holds a7 s0 h) fun h5 v6 => if v6 = 0 then (m_rz h5 (0 : Int32)) else (m_gR (some a0) 11 3 h5 fun o8 => m_aI o8 0 x1 h5 fun v9 => m_gR (some a0) 11 3 h5 fun o10 => m_aI o10 0 x2 h5 fun v11 => f_X11_same_46 5000 a0 v9 v11 (0 : Int32) h5)
theorem t_X11_same_20 (d : Nat) (hd : 2 ≤ d)  (a0 : Nat × Nat) (x1 : Int32) (x2 : Int32) (s0 : Int32) (s1 : Option (Nat × Nat)) (h : am_H) : Sim m_X11_same d 20 [some (.inr (.inr (some a0))), some (.inl x1), some (.inl x2), none, none, none] [.inl s0, .inr (.inr s1)] h (f_X11_same_20  a0 x1 x2 s0 s1 h) := by
  unfold f_X11_same_20
  refine sim_ao1 (fun a7 e => ?_)
  refine sim_virt (d - 1) e dX11_same_20 (k_X11_holds (d - 1) (by omega) _ _ _) q_X11_holds rfl rfl wm_RX11_142 rfl rfl (by omega) (Nat.le_of_ble_eq_true rfl) am_nI (am_rI fun h5 v6 => ?_) am_eI
  refine sim_if_ne 28 dX11_same_23 (by decide) (fun c => ?_) (fun c => ?_)
  · refine sim_aload_n dX11_same_28 rfl ?_
    refine sim_gR 11 3 dX11_same_29 rfl wf_RX11_13 (Nat.le_of_ble_eq_true rfl) rfl (fun o8 => ?_)
    refine sim_iload_n dX11_same_32 rfl ?_
    refine sim_aI dX11_same_33 (fun v9 => ?_)
    refine sim_istore_n dX11_same_34 (Nat.le_of_ble_eq_true rfl) ?_
    refine sim_aload_n dX11_same_35 rfl ?_
    refine sim_gR 11 3 dX11_same_36 rfl wf_RX11_13 (Nat.le_of_ble_eq_true rfl) rfl (fun o10 => ?_)
    refine sim_iload_n dX11_same_39 rfl ?_
    refine sim_aI dX11_same_40 (fun v11 => ?_)
    refine sim_istore dX11_same_41 (Nat.le_of_ble_eq_true rfl) ?_
    refine sim_iconst (0) dX11_same_43 (by decide +kernel) ?_
    refine sim_istore dX11_same_44 (Nat.le_of_ble_eq_true rfl) ?_
    exact sim_lv (am_leS (am_leN (am_leN (am_leS (am_leS (am_leS am_leT)))))) (t_X11_same_46 d (by omega) _ _ _ _ _ _)
  · refine sim_iconst (0) dX11_same_26 (by decide +kernel) ?_
    exact sim_zret dX11_same_27 rfl
def f_X11_same_19  (a0 : Nat × Nat) (x1 : Int32) (x2 : Int32) (s0 : Option (Nat × Nat)) (h : am_H) : am_R := f_X11_same_20 a0 x1 x2 (1 : Int32) s0 h
theorem t_X11_same_19 (d : Nat) (hd : 2 ≤ d)  (a0 : Nat × Nat) (x1 : Int32) (x2 : Int32) (s0 : Option (Nat × Nat)) (h : am_H) : Sim m_X11_same d 19 [some (.inr (.inr (some a0))), some (.inl x1), some (.inl x2), none, none, none] [.inr (.inr s0)] h (f_X11_same_19  a0 x1 x2 s0 h) := by
  unfold f_X11_same_19
  refine sim_iconst (1) dX11_same_19 (by decide +kernel) ?_
  exact sim_lv (am_leS (am_leS (am_leS (am_leN (am_leN (am_leN am_leT)))))) (t_X11_same_20 d (by omega) _ _ _ _ _ _)
def f_X11_same (a0 : Nat × Nat) (x1 : Int32) (x2 : Int32) (h : am_H) : am_R := m_bI (f_X11_isFace x1 h) fun h1 v2 => if v2 = 0 then (f_X11_same_19 a0 x1 x2 (some a0) h1) else (m_bI (f_X11_isFace x2 h1) fun h3 v4 => if v4 = 0 then (f_X11_same_19 a0 x1 x2 (some a0) h3) else (f_X11_same_20 a0 x1 x2 (0 : Int32) (some a0) h3))
theorem k_X11_same (d : Nat) (hd : 2 ≤ d) (a0 : Nat × Nat) (x1 : Int32) (x2 : Int32) (h : am_H) : am_Con m_X11_same d [.inr (.inr (some a0)), .inl x1, .inl x2] h (f_X11_same a0 x1 x2 h) := am_con (by decide +kernel) (Nat.le_of_ble_eq_true rfl) (by
  unfold f_X11_same
  refine sim_aload_n dX11_same_0 rfl ?_
  refine sim_iload_n dX11_same_1 rfl ?_
  refine sim_static (d - 1) dX11_same_2 (k_X11_isFace (d - 1) (by omega) _ _) q_X11_isFace wm_RX11_149 rfl rfl (by omega) (Nat.le_of_ble_eq_true rfl) am_nI (am_rI fun h1 v2 => ?_) am_eI
  refine sim_if_eq 19 dX11_same_5 (by decide) (fun c => ?_) (fun c => ?_)
  · exact sim_lv (am_leS (am_leS (am_leS (am_leN (am_leN (am_leN am_leT)))))) (t_X11_same_19 d (by omega) _ _ _ _ _)
  · refine sim_iload_n dX11_same_8 rfl ?_
    refine sim_static (d - 1) dX11_same_9 (k_X11_isFace (d - 1) (by omega) _ _) q_X11_isFace wm_RX11_149 rfl rfl (by omega) (Nat.le_of_ble_eq_true rfl) am_nI (am_rI fun h3 v4 => ?_) am_eI
    refine sim_if_eq 19 dX11_same_12 (by decide) (fun c => ?_) (fun c => ?_)
    · exact sim_lv (am_leS (am_leS (am_leS (am_leN (am_leN (am_leN am_leT)))))) (t_X11_same_19 d (by omega) _ _ _ _ _)
    · refine sim_iconst (0) dX11_same_15 (by decide +kernel) ?_
      refine sim_goto 20 dX11_same_16 (by decide) ?_
      exact sim_lv (am_leS (am_leS (am_leS (am_leN (am_leN (am_leN am_leT)))))) (t_X11_same_20 d (by omega) _ _ _ _ _ _))
theorem q_X11_same : am_Cal m_X11_same 2 2 := ⟨am_mem 1269 (w := Cond.code yX11_same cX11_same 6 (some .boolean)) (by decide +kernel) rfl, am_mem 64 (w := Cond.initialized RX11) (by decide +kernel) rfl, fun z => absurd z (by decide), fun _ => am_mem 1267 (w := Cond.instanceMethod yX11_same) (by decide +kernel) rfl, fun z => absurd z (by decide), fun _ => am_mem 1268 (w := Cond.selects RX11 yX11_same yX11_same) (by decide +kernel) rfl, by decide +kernel, by decide +kernel, Nat.le_of_ble_eq_true rfl⟩
abbrev m_X11_screen : am_M := (yX11_screen, cX11_screen, 4, some .boolean, [])
def f_X11_screen_14  (a0 : Nat × Nat) (x1 : Int32) (x2 : Int32) (s0 : Int32) (s1 : Option (Nat × Nat)) (h : am_H) : am_R := m_ao s1 11 fun a6 => m_bI (f_X11_holds a6 s0 h) fun h4 v5 => if v5 = 0 then (m_rz h4 (0 : Int32)) else (m_gR (some a0) 11 15 h4 fun o7 => m_aI o7 1 x1 h4 fun v8 => m_gR (some a0) 11 15 h4 fun o9 => m_sZ o9 x1 x2 h4 fun h10 => m_rz h10 v8)
theorem t_X11_screen_14 (d : Nat) (hd : 2 ≤ d)  (a0 : Nat × Nat) (x1 : Int32) (x2 : Int32) (s0 : Int32) (s1 : Option (Nat × Nat)) (h : am_H) : Sim m_X11_screen d 14 [some (.inr (.inr (some a0))), some (.inl x1), some (.inl x2), none] [.inl s0, .inr (.inr s1)] h (f_X11_screen_14  a0 x1 x2 s0 s1 h) := by
  unfold f_X11_screen_14
  refine sim_ao1 (fun a6 e => ?_)
  refine sim_virt (d - 1) e dX11_screen_14 (k_X11_holds (d - 1) (by omega) _ _ _) q_X11_holds rfl rfl wm_RX11_142 rfl rfl (by omega) (Nat.le_of_ble_eq_true rfl) am_nI (am_rI fun h4 v5 => ?_) am_eI
  refine sim_if_ne 22 dX11_screen_17 (by decide) (fun c => ?_) (fun c => ?_)
  · refine sim_aload_n dX11_screen_22 rfl ?_
    refine sim_gR 11 15 dX11_screen_23 rfl wf_RX11_47 (Nat.le_of_ble_eq_true rfl) rfl (fun o7 => ?_)
    refine sim_iload_n dX11_screen_26 rfl ?_
    refine sim_aZ dX11_screen_27 (fun v8 => ?_)
    refine sim_istore_n dX11_screen_28 (Nat.le_of_ble_eq_true rfl) ?_
    refine sim_aload_n dX11_screen_29 rfl ?_
    refine sim_gR 11 15 dX11_screen_30 rfl wf_RX11_47 (Nat.le_of_ble_eq_true rfl) rfl (fun o9 => ?_)
    refine sim_iload_n dX11_screen_33 rfl ?_
    refine sim_iload_n dX11_screen_34 rfl ?_
    refine sim_sZ dX11_screen_35 (fun h10 => ?_)
    refine sim_iload_n dX11_screen_36 rfl ?_
    exact sim_zret dX11_screen_37 rfl
  · refine sim_iconst (0) dX11_screen_20 (by decide +kernel) ?_
    exact sim_zret dX11_screen_21 rfl
def f_X11_screen (a0 : Nat × Nat) (x1 : Int32) (x2 : Int32) (h : am_H) : am_R := m_ao (some a0) 11 fun a3 => m_bI (f_X11_isWork a3 x1 h) fun h1 v2 => if v2 = 0 then (f_X11_screen_14 a0 x1 x2 (1 : Int32) (some a0) h1) else (f_X11_screen_14 a0 x1 x2 (0 : Int32) (some a0) h1)
theorem k_X11_screen (d : Nat) (hd : 2 ≤ d) (a0 : Nat × Nat) (x1 : Int32) (x2 : Int32) (h : am_H) : am_Con m_X11_screen d [.inr (.inr (some a0)), .inl x1, .inl x2] h (f_X11_screen a0 x1 x2 h) := am_con (by decide +kernel) (Nat.le_of_ble_eq_true rfl) (by
  unfold f_X11_screen
  refine sim_aload_n dX11_screen_0 rfl ?_
  refine sim_aload_n dX11_screen_1 rfl ?_
  refine sim_iload_n dX11_screen_2 rfl ?_
  refine sim_ao1 (fun a3 e => ?_)
  refine sim_virt (d - 1) e dX11_screen_3 (k_X11_isWork (d - 1) (by omega) _ _ _) q_X11_isWork rfl rfl wm_RX11_152 rfl rfl (by omega) (Nat.le_of_ble_eq_true rfl) am_nI (am_rI fun h1 v2 => ?_) am_eI
  refine sim_if_eq 13 dX11_screen_6 (by decide) (fun c => ?_) (fun c => ?_)
  · refine sim_iconst (1) dX11_screen_13 (by decide +kernel) ?_
    exact sim_lv (am_leS (am_leS (am_leS (am_leN am_leT)))) (t_X11_screen_14 d (by omega) _ _ _ _ _ _)
  · refine sim_iconst (0) dX11_screen_9 (by decide +kernel) ?_
    refine sim_goto 14 dX11_screen_10 (by decide) ?_
    exact sim_lv (am_leS (am_leS (am_leS (am_leN am_leT)))) (t_X11_screen_14 d (by omega) _ _ _ _ _ _))
theorem q_X11_screen : am_Cal m_X11_screen 2 2 := ⟨am_mem 1480 (w := Cond.code yX11_screen cX11_screen 4 (some .boolean)) (by decide +kernel) rfl, am_mem 64 (w := Cond.initialized RX11) (by decide +kernel) rfl, fun z => absurd z (by decide), fun _ => am_mem 1478 (w := Cond.instanceMethod yX11_screen) (by decide +kernel) rfl, fun z => absurd z (by decide), fun _ => am_mem 1479 (w := Cond.selects RX11 yX11_screen yX11_screen) (by decide +kernel) rfl, by decide +kernel, by decide +kernel, Nat.le_of_ble_eq_true rfl⟩
abbrev m_X11_search : am_M := (yX11_search, cX11_search, 3, some .int, [])
def f_X11_search_41  (s0 : Int32) (h : am_H) : am_R := m_ri h s0
theorem t_X11_search_41 (d : Nat) (hd : 6 ≤ d)  (s0 : Int32) (h : am_H) : Sim m_X11_search d 41 [none, none, none] [.inl s0] h (f_X11_search_41  s0 h) := by
  unfold f_X11_search_41
  exact sim_iret dX11_search_41 rfl
def f_X11_search_25  (a0 : Nat × Nat) (x1 : Int32) (x2 : Int32) (s0 : Int32) (s1 : Option (Nat × Nat)) (h : am_H) : am_R := m_ao s1 11 fun a8 => m_bI (f_X11_holds a8 s0 h) fun h6 v7 => if v7 = 0 then (f_X11_search_41 (0 : Int32) h6) else (m_ao (some a0) 11 fun a11 => m_bI (f_X11_searchOf a11 x1 x2 h6) fun h9 v10 => f_X11_search_41 v10 h9)
theorem t_X11_search_25 (d : Nat) (hd : 6 ≤ d)  (a0 : Nat × Nat) (x1 : Int32) (x2 : Int32) (s0 : Int32) (s1 : Option (Nat × Nat)) (h : am_H) : Sim m_X11_search d 25 [some (.inr (.inr (some a0))), some (.inl x1), some (.inl x2)] [.inl s0, .inr (.inr s1)] h (f_X11_search_25  a0 x1 x2 s0 s1 h) := by
  unfold f_X11_search_25
  refine sim_ao1 (fun a8 e => ?_)
  refine sim_virt (d - 1) e dX11_search_25 (k_X11_holds (d - 1) (by omega) _ _ _) q_X11_holds rfl rfl wm_RX11_142 rfl rfl (by omega) (Nat.le_of_ble_eq_true rfl) am_nI (am_rI fun h6 v7 => ?_) am_eI
  refine sim_if_eq 40 dX11_search_28 (by decide) (fun c => ?_) (fun c => ?_)
  · refine sim_iconst (0) dX11_search_40 (by decide +kernel) ?_
    exact sim_lv (am_leN (am_leN (am_leN am_leT))) (t_X11_search_41 d (by omega) _ _)
  · refine sim_aload_n dX11_search_31 rfl ?_
    refine sim_iload_n dX11_search_32 rfl ?_
    refine sim_iload_n dX11_search_33 rfl ?_
    refine sim_ao2 (fun a11 e => ?_)
    refine sim_virt (d - 1) e dX11_search_34 (k_X11_searchOf (d - 1) (by omega) _ _ _ _) q_X11_searchOf rfl rfl wm_RX11_229 rfl rfl (by omega) (Nat.le_of_ble_eq_true rfl) am_nI (am_rI fun h9 v10 => ?_) am_eI
    refine sim_goto 41 dX11_search_37 (by decide) ?_
    exact sim_lv (am_leN (am_leN (am_leN am_leT))) (t_X11_search_41 d (by omega) _ _)
def f_X11_search (a0 : Nat × Nat) (x1 : Int32) (x2 : Int32) (h : am_H) : am_R := m_bI (f_X11_isFace x1 h) fun h1 v2 => if v2 = 0 then (f_X11_search_25 a0 x1 x2 (1 : Int32) (some a0) h1) else (m_ao (some a0) 11 fun a5 => m_bI (f_X11_faultOf a5 h1) fun h3 v4 => if v4 = (-1 : Int32) then (f_X11_search_25 a0 x1 x2 (0 : Int32) (some a0) h3) else (f_X11_search_25 a0 x1 x2 (2 : Int32) (some a0) h3))
theorem k_X11_search (d : Nat) (hd : 6 ≤ d) (a0 : Nat × Nat) (x1 : Int32) (x2 : Int32) (h : am_H) : am_Con m_X11_search d [.inr (.inr (some a0)), .inl x1, .inl x2] h (f_X11_search a0 x1 x2 h) := am_con (by decide +kernel) (Nat.le_of_ble_eq_true rfl) (by
  unfold f_X11_search
  refine sim_aload_n dX11_search_0 rfl ?_
  refine sim_iload_n dX11_search_1 rfl ?_
  refine sim_static (d - 1) dX11_search_2 (k_X11_isFace (d - 1) (by omega) _ _) q_X11_isFace wm_RX11_149 rfl rfl (by omega) (Nat.le_of_ble_eq_true rfl) am_nI (am_rI fun h1 v2 => ?_) am_eI
  refine sim_if_ne 12 dX11_search_5 (by decide) (fun c => ?_) (fun c => ?_)
  · refine sim_aload_n dX11_search_12 rfl ?_
    refine sim_ao0 (fun a5 e => ?_)
    refine sim_virt (d - 1) e dX11_search_13 (k_X11_faultOf (d - 1) (by omega) _  _) q_X11_faultOf rfl rfl wm_RX11_209 rfl rfl (by omega) (Nat.le_of_ble_eq_true rfl) am_nI (am_rI fun h3 v4 => ?_) am_eI
    refine sim_iconst (-1) dX11_search_16 (by decide +kernel) ?_
    refine sim_ic_eq 24 dX11_search_17 (by decide) (fun c => ?_) (fun c => ?_)
    · refine sim_iconst (0) dX11_search_24 (by decide +kernel) ?_
      exact sim_lv (am_leS (am_leS (am_leS am_leT))) (t_X11_search_25 d (by omega) _ _ _ _ _ _)
    · refine sim_iconst (2) dX11_search_20 (by decide +kernel) ?_
      refine sim_goto 25 dX11_search_21 (by decide) ?_
      exact sim_lv (am_leS (am_leS (am_leS am_leT))) (t_X11_search_25 d (by omega) _ _ _ _ _ _)
  · refine sim_iconst (1) dX11_search_8 (by decide +kernel) ?_
    refine sim_goto 25 dX11_search_9 (by decide) ?_
    exact sim_lv (am_leS (am_leS (am_leS am_leT))) (t_X11_search_25 d (by omega) _ _ _ _ _ _))
theorem q_X11_search : am_Cal m_X11_search 2 2 := ⟨am_mem 1424 (w := Cond.code yX11_search cX11_search 3 (some .int)) (by decide +kernel) rfl, am_mem 64 (w := Cond.initialized RX11) (by decide +kernel) rfl, fun z => absurd z (by decide), fun _ => am_mem 1422 (w := Cond.instanceMethod yX11_search) (by decide +kernel) rfl, fun z => absurd z (by decide), fun _ => am_mem 1423 (w := Cond.selects RX11 yX11_search yX11_search) (by decide +kernel) rfl, by decide +kernel, by decide +kernel, Nat.le_of_ble_eq_true rfl⟩
abbrev m_X11_sees : am_M := (yX11_sees, cX11_sees, 3, some .boolean, [])
def f_X11_sees_41  (s0 : Int32) (h : am_H) : am_R := m_rz h s0
theorem t_X11_sees_41 (d : Nat) (hd : 3 ≤ d)  (s0 : Int32) (h : am_H) : Sim m_X11_sees d 41 [none, none, none] [.inl s0] h (f_X11_sees_41  s0 h) := by
  unfold f_X11_sees_41
  exact sim_zret dX11_sees_41 rfl
def f_X11_sees_40   (h : am_H) : am_R := f_X11_sees_41 (0 : Int32) h
theorem t_X11_sees_40 (d : Nat) (hd : 3 ≤ d)   (h : am_H) : Sim m_X11_sees d 40 [none, none, none] [] h (f_X11_sees_40   h) := by
  unfold f_X11_sees_40
  refine sim_iconst (0) dX11_sees_40 (by decide +kernel) ?_
  exact sim_lv (am_leN (am_leN (am_leN am_leT))) (t_X11_sees_41 d (by omega) _ _)
def f_X11_sees_21  (a0 : Nat × Nat) (x1 : Int32) (x2 : Int32) (s0 : Int32) (s1 : Option (Nat × Nat)) (h : am_H) : am_R := m_ao s1 11 fun a8 => m_bI (f_X11_holds a8 s0 h) fun h6 v7 => if v7 = 0 then (f_X11_sees_40 h6) else (m_ao (some a0) 11 fun a11 => m_bI (f_X11_isSeen a11 x1 x2 h6) fun h9 v10 => if v10 = 0 then (f_X11_sees_40 h9) else (f_X11_sees_41 (1 : Int32) h9))
theorem t_X11_sees_21 (d : Nat) (hd : 3 ≤ d)  (a0 : Nat × Nat) (x1 : Int32) (x2 : Int32) (s0 : Int32) (s1 : Option (Nat × Nat)) (h : am_H) : Sim m_X11_sees d 21 [some (.inr (.inr (some a0))), some (.inl x1), some (.inl x2)] [.inl s0, .inr (.inr s1)] h (f_X11_sees_21  a0 x1 x2 s0 s1 h) := by
  unfold f_X11_sees_21
  refine sim_ao1 (fun a8 e => ?_)
  refine sim_virt (d - 1) e dX11_sees_21 (k_X11_holds (d - 1) (by omega) _ _ _) q_X11_holds rfl rfl wm_RX11_142 rfl rfl (by omega) (Nat.le_of_ble_eq_true rfl) am_nI (am_rI fun h6 v7 => ?_) am_eI
  refine sim_if_eq 40 dX11_sees_24 (by decide) (fun c => ?_) (fun c => ?_)
  · exact sim_lv (am_leN (am_leN (am_leN am_leT))) (t_X11_sees_40 d (by omega) _)
  · refine sim_aload_n dX11_sees_27 rfl ?_
    refine sim_iload_n dX11_sees_28 rfl ?_
    refine sim_iload_n dX11_sees_29 rfl ?_
    refine sim_ao2 (fun a11 e => ?_)
    refine sim_virt (d - 1) e dX11_sees_30 (k_X11_isSeen (d - 1) (by omega) _ _ _ _) q_X11_isSeen rfl rfl wm_RX11_169 rfl rfl (by omega) (Nat.le_of_ble_eq_true rfl) am_nI (am_rI fun h9 v10 => ?_) am_eI
    refine sim_if_eq 40 dX11_sees_33 (by decide) (fun c => ?_) (fun c => ?_)
    · exact sim_lv (am_leN (am_leN (am_leN am_leT))) (t_X11_sees_40 d (by omega) _)
    · refine sim_iconst (1) dX11_sees_36 (by decide +kernel) ?_
      refine sim_goto 41 dX11_sees_37 (by decide) ?_
      exact sim_lv (am_leN (am_leN (am_leN am_leT))) (t_X11_sees_41 d (by omega) _ _)
def f_X11_sees_20  (a0 : Nat × Nat) (x1 : Int32) (x2 : Int32) (s0 : Option (Nat × Nat)) (h : am_H) : am_R := f_X11_sees_21 a0 x1 x2 (1 : Int32) s0 h
theorem t_X11_sees_20 (d : Nat) (hd : 3 ≤ d)  (a0 : Nat × Nat) (x1 : Int32) (x2 : Int32) (s0 : Option (Nat × Nat)) (h : am_H) : Sim m_X11_sees d 20 [some (.inr (.inr (some a0))), some (.inl x1), some (.inl x2)] [.inr (.inr s0)] h (f_X11_sees_20  a0 x1 x2 s0 h) := by
  unfold f_X11_sees_20
  refine sim_iconst (1) dX11_sees_20 (by decide +kernel) ?_
  exact sim_lv (am_leS (am_leS (am_leS am_leT))) (t_X11_sees_21 d (by omega) _ _ _ _ _ _)
def f_X11_sees (a0 : Nat × Nat) (x1 : Int32) (x2 : Int32) (h : am_H) : am_R := m_bI (f_X11_isFace x1 h) fun h1 v2 => if v2 = 0 then (f_X11_sees_20 a0 x1 x2 (some a0) h1) else (m_ao (some a0) 11 fun a5 => m_bI (f_X11_isWork a5 x2 h1) fun h3 v4 => if v4 = 0 then (f_X11_sees_20 a0 x1 x2 (some a0) h3) else (f_X11_sees_21 a0 x1 x2 (0 : Int32) (some a0) h3))
theorem k_X11_sees (d : Nat) (hd : 3 ≤ d) (a0 : Nat × Nat) (x1 : Int32) (x2 : Int32) (h : am_H) : am_Con m_X11_sees d [.inr (.inr (some a0)), .inl x1, .inl x2] h (f_X11_sees a0 x1 x2 h) := am_con (by decide +kernel) (Nat.le_of_ble_eq_true rfl) (by
  unfold f_X11_sees
  refine sim_aload_n dX11_sees_0 rfl ?_
  refine sim_iload_n dX11_sees_1 rfl ?_
  refine sim_static (d - 1) dX11_sees_2 (k_X11_isFace (d - 1) (by omega) _ _) q_X11_isFace wm_RX11_149 rfl rfl (by omega) (Nat.le_of_ble_eq_true rfl) am_nI (am_rI fun h1 v2 => ?_) am_eI
  refine sim_if_eq 20 dX11_sees_5 (by decide) (fun c => ?_) (fun c => ?_)
  · exact sim_lv (am_leS (am_leS (am_leS am_leT))) (t_X11_sees_20 d (by omega) _ _ _ _ _)
  · refine sim_aload_n dX11_sees_8 rfl ?_
    refine sim_iload_n dX11_sees_9 rfl ?_
    refine sim_ao1 (fun a5 e => ?_)
    refine sim_virt (d - 1) e dX11_sees_10 (k_X11_isWork (d - 1) (by omega) _ _ _) q_X11_isWork rfl rfl wm_RX11_152 rfl rfl (by omega) (Nat.le_of_ble_eq_true rfl) am_nI (am_rI fun h3 v4 => ?_) am_eI
    refine sim_if_eq 20 dX11_sees_13 (by decide) (fun c => ?_) (fun c => ?_)
    · exact sim_lv (am_leS (am_leS (am_leS am_leT))) (t_X11_sees_20 d (by omega) _ _ _ _ _)
    · refine sim_iconst (0) dX11_sees_16 (by decide +kernel) ?_
      refine sim_goto 21 dX11_sees_17 (by decide) ?_
      exact sim_lv (am_leS (am_leS (am_leS am_leT))) (t_X11_sees_21 d (by omega) _ _ _ _ _ _))
theorem q_X11_sees : am_Cal m_X11_sees 2 2 := ⟨am_mem 1318 (w := Cond.code yX11_sees cX11_sees 3 (some .boolean)) (by decide +kernel) rfl, am_mem 64 (w := Cond.initialized RX11) (by decide +kernel) rfl, fun z => absurd z (by decide), fun _ => am_mem 1316 (w := Cond.instanceMethod yX11_sees) (by decide +kernel) rfl, fun z => absurd z (by decide), fun _ => am_mem 1317 (w := Cond.selects RX11 yX11_sees yX11_sees) (by decide +kernel) rfl, by decide +kernel, by decide +kernel, Nat.le_of_ble_eq_true rfl⟩
