abbrev m_X11_init : am_M := (yX11_init, cX11_init, 2, none, [])
def f_X11_init_359  : Nat → Nat × Nat → Int32 → am_H → am_R
  | 0, _, _, _ => none
  | n + 1, a0, x1, h => if (144 : Int32) ≤ x1 then (m_rt h none) else (m_gR (some a0) 11 45 h fun o119 => m_sI o119 x1 (-1 : Int32) h fun h120 => (f_X11_init_359  n) a0 (x1 + 1) h120)
theorem t_X11_init_359 (d : Nat) (hd : 1 ≤ d)  : ∀ (n : Nat) (a0 : Nat × Nat) (x1 : Int32) (h : am_H), Sim m_X11_init d 359 [some (.inr (.inr (some a0))), some (.inl x1)] [] h (f_X11_init_359  n a0 x1 h) := by
  intro n
  induction n with
  | zero => intros; exact sim_none
  | succ n hrc359 =>
    intro a0 x1 h
    rw [f_X11_init_359]
    refine sim_iload_n dX11_init_359 rfl ?_
    refine sim_sipush (144) dX11_init_360 (by decide +kernel) ?_
    refine sim_ic_ge 379 dX11_init_363 (by decide) (fun c => ?_) (fun c => ?_)
    · exact sim_vret dX11_init_379 rfl
    · refine sim_aload_n dX11_init_366 rfl ?_
      refine sim_gR 11 45 dX11_init_367 rfl wf_RX11_119 (Nat.le_of_ble_eq_true rfl) rfl (fun o119 => ?_)
      refine sim_iload_n dX11_init_370 rfl ?_
      refine sim_iconst (-1) dX11_init_371 (by decide +kernel) ?_
      refine sim_sI dX11_init_372 (fun h120 => ?_)
      refine sim_iinc (1) dX11_init_373 rfl (by decide +kernel) (Nat.le_of_ble_eq_true rfl) ?_
      refine sim_goto 359 dX11_init_376 (by decide) ?_
      exact sim_lv (am_leS (am_leS am_leT)) (hrc359 _ _ _)
def f_X11_init_337  : Nat → Nat × Nat → Int32 → am_H → am_R
  | 0, _, _, _ => none
  | n + 1, a0, x1, h => if (240 : Int32) ≤ x1 then (f_X11_init_359 5000 a0 (0 : Int32) h) else (m_gR (some a0) 11 44 h fun o117 => m_sI o117 x1 (-1 : Int32) h fun h118 => (f_X11_init_337  n) a0 (x1 + 1) h118)
theorem t_X11_init_337 (d : Nat) (hd : 1 ≤ d)  : ∀ (n : Nat) (a0 : Nat × Nat) (x1 : Int32) (h : am_H), Sim m_X11_init d 337 [some (.inr (.inr (some a0))), some (.inl x1)] [] h (f_X11_init_337  n a0 x1 h) := by
  intro n
  induction n with
  | zero => intros; exact sim_none
  | succ n hrc337 =>
    intro a0 x1 h
    rw [f_X11_init_337]
    refine sim_iload_n dX11_init_337 rfl ?_
    refine sim_sipush (240) dX11_init_338 (by decide +kernel) ?_
    refine sim_ic_ge 357 dX11_init_341 (by decide) (fun c => ?_) (fun c => ?_)
    · refine sim_iconst (0) dX11_init_357 (by decide +kernel) ?_
      refine sim_istore_n dX11_init_358 (Nat.le_of_ble_eq_true rfl) ?_
      exact sim_lv (am_leS (am_leS am_leT)) (t_X11_init_359 d (by omega) _ _ _ _)
    · refine sim_aload_n dX11_init_344 rfl ?_
      refine sim_gR 11 44 dX11_init_345 rfl wf_RX11_116 (Nat.le_of_ble_eq_true rfl) rfl (fun o117 => ?_)
      refine sim_iload_n dX11_init_348 rfl ?_
      refine sim_iconst (-1) dX11_init_349 (by decide +kernel) ?_
      refine sim_sI dX11_init_350 (fun h118 => ?_)
      refine sim_iinc (1) dX11_init_351 rfl (by decide +kernel) (Nat.le_of_ble_eq_true rfl) ?_
      refine sim_goto 337 dX11_init_354 (by decide) ?_
      exact sim_lv (am_leS (am_leS am_leT)) (hrc337 _ _ _)
def f_X11_init_316  : Nat → Nat × Nat → Int32 → am_H → am_R
  | 0, _, _, _ => none
  | n + 1, a0, x1, h => if (32 : Int32) ≤ x1 then (f_X11_init_337 5000 a0 (0 : Int32) h) else (m_gR (some a0) 11 3 h fun o115 => m_sI o115 x1 x1 h fun h116 => (f_X11_init_316  n) a0 (x1 + 1) h116)
theorem t_X11_init_316 (d : Nat) (hd : 1 ≤ d)  : ∀ (n : Nat) (a0 : Nat × Nat) (x1 : Int32) (h : am_H), Sim m_X11_init d 316 [some (.inr (.inr (some a0))), some (.inl x1)] [] h (f_X11_init_316  n a0 x1 h) := by
  intro n
  induction n with
  | zero => intros; exact sim_none
  | succ n hrc316 =>
    intro a0 x1 h
    rw [f_X11_init_316]
    refine sim_iload_n dX11_init_316 rfl ?_
    refine sim_bipush (32) dX11_init_317 (by decide +kernel) ?_
    refine sim_ic_ge 335 dX11_init_319 (by decide) (fun c => ?_) (fun c => ?_)
    · refine sim_iconst (0) dX11_init_335 (by decide +kernel) ?_
      refine sim_istore_n dX11_init_336 (Nat.le_of_ble_eq_true rfl) ?_
      exact sim_lv (am_leS (am_leS am_leT)) (t_X11_init_337 d (by omega) _ _ _ _)
    · refine sim_aload_n dX11_init_322 rfl ?_
      refine sim_gR 11 3 dX11_init_323 rfl wf_RX11_13 (Nat.le_of_ble_eq_true rfl) rfl (fun o115 => ?_)
      refine sim_iload_n dX11_init_326 rfl ?_
      refine sim_iload_n dX11_init_327 rfl ?_
      refine sim_sI dX11_init_328 (fun h116 => ?_)
      refine sim_iinc (1) dX11_init_329 rfl (by decide +kernel) (Nat.le_of_ble_eq_true rfl) ?_
      refine sim_goto 316 dX11_init_332 (by decide) ?_
      exact sim_lv (am_leS (am_leS am_leT)) (hrc316 _ _ _)
def f_X11_init (a0 : Nat × Nat) (h : am_H) : am_R := m_new 31 144 h fun a1 h2 => m_pR (some a0) 11 2 (some a1) h2 fun h3 => m_new 32 32 h3 fun a4 h5 => m_pR (some a0) 11 3 (some a4) h5 fun h6 => m_new 33 20 h6 fun a7 h8 => m_pR (some a0) 11 5 (some a7) h8 fun h9 => m_new 34 20 h9 fun a10 h11 => m_pR (some a0) 11 6 (some a10) h11 fun h12 => m_new 35 20 h12 fun a13 h14 => m_pR (some a0) 11 7 (some a13) h14 fun h15 => m_new 36 160 h15 fun a16 h17 => m_pR (some a0) 11 8 (some a16) h17 fun h18 => m_new 37 20 h18 fun a19 h20 => m_pR (some a0) 11 9 (some a19) h20 fun h21 => m_new 38 20 h21 fun a22 h23 => m_pR (some a0) 11 10 (some a22) h23 fun h24 => m_new 39 20 h24 fun a25 h26 => m_pR (some a0) 11 11 (some a25) h26 fun h27 => m_new 40 20 h27 fun a28 h29 => m_pR (some a0) 11 12 (some a28) h29 fun h30 => m_new 41 20 h30 fun a31 h32 => m_pR (some a0) 11 13 (some a31) h32 fun h33 => m_new 42 20 h33 fun a34 h35 => m_pR (some a0) 11 14 (some a34) h35 fun h36 => m_new 43 20 h36 fun a37 h38 => m_pR (some a0) 11 15 (some a37) h38 fun h39 => m_new 44 20 h39 fun a40 h41 => m_pR (some a0) 11 16 (some a40) h41 fun h42 => m_new 45 6 h42 fun a43 h44 => m_pR (some a0) 11 18 (some a43) h44 fun h45 => m_new 46 6 h45 fun a46 h47 => m_pR (some a0) 11 19 (some a46) h47 fun h48 => m_new 47 30 h48 fun a49 h50 => m_pR (some a0) 11 21 (some a49) h50 fun h51 => m_new 48 30 h51 fun a52 h53 => m_pR (some a0) 11 22 (some a52) h53 fun h54 => m_new 49 30 h54 fun a55 h56 => m_pR (some a0) 11 23 (some a55) h56 fun h57 => m_new 50 60 h57 fun a58 h59 => m_pR (some a0) 11 25 (some a58) h59 fun h60 => m_new 51 64 h60 fun a61 h62 => m_pR (some a0) 11 26 (some a61) h62 fun h63 => m_new 52 64 h63 fun a64 h65 => m_pR (some a0) 11 27 (some a64) h65 fun h66 => m_new 53 64 h66 fun a67 h68 => m_pR (some a0) 11 28 (some a67) h68 fun h69 => m_new 54 8 h69 fun a70 h71 => m_pR (some a0) 11 31 (some a70) h71 fun h72 => m_new 55 8 h72 fun a73 h74 => m_pR (some a0) 11 32 (some a73) h74 fun h75 => m_new 56 8 h75 fun a76 h77 => m_pR (some a0) 11 33 (some a76) h77 fun h78 => m_new 57 8 h78 fun a79 h80 => m_pR (some a0) 11 34 (some a79) h80 fun h81 => m_new 58 64 h81 fun a82 h83 => m_pR (some a0) 11 35 (some a82) h83 fun h84 => m_new 59 256 h84 fun a85 h86 => m_pR (some a0) 11 36 (some a85) h86 fun h87 => m_new 60 60 h87 fun a88 h89 => m_pR (some a0) 11 38 (some a88) h89 fun h90 => m_new 61 60 h90 fun a91 h92 => m_pR (some a0) 11 39 (some a91) h92 fun h93 => m_new 62 60 h93 fun a94 h95 => m_pR (some a0) 11 40 (some a94) h95 fun h96 => m_new 63 60 h96 fun a97 h98 => m_pR (some a0) 11 41 (some a97) h98 fun h99 => m_new 64 60 h99 fun a100 h101 => m_pR (some a0) 11 42 (some a100) h101 fun h102 => m_new 65 60 h102 fun a103 h104 => m_pR (some a0) 11 43 (some a103) h104 fun h105 => m_new 66 240 h105 fun a106 h107 => m_pR (some a0) 11 44 (some a106) h107 fun h108 => m_new 67 144 h108 fun a109 h110 => m_pR (some a0) 11 45 (some a109) h110 fun h111 => m_new 68 1920 h111 fun a112 h113 => m_pR (some a0) 11 46 (some a112) h113 fun h114 => f_X11_init_316 5000 a0 (0 : Int32) h114
theorem k_X11_init (d : Nat) (hd : 1 ≤ d) (a0 : Nat × Nat) (h : am_H) : am_Con m_X11_init d [.inr (.inr (some a0))] h (f_X11_init a0 h) := am_con (by decide +kernel) (Nat.le_of_ble_eq_true rfl) (by
  unfold f_X11_init
  refine sim_aload_n dX11_init_0 rfl ?_
  refine sim_obj dX11_init_1 wm_RX11_1 wobj_i wobj_c (by omega) (Nat.le_of_ble_eq_true rfl) ?_
  refine sim_aload_n dX11_init_4 rfl ?_
  refine sim_sipush (144) dX11_init_5 (by decide +kernel) ?_
  refine sim_nwI 31 1 144 dX11_init_8 rfl rfl rfl (by decide +kernel) (Nat.le_of_ble_eq_true rfl) (fun _ => rfl) rfl (Nat.le_of_ble_eq_true rfl) wa_boolean (fun a1 h2 => ?_)
  refine sim_pR 11 2 dX11_init_10 rfl wf_RX11_7 (Nat.le_of_ble_eq_true rfl) rfl (Or.inr ⟨rfl, rfl, rfl⟩) (fun h3 => ?_)
  refine sim_aload_n dX11_init_13 rfl ?_
  refine sim_bipush (32) dX11_init_14 (by decide +kernel) ?_
  refine sim_nwI 32 0 32 dX11_init_16 rfl rfl rfl (by decide +kernel) (Nat.le_of_ble_eq_true rfl) (fun _ => rfl) rfl (Nat.le_of_ble_eq_true rfl) wa_int (fun a4 h5 => ?_)
  refine sim_pR 11 3 dX11_init_18 rfl wf_RX11_13 (Nat.le_of_ble_eq_true rfl) rfl (Or.inr ⟨rfl, rfl, rfl⟩) (fun h6 => ?_)
  refine sim_aload_n dX11_init_21 rfl ?_
  refine sim_bipush (20) dX11_init_22 (by decide +kernel) ?_
  refine sim_nwI 33 0 20 dX11_init_24 rfl rfl rfl (by decide +kernel) (Nat.le_of_ble_eq_true rfl) (fun _ => rfl) rfl (Nat.le_of_ble_eq_true rfl) wa_int (fun a7 h8 => ?_)
  refine sim_pR 11 5 dX11_init_26 rfl wf_RX11_17 (Nat.le_of_ble_eq_true rfl) rfl (Or.inr ⟨rfl, rfl, rfl⟩) (fun h9 => ?_)
  refine sim_aload_n dX11_init_29 rfl ?_
  refine sim_bipush (20) dX11_init_30 (by decide +kernel) ?_
  refine sim_nwI 34 0 20 dX11_init_32 rfl rfl rfl (by decide +kernel) (Nat.le_of_ble_eq_true rfl) (fun _ => rfl) rfl (Nat.le_of_ble_eq_true rfl) wa_int (fun a10 h11 => ?_)
  refine sim_pR 11 6 dX11_init_34 rfl wf_RX11_20 (Nat.le_of_ble_eq_true rfl) rfl (Or.inr ⟨rfl, rfl, rfl⟩) (fun h12 => ?_)
  refine sim_aload_n dX11_init_37 rfl ?_
  refine sim_bipush (20) dX11_init_38 (by decide +kernel) ?_
  refine sim_nwI 35 0 20 dX11_init_40 rfl rfl rfl (by decide +kernel) (Nat.le_of_ble_eq_true rfl) (fun _ => rfl) rfl (Nat.le_of_ble_eq_true rfl) wa_int (fun a13 h14 => ?_)
  refine sim_pR 11 7 dX11_init_42 rfl wf_RX11_23 (Nat.le_of_ble_eq_true rfl) rfl (Or.inr ⟨rfl, rfl, rfl⟩) (fun h15 => ?_)
  refine sim_aload_n dX11_init_45 rfl ?_
  refine sim_sipush (160) dX11_init_46 (by decide +kernel) ?_
  refine sim_nwI 36 0 160 dX11_init_49 rfl rfl rfl (by decide +kernel) (Nat.le_of_ble_eq_true rfl) (fun _ => rfl) rfl (Nat.le_of_ble_eq_true rfl) wa_int (fun a16 h17 => ?_)
  refine sim_pR 11 8 dX11_init_51 rfl wf_RX11_26 (Nat.le_of_ble_eq_true rfl) rfl (Or.inr ⟨rfl, rfl, rfl⟩) (fun h18 => ?_)
  refine sim_aload_n dX11_init_54 rfl ?_
  refine sim_bipush (20) dX11_init_55 (by decide +kernel) ?_
  refine sim_nwI 37 0 20 dX11_init_57 rfl rfl rfl (by decide +kernel) (Nat.le_of_ble_eq_true rfl) (fun _ => rfl) rfl (Nat.le_of_ble_eq_true rfl) wa_int (fun a19 h20 => ?_)
  refine sim_pR 11 9 dX11_init_59 rfl wf_RX11_29 (Nat.le_of_ble_eq_true rfl) rfl (Or.inr ⟨rfl, rfl, rfl⟩) (fun h21 => ?_)
  refine sim_aload_n dX11_init_62 rfl ?_
  refine sim_bipush (20) dX11_init_63 (by decide +kernel) ?_
  refine sim_nwI 38 1 20 dX11_init_65 rfl rfl rfl (by decide +kernel) (Nat.le_of_ble_eq_true rfl) (fun _ => rfl) rfl (Nat.le_of_ble_eq_true rfl) wa_boolean (fun a22 h23 => ?_)
  refine sim_pR 11 10 dX11_init_67 rfl wf_RX11_32 (Nat.le_of_ble_eq_true rfl) rfl (Or.inr ⟨rfl, rfl, rfl⟩) (fun h24 => ?_)
  refine sim_aload_n dX11_init_70 rfl ?_
  refine sim_bipush (20) dX11_init_71 (by decide +kernel) ?_
  refine sim_nwI 39 0 20 dX11_init_73 rfl rfl rfl (by decide +kernel) (Nat.le_of_ble_eq_true rfl) (fun _ => rfl) rfl (Nat.le_of_ble_eq_true rfl) wa_int (fun a25 h26 => ?_)
  refine sim_pR 11 11 dX11_init_75 rfl wf_RX11_35 (Nat.le_of_ble_eq_true rfl) rfl (Or.inr ⟨rfl, rfl, rfl⟩) (fun h27 => ?_)
  refine sim_aload_n dX11_init_78 rfl ?_
  refine sim_bipush (20) dX11_init_79 (by decide +kernel) ?_
  refine sim_nwI 40 0 20 dX11_init_81 rfl rfl rfl (by decide +kernel) (Nat.le_of_ble_eq_true rfl) (fun _ => rfl) rfl (Nat.le_of_ble_eq_true rfl) wa_int (fun a28 h29 => ?_)
  refine sim_pR 11 12 dX11_init_83 rfl wf_RX11_38 (Nat.le_of_ble_eq_true rfl) rfl (Or.inr ⟨rfl, rfl, rfl⟩) (fun h30 => ?_)
  refine sim_aload_n dX11_init_86 rfl ?_
  refine sim_bipush (20) dX11_init_87 (by decide +kernel) ?_
  refine sim_nwI 41 0 20 dX11_init_89 rfl rfl rfl (by decide +kernel) (Nat.le_of_ble_eq_true rfl) (fun _ => rfl) rfl (Nat.le_of_ble_eq_true rfl) wa_int (fun a31 h32 => ?_)
  refine sim_pR 11 13 dX11_init_91 rfl wf_RX11_41 (Nat.le_of_ble_eq_true rfl) rfl (Or.inr ⟨rfl, rfl, rfl⟩) (fun h33 => ?_)
  refine sim_aload_n dX11_init_94 rfl ?_
  refine sim_bipush (20) dX11_init_95 (by decide +kernel) ?_
  refine sim_nwI 42 1 20 dX11_init_97 rfl rfl rfl (by decide +kernel) (Nat.le_of_ble_eq_true rfl) (fun _ => rfl) rfl (Nat.le_of_ble_eq_true rfl) wa_boolean (fun a34 h35 => ?_)
  refine sim_pR 11 14 dX11_init_99 rfl wf_RX11_44 (Nat.le_of_ble_eq_true rfl) rfl (Or.inr ⟨rfl, rfl, rfl⟩) (fun h36 => ?_)
  refine sim_aload_n dX11_init_102 rfl ?_
  refine sim_bipush (20) dX11_init_103 (by decide +kernel) ?_
  refine sim_nwI 43 1 20 dX11_init_105 rfl rfl rfl (by decide +kernel) (Nat.le_of_ble_eq_true rfl) (fun _ => rfl) rfl (Nat.le_of_ble_eq_true rfl) wa_boolean (fun a37 h38 => ?_)
  refine sim_pR 11 15 dX11_init_107 rfl wf_RX11_47 (Nat.le_of_ble_eq_true rfl) rfl (Or.inr ⟨rfl, rfl, rfl⟩) (fun h39 => ?_)
  refine sim_aload_n dX11_init_110 rfl ?_
  refine sim_bipush (20) dX11_init_111 (by decide +kernel) ?_
  refine sim_nwI 44 0 20 dX11_init_113 rfl rfl rfl (by decide +kernel) (Nat.le_of_ble_eq_true rfl) (fun _ => rfl) rfl (Nat.le_of_ble_eq_true rfl) wa_int (fun a40 h41 => ?_)
  refine sim_pR 11 16 dX11_init_115 rfl wf_RX11_50 (Nat.le_of_ble_eq_true rfl) rfl (Or.inr ⟨rfl, rfl, rfl⟩) (fun h42 => ?_)
  refine sim_aload_n dX11_init_118 rfl ?_
  refine sim_bipush (6) dX11_init_119 (by decide +kernel) ?_
  refine sim_nwI 45 0 6 dX11_init_121 rfl rfl rfl (by decide +kernel) (Nat.le_of_ble_eq_true rfl) (fun _ => rfl) rfl (Nat.le_of_ble_eq_true rfl) wa_int (fun a43 h44 => ?_)
  refine sim_pR 11 18 dX11_init_123 rfl wf_RX11_53 (Nat.le_of_ble_eq_true rfl) rfl (Or.inr ⟨rfl, rfl, rfl⟩) (fun h45 => ?_)
  refine sim_aload_n dX11_init_126 rfl ?_
  refine sim_bipush (6) dX11_init_127 (by decide +kernel) ?_
  refine sim_nwI 46 0 6 dX11_init_129 rfl rfl rfl (by decide +kernel) (Nat.le_of_ble_eq_true rfl) (fun _ => rfl) rfl (Nat.le_of_ble_eq_true rfl) wa_int (fun a46 h47 => ?_)
  refine sim_pR 11 19 dX11_init_131 rfl wf_RX11_56 (Nat.le_of_ble_eq_true rfl) rfl (Or.inr ⟨rfl, rfl, rfl⟩) (fun h48 => ?_)
  refine sim_aload_n dX11_init_134 rfl ?_
  refine sim_bipush (30) dX11_init_135 (by decide +kernel) ?_
  refine sim_nwI 47 0 30 dX11_init_137 rfl rfl rfl (by decide +kernel) (Nat.le_of_ble_eq_true rfl) (fun _ => rfl) rfl (Nat.le_of_ble_eq_true rfl) wa_int (fun a49 h50 => ?_)
  refine sim_pR 11 21 dX11_init_139 rfl wf_RX11_59 (Nat.le_of_ble_eq_true rfl) rfl (Or.inr ⟨rfl, rfl, rfl⟩) (fun h51 => ?_)
  refine sim_aload_n dX11_init_142 rfl ?_
  refine sim_bipush (30) dX11_init_143 (by decide +kernel) ?_
  refine sim_nwI 48 0 30 dX11_init_145 rfl rfl rfl (by decide +kernel) (Nat.le_of_ble_eq_true rfl) (fun _ => rfl) rfl (Nat.le_of_ble_eq_true rfl) wa_int (fun a52 h53 => ?_)
  refine sim_pR 11 22 dX11_init_147 rfl wf_RX11_62 (Nat.le_of_ble_eq_true rfl) rfl (Or.inr ⟨rfl, rfl, rfl⟩) (fun h54 => ?_)
  refine sim_aload_n dX11_init_150 rfl ?_
  refine sim_bipush (30) dX11_init_151 (by decide +kernel) ?_
  refine sim_nwI 49 0 30 dX11_init_153 rfl rfl rfl (by decide +kernel) (Nat.le_of_ble_eq_true rfl) (fun _ => rfl) rfl (Nat.le_of_ble_eq_true rfl) wa_int (fun a55 h56 => ?_)
  refine sim_pR 11 23 dX11_init_155 rfl wf_RX11_65 (Nat.le_of_ble_eq_true rfl) rfl (Or.inr ⟨rfl, rfl, rfl⟩) (fun h57 => ?_)
  refine sim_aload_n dX11_init_158 rfl ?_
  refine sim_bipush (60) dX11_init_159 (by decide +kernel) ?_
  refine sim_nwI 50 0 60 dX11_init_161 rfl rfl rfl (by decide +kernel) (Nat.le_of_ble_eq_true rfl) (fun _ => rfl) rfl (Nat.le_of_ble_eq_true rfl) wa_int (fun a58 h59 => ?_)
  refine sim_pR 11 25 dX11_init_163 rfl wf_RX11_68 (Nat.le_of_ble_eq_true rfl) rfl (Or.inr ⟨rfl, rfl, rfl⟩) (fun h60 => ?_)
  refine sim_aload_n dX11_init_166 rfl ?_
  refine sim_bipush (64) dX11_init_167 (by decide +kernel) ?_
  refine sim_nwI 51 1 64 dX11_init_169 rfl rfl rfl (by decide +kernel) (Nat.le_of_ble_eq_true rfl) (fun _ => rfl) rfl (Nat.le_of_ble_eq_true rfl) wa_boolean (fun a61 h62 => ?_)
  refine sim_pR 11 26 dX11_init_171 rfl wf_RX11_71 (Nat.le_of_ble_eq_true rfl) rfl (Or.inr ⟨rfl, rfl, rfl⟩) (fun h63 => ?_)
  refine sim_aload_n dX11_init_174 rfl ?_
  refine sim_bipush (64) dX11_init_175 (by decide +kernel) ?_
  refine sim_nwI 52 1 64 dX11_init_177 rfl rfl rfl (by decide +kernel) (Nat.le_of_ble_eq_true rfl) (fun _ => rfl) rfl (Nat.le_of_ble_eq_true rfl) wa_boolean (fun a64 h65 => ?_)
  refine sim_pR 11 27 dX11_init_179 rfl wf_RX11_74 (Nat.le_of_ble_eq_true rfl) rfl (Or.inr ⟨rfl, rfl, rfl⟩) (fun h66 => ?_)
  refine sim_aload_n dX11_init_182 rfl ?_
  refine sim_bipush (64) dX11_init_183 (by decide +kernel) ?_
  refine sim_nwI 53 1 64 dX11_init_185 rfl rfl rfl (by decide +kernel) (Nat.le_of_ble_eq_true rfl) (fun _ => rfl) rfl (Nat.le_of_ble_eq_true rfl) wa_boolean (fun a67 h68 => ?_)
  refine sim_pR 11 28 dX11_init_187 rfl wf_RX11_77 (Nat.le_of_ble_eq_true rfl) rfl (Or.inr ⟨rfl, rfl, rfl⟩) (fun h69 => ?_)
  refine sim_aload_n dX11_init_190 rfl ?_
  refine sim_bipush (8) dX11_init_191 (by decide +kernel) ?_
  refine sim_nwI 54 0 8 dX11_init_193 rfl rfl rfl (by decide +kernel) (Nat.le_of_ble_eq_true rfl) (fun _ => rfl) rfl (Nat.le_of_ble_eq_true rfl) wa_int (fun a70 h71 => ?_)
  refine sim_pR 11 31 dX11_init_195 rfl wf_RX11_80 (Nat.le_of_ble_eq_true rfl) rfl (Or.inr ⟨rfl, rfl, rfl⟩) (fun h72 => ?_)
  refine sim_aload_n dX11_init_198 rfl ?_
  refine sim_bipush (8) dX11_init_199 (by decide +kernel) ?_
  refine sim_nwI 55 0 8 dX11_init_201 rfl rfl rfl (by decide +kernel) (Nat.le_of_ble_eq_true rfl) (fun _ => rfl) rfl (Nat.le_of_ble_eq_true rfl) wa_int (fun a73 h74 => ?_)
  refine sim_pR 11 32 dX11_init_203 rfl wf_RX11_83 (Nat.le_of_ble_eq_true rfl) rfl (Or.inr ⟨rfl, rfl, rfl⟩) (fun h75 => ?_)
  refine sim_aload_n dX11_init_206 rfl ?_
  refine sim_bipush (8) dX11_init_207 (by decide +kernel) ?_
  refine sim_nwI 56 0 8 dX11_init_209 rfl rfl rfl (by decide +kernel) (Nat.le_of_ble_eq_true rfl) (fun _ => rfl) rfl (Nat.le_of_ble_eq_true rfl) wa_int (fun a76 h77 => ?_)
  refine sim_pR 11 33 dX11_init_211 rfl wf_RX11_86 (Nat.le_of_ble_eq_true rfl) rfl (Or.inr ⟨rfl, rfl, rfl⟩) (fun h78 => ?_)
  refine sim_aload_n dX11_init_214 rfl ?_
  refine sim_bipush (8) dX11_init_215 (by decide +kernel) ?_
  refine sim_nwI 57 0 8 dX11_init_217 rfl rfl rfl (by decide +kernel) (Nat.le_of_ble_eq_true rfl) (fun _ => rfl) rfl (Nat.le_of_ble_eq_true rfl) wa_int (fun a79 h80 => ?_)
  refine sim_pR 11 34 dX11_init_219 rfl wf_RX11_89 (Nat.le_of_ble_eq_true rfl) rfl (Or.inr ⟨rfl, rfl, rfl⟩) (fun h81 => ?_)
  refine sim_aload_n dX11_init_222 rfl ?_
  refine sim_bipush (64) dX11_init_223 (by decide +kernel) ?_
  refine sim_nwI 58 1 64 dX11_init_225 rfl rfl rfl (by decide +kernel) (Nat.le_of_ble_eq_true rfl) (fun _ => rfl) rfl (Nat.le_of_ble_eq_true rfl) wa_boolean (fun a82 h83 => ?_)
  refine sim_pR 11 35 dX11_init_227 rfl wf_RX11_92 (Nat.le_of_ble_eq_true rfl) rfl (Or.inr ⟨rfl, rfl, rfl⟩) (fun h84 => ?_)
  refine sim_aload_n dX11_init_230 rfl ?_
  refine sim_sipush (256) dX11_init_231 (by decide +kernel) ?_
  refine sim_nwI 59 0 256 dX11_init_234 rfl rfl rfl (by decide +kernel) (Nat.le_of_ble_eq_true rfl) (fun _ => rfl) rfl (Nat.le_of_ble_eq_true rfl) wa_int (fun a85 h86 => ?_)
  refine sim_pR 11 36 dX11_init_236 rfl wf_RX11_95 (Nat.le_of_ble_eq_true rfl) rfl (Or.inr ⟨rfl, rfl, rfl⟩) (fun h87 => ?_)
  refine sim_aload_n dX11_init_239 rfl ?_
  refine sim_bipush (60) dX11_init_240 (by decide +kernel) ?_
  refine sim_nwI 60 0 60 dX11_init_242 rfl rfl rfl (by decide +kernel) (Nat.le_of_ble_eq_true rfl) (fun _ => rfl) rfl (Nat.le_of_ble_eq_true rfl) wa_int (fun a88 h89 => ?_)
  refine sim_pR 11 38 dX11_init_244 rfl wf_RX11_98 (Nat.le_of_ble_eq_true rfl) rfl (Or.inr ⟨rfl, rfl, rfl⟩) (fun h90 => ?_)
  refine sim_aload_n dX11_init_247 rfl ?_
  refine sim_bipush (60) dX11_init_248 (by decide +kernel) ?_
  refine sim_nwI 61 0 60 dX11_init_250 rfl rfl rfl (by decide +kernel) (Nat.le_of_ble_eq_true rfl) (fun _ => rfl) rfl (Nat.le_of_ble_eq_true rfl) wa_int (fun a91 h92 => ?_)
  refine sim_pR 11 39 dX11_init_252 rfl wf_RX11_101 (Nat.le_of_ble_eq_true rfl) rfl (Or.inr ⟨rfl, rfl, rfl⟩) (fun h93 => ?_)
  refine sim_aload_n dX11_init_255 rfl ?_
  refine sim_bipush (60) dX11_init_256 (by decide +kernel) ?_
  refine sim_nwI 62 0 60 dX11_init_258 rfl rfl rfl (by decide +kernel) (Nat.le_of_ble_eq_true rfl) (fun _ => rfl) rfl (Nat.le_of_ble_eq_true rfl) wa_int (fun a94 h95 => ?_)
  refine sim_pR 11 40 dX11_init_260 rfl wf_RX11_104 (Nat.le_of_ble_eq_true rfl) rfl (Or.inr ⟨rfl, rfl, rfl⟩) (fun h96 => ?_)
  refine sim_aload_n dX11_init_263 rfl ?_
  refine sim_bipush (60) dX11_init_264 (by decide +kernel) ?_
  refine sim_nwI 63 1 60 dX11_init_266 rfl rfl rfl (by decide +kernel) (Nat.le_of_ble_eq_true rfl) (fun _ => rfl) rfl (Nat.le_of_ble_eq_true rfl) wa_boolean (fun a97 h98 => ?_)
  refine sim_pR 11 41 dX11_init_268 rfl wf_RX11_107 (Nat.le_of_ble_eq_true rfl) rfl (Or.inr ⟨rfl, rfl, rfl⟩) (fun h99 => ?_)
  refine sim_aload_n dX11_init_271 rfl ?_
  refine sim_bipush (60) dX11_init_272 (by decide +kernel) ?_
  refine sim_nwI 64 1 60 dX11_init_274 rfl rfl rfl (by decide +kernel) (Nat.le_of_ble_eq_true rfl) (fun _ => rfl) rfl (Nat.le_of_ble_eq_true rfl) wa_boolean (fun a100 h101 => ?_)
  refine sim_pR 11 42 dX11_init_276 rfl wf_RX11_110 (Nat.le_of_ble_eq_true rfl) rfl (Or.inr ⟨rfl, rfl, rfl⟩) (fun h102 => ?_)
  refine sim_aload_n dX11_init_279 rfl ?_
  refine sim_bipush (60) dX11_init_280 (by decide +kernel) ?_
  refine sim_nwI 65 1 60 dX11_init_282 rfl rfl rfl (by decide +kernel) (Nat.le_of_ble_eq_true rfl) (fun _ => rfl) rfl (Nat.le_of_ble_eq_true rfl) wa_boolean (fun a103 h104 => ?_)
  refine sim_pR 11 43 dX11_init_284 rfl wf_RX11_113 (Nat.le_of_ble_eq_true rfl) rfl (Or.inr ⟨rfl, rfl, rfl⟩) (fun h105 => ?_)
  refine sim_aload_n dX11_init_287 rfl ?_
  refine sim_sipush (240) dX11_init_288 (by decide +kernel) ?_
  refine sim_nwI 66 0 240 dX11_init_291 rfl rfl rfl (by decide +kernel) (Nat.le_of_ble_eq_true rfl) (fun _ => rfl) rfl (Nat.le_of_ble_eq_true rfl) wa_int (fun a106 h107 => ?_)
  refine sim_pR 11 44 dX11_init_293 rfl wf_RX11_116 (Nat.le_of_ble_eq_true rfl) rfl (Or.inr ⟨rfl, rfl, rfl⟩) (fun h108 => ?_)
  refine sim_aload_n dX11_init_296 rfl ?_
  refine sim_sipush (144) dX11_init_297 (by decide +kernel) ?_
  refine sim_nwI 67 0 144 dX11_init_300 rfl rfl rfl (by decide +kernel) (Nat.le_of_ble_eq_true rfl) (fun _ => rfl) rfl (Nat.le_of_ble_eq_true rfl) wa_int (fun a109 h110 => ?_)
  refine sim_pR 11 45 dX11_init_302 rfl wf_RX11_119 (Nat.le_of_ble_eq_true rfl) rfl (Or.inr ⟨rfl, rfl, rfl⟩) (fun h111 => ?_)
  refine sim_aload_n dX11_init_305 rfl ?_
  refine sim_sipush (1920) dX11_init_306 (by decide +kernel) ?_
  refine sim_nwI 68 1 1920 dX11_init_309 rfl rfl rfl (by decide +kernel) (Nat.le_of_ble_eq_true rfl) (fun _ => rfl) rfl (Nat.le_of_ble_eq_true rfl) wa_boolean (fun a112 h113 => ?_)
  refine sim_pR 11 46 dX11_init_311 rfl wf_RX11_122 (Nat.le_of_ble_eq_true rfl) rfl (Or.inr ⟨rfl, rfl, rfl⟩) (fun h114 => ?_)
  refine sim_iconst (0) dX11_init_314 (by decide +kernel) ?_
  refine sim_istore_n dX11_init_315 (Nat.le_of_ble_eq_true rfl) ?_
  exact sim_lv (am_leS (am_leS am_leT)) (t_X11_init_316 d (by omega) _ _ _ _))
theorem q_X11_init : am_Cal m_X11_init 0 1 := ⟨am_mem 1100 (w := Cond.code yX11_init cX11_init 2 none) (by decide +kernel) rfl, am_mem 64 (w := Cond.initialized RX11) (by decide +kernel) rfl, fun z => absurd z (by decide), fun _ => am_mem 1099 (w := Cond.instanceMethod yX11_init) (by decide +kernel) rfl, fun _ => rfl, fun z => absurd z (by decide), by decide +kernel, by decide +kernel, Nat.le_of_ble_eq_true rfl⟩
abbrev m_X11_bits : am_M := (yX11_bits, cX11_bits, 3, some .int, [])
def f_X11_bits_4  : Nat → Int32 → Int32 → Int32 → am_H → am_R
  | 0, _, _, _, _ => none
  | n + 1, x0, x1, x2, h => if (32 : Int32) ≤ x2 then (m_ri h x1) else ((f_X11_bits_4  n) x0 (x1 + ((x0 >>> (x2 &&& 31)) &&& (1 : Int32))) (x2 + 1) h)
theorem t_X11_bits_4 (d : Nat) (hd : 0 ≤ d)  : ∀ (n : Nat) (x0 : Int32) (x1 : Int32) (x2 : Int32) (h : am_H), Sim m_X11_bits d 4 [some (.inl x0), some (.inl x1), some (.inl x2)] [] h (f_X11_bits_4  n x0 x1 x2 h) := by
  intro n
  induction n with
  | zero => intros; exact sim_none
  | succ n hrc4 =>
    intro x0 x1 x2 h
    rw [f_X11_bits_4]
    refine sim_iload_n dX11_bits_4 rfl ?_
    refine sim_bipush (32) dX11_bits_5 (by decide +kernel) ?_
    refine sim_ic_ge 24 dX11_bits_7 (by decide) (fun c => ?_) (fun c => ?_)
    · refine sim_iload_n dX11_bits_24 rfl ?_
      exact sim_iret dX11_bits_25 rfl
    · refine sim_iload_n dX11_bits_10 rfl ?_
      refine sim_iload_n dX11_bits_11 rfl ?_
      refine sim_iload_n dX11_bits_12 rfl ?_
      refine sim_ishr dX11_bits_13 ?_
      refine sim_iconst (1) dX11_bits_14 (by decide +kernel) ?_
      refine sim_iand dX11_bits_15 ?_
      refine sim_iadd dX11_bits_16 ?_
      refine sim_istore_n dX11_bits_17 (Nat.le_of_ble_eq_true rfl) ?_
      refine sim_iinc (1) dX11_bits_18 rfl (by decide +kernel) (Nat.le_of_ble_eq_true rfl) ?_
      refine sim_goto 4 dX11_bits_21 (by decide) ?_
      exact sim_lv (am_leS (am_leS (am_leS am_leT))) (hrc4 _ _ _ _)
def f_X11_bits (x0 : Int32) (h : am_H) : am_R := f_X11_bits_4 5000 x0 (0 : Int32) (0 : Int32) h
theorem k_X11_bits (d : Nat) (hd : 0 ≤ d) (x0 : Int32) (h : am_H) : am_Con m_X11_bits d [.inl x0] h (f_X11_bits x0 h) := am_con (by decide +kernel) (Nat.le_of_ble_eq_true rfl) (by
  unfold f_X11_bits
  refine sim_iconst (0) dX11_bits_0 (by decide +kernel) ?_
  refine sim_istore_n dX11_bits_1 (Nat.le_of_ble_eq_true rfl) ?_
  refine sim_iconst (0) dX11_bits_2 (by decide +kernel) ?_
  refine sim_istore_n dX11_bits_3 (Nat.le_of_ble_eq_true rfl) ?_
  exact sim_lv (am_leS (am_leS (am_leS am_leT))) (t_X11_bits_4 d (by omega) _ _ _ _ _))
theorem q_X11_bits : am_Cal m_X11_bits 1 0 := ⟨am_mem 1290 (w := Cond.code yX11_bits cX11_bits 3 (some .int)) (by decide +kernel) rfl, am_mem 64 (w := Cond.initialized RX11) (by decide +kernel) rfl, fun _ => am_mem 1289 (w := Cond.static yX11_bits) (by decide +kernel) rfl, fun z => absurd rfl z, fun z => absurd z (by decide), fun z => absurd z (by decide), by decide +kernel, by decide +kernel, Nat.le_of_ble_eq_true rfl⟩
abbrev m_X11_join : am_M := (yX11_join, cX11_join, 5, some .int, [])
def f_X11_join_86  (a0 : Nat × Nat) (x1 : Int32) (x2 : Int32) (s0 : Int32) (s1 : Option (Nat × Nat)) (h : am_H) : am_R := m_ao s1 11 fun a18 => m_bI (f_X11_holds a18 s0 h) fun h16 v17 => if v17 = 0 then (m_ri h16 (0 : Int32)) else (m_gR (some a0) 11 6 h16 fun o19 => m_aI o19 0 x1 h16 fun v20 => m_sI o19 x1 (v20 ||| ((1 : Int32) <<< (x2 &&& 31))) h16 fun h21 => m_gR (some a0) 11 6 h21 fun o22 => m_aI o22 0 x1 h21 fun v23 => m_bI (f_X11_bits v23 h21) fun h24 v25 => m_ri h24 v25)
theorem t_X11_join_86 (d : Nat) (hd : 2 ≤ d)  (a0 : Nat × Nat) (x1 : Int32) (x2 : Int32) (s0 : Int32) (s1 : Option (Nat × Nat)) (h : am_H) : Sim m_X11_join d 86 [some (.inr (.inr (some a0))), some (.inl x1), some (.inl x2), none, none] [.inl s0, .inr (.inr s1)] h (f_X11_join_86  a0 x1 x2 s0 s1 h) := by
  unfold f_X11_join_86
  refine sim_ao1 (fun a18 e => ?_)
  refine sim_virt (d - 1) e dX11_join_86 (k_X11_holds (d - 1) (by omega) _ _ _) q_X11_holds rfl rfl wm_RX11_142 rfl rfl (by omega) (Nat.le_of_ble_eq_true rfl) am_nI (am_rI fun h16 v17 => ?_) am_eI
  refine sim_if_ne 94 dX11_join_89 (by decide) (fun c => ?_) (fun c => ?_)
  · refine sim_aload_n dX11_join_94 rfl ?_
    refine sim_gR 11 6 dX11_join_95 rfl wf_RX11_20 (Nat.le_of_ble_eq_true rfl) rfl (fun o19 => ?_)
    refine sim_iload_n dX11_join_98 rfl ?_
    refine sim_dup2 dX11_join_99 ?_
    refine sim_aI dX11_join_100 (fun v20 => ?_)
    refine sim_iconst (1) dX11_join_101 (by decide +kernel) ?_
    refine sim_iload_n dX11_join_102 rfl ?_
    refine sim_ishl dX11_join_103 ?_
    refine sim_ior dX11_join_104 ?_
    refine sim_sI dX11_join_105 (fun h21 => ?_)
    refine sim_aload_n dX11_join_106 rfl ?_
    refine sim_gR 11 6 dX11_join_107 rfl wf_RX11_20 (Nat.le_of_ble_eq_true rfl) rfl (fun o22 => ?_)
    refine sim_iload_n dX11_join_110 rfl ?_
    refine sim_aI dX11_join_111 (fun v23 => ?_)
    refine sim_static (d - 1) dX11_join_112 (k_X11_bits (d - 1) (by omega) _ _) q_X11_bits wm_RX11_159 rfl rfl (by omega) (Nat.le_of_ble_eq_true rfl) am_nI (am_rI fun h24 v25 => ?_) am_eI
    exact sim_iret dX11_join_115 rfl
  · refine sim_iconst (0) dX11_join_92 (by decide +kernel) ?_
    exact sim_iret dX11_join_93 rfl
def f_X11_join_65  (a0 : Nat × Nat) (x1 : Int32) (x2 : Int32) (x3 : Int32) (s0 : Int32) (h : am_H) : am_R := if x3 = 0 then (f_X11_join_86 a0 x1 x2 (1 : Int32) (some a0) h) else (if s0 = 0 then (f_X11_join_86 a0 x1 x2 (2 : Int32) (some a0) h) else (f_X11_join_86 a0 x1 x2 (0 : Int32) (some a0) h))
theorem t_X11_join_65 (d : Nat) (hd : 2 ≤ d)  (a0 : Nat × Nat) (x1 : Int32) (x2 : Int32) (x3 : Int32) (s0 : Int32) (h : am_H) : Sim m_X11_join d 65 [some (.inr (.inr (some a0))), some (.inl x1), some (.inl x2), some (.inl x3), none] [.inl s0] h (f_X11_join_65  a0 x1 x2 x3 s0 h) := by
  unfold f_X11_join_65
  refine sim_istore dX11_join_65 (Nat.le_of_ble_eq_true rfl) ?_
  refine sim_aload_n dX11_join_67 rfl ?_
  refine sim_iload_n dX11_join_68 rfl ?_
  refine sim_if_ne 76 dX11_join_69 (by decide) (fun c => ?_) (fun c => ?_)
  · refine sim_iload dX11_join_76 rfl ?_
    refine sim_if_eq 85 dX11_join_78 (by decide) (fun c => ?_) (fun c => ?_)
    · refine sim_iconst (2) dX11_join_85 (by decide +kernel) ?_
      exact sim_lv (am_leS (am_leS (am_leS (am_leN (am_leN am_leT))))) (t_X11_join_86 d (by omega) _ _ _ _ _ _)
    · refine sim_iconst (0) dX11_join_81 (by decide +kernel) ?_
      refine sim_goto 86 dX11_join_82 (by decide) ?_
      exact sim_lv (am_leS (am_leS (am_leS (am_leN (am_leN am_leT))))) (t_X11_join_86 d (by omega) _ _ _ _ _ _)
  · refine sim_iconst (1) dX11_join_72 (by decide +kernel) ?_
    refine sim_goto 86 dX11_join_73 (by decide) ?_
    exact sim_lv (am_leS (am_leS (am_leS (am_leN (am_leN am_leT))))) (t_X11_join_86 d (by omega) _ _ _ _ _ _)
def f_X11_join_64  (a0 : Nat × Nat) (x1 : Int32) (x2 : Int32) (x3 : Int32) (h : am_H) : am_R := f_X11_join_65 a0 x1 x2 x3 (0 : Int32) h
theorem t_X11_join_64 (d : Nat) (hd : 2 ≤ d)  (a0 : Nat × Nat) (x1 : Int32) (x2 : Int32) (x3 : Int32) (h : am_H) : Sim m_X11_join d 64 [some (.inr (.inr (some a0))), some (.inl x1), some (.inl x2), some (.inl x3), none] [] h (f_X11_join_64  a0 x1 x2 x3 h) := by
  unfold f_X11_join_64
  refine sim_iconst (0) dX11_join_64 (by decide +kernel) ?_
  exact sim_lv (am_leS (am_leS (am_leS (am_leS (am_leN am_leT))))) (t_X11_join_65 d (by omega) _ _ _ _ _ _)
def f_X11_join_20  (a0 : Nat × Nat) (x1 : Int32) (x2 : Int32) (s0 : Int32) (h : am_H) : am_R := if s0 = 0 then (f_X11_join_64 a0 x1 x2 s0 h) else (m_gR (some a0) 11 6 h fun o6 => m_aI o6 0 x1 h fun v7 => m_bI (f_X11_has v7 x2 h) fun h8 v9 => if v9 = 0 then (m_gR (some a0) 11 6 h8 fun o10 => m_aI o10 0 x1 h8 fun v11 => if v11 = 0 then (f_X11_join_64 a0 x1 x2 s0 h8) else (m_gR (some a0) 11 6 h8 fun o12 => m_aI o12 0 x1 h8 fun v13 => m_bI (f_X11_bits v13 h8) fun h14 v15 => if (3 : Int32) ≤ v15 then (f_X11_join_64 a0 x1 x2 s0 h14) else (f_X11_join_65 a0 x1 x2 s0 (1 : Int32) h14))) else (f_X11_join_64 a0 x1 x2 s0 h8))
theorem t_X11_join_20 (d : Nat) (hd : 2 ≤ d)  (a0 : Nat × Nat) (x1 : Int32) (x2 : Int32) (s0 : Int32) (h : am_H) : Sim m_X11_join d 20 [some (.inr (.inr (some a0))), some (.inl x1), some (.inl x2), none, none] [.inl s0] h (f_X11_join_20  a0 x1 x2 s0 h) := by
  unfold f_X11_join_20
  refine sim_istore_n dX11_join_20 (Nat.le_of_ble_eq_true rfl) ?_
  refine sim_iload_n dX11_join_21 rfl ?_
  refine sim_if_eq 64 dX11_join_22 (by decide) (fun c => ?_) (fun c => ?_)
  · exact sim_lv (am_leS (am_leS (am_leS (am_leS (am_leN am_leT))))) (t_X11_join_64 d (by omega) _ _ _ _ _)
  · refine sim_aload_n dX11_join_25 rfl ?_
    refine sim_gR 11 6 dX11_join_26 rfl wf_RX11_20 (Nat.le_of_ble_eq_true rfl) rfl (fun o6 => ?_)
    refine sim_iload_n dX11_join_29 rfl ?_
    refine sim_aI dX11_join_30 (fun v7 => ?_)
    refine sim_iload_n dX11_join_31 rfl ?_
    refine sim_static (d - 1) dX11_join_32 (k_X11_has (d - 1) (by omega) _ _ _) q_X11_has wm_RX11_155 rfl rfl (by omega) (Nat.le_of_ble_eq_true rfl) am_nI (am_rI fun h8 v9 => ?_) am_eI
    refine sim_if_ne 64 dX11_join_35 (by decide) (fun c => ?_) (fun c => ?_)
    · exact sim_lv (am_leS (am_leS (am_leS (am_leS (am_leN am_leT))))) (t_X11_join_64 d (by omega) _ _ _ _ _)
    · refine sim_aload_n dX11_join_38 rfl ?_
      refine sim_gR 11 6 dX11_join_39 rfl wf_RX11_20 (Nat.le_of_ble_eq_true rfl) rfl (fun o10 => ?_)
      refine sim_iload_n dX11_join_42 rfl ?_
      refine sim_aI dX11_join_43 (fun v11 => ?_)
      refine sim_if_eq 64 dX11_join_44 (by decide) (fun c => ?_) (fun c => ?_)
      · exact sim_lv (am_leS (am_leS (am_leS (am_leS (am_leN am_leT))))) (t_X11_join_64 d (by omega) _ _ _ _ _)
      · refine sim_aload_n dX11_join_47 rfl ?_
        refine sim_gR 11 6 dX11_join_48 rfl wf_RX11_20 (Nat.le_of_ble_eq_true rfl) rfl (fun o12 => ?_)
        refine sim_iload_n dX11_join_51 rfl ?_
        refine sim_aI dX11_join_52 (fun v13 => ?_)
        refine sim_static (d - 1) dX11_join_53 (k_X11_bits (d - 1) (by omega) _ _) q_X11_bits wm_RX11_159 rfl rfl (by omega) (Nat.le_of_ble_eq_true rfl) am_nI (am_rI fun h14 v15 => ?_) am_eI
        refine sim_iconst (3) dX11_join_56 (by decide +kernel) ?_
        refine sim_ic_ge 64 dX11_join_57 (by decide) (fun c => ?_) (fun c => ?_)
        · exact sim_lv (am_leS (am_leS (am_leS (am_leS (am_leN am_leT))))) (t_X11_join_64 d (by omega) _ _ _ _ _)
        · refine sim_iconst (1) dX11_join_60 (by decide +kernel) ?_
          refine sim_goto 65 dX11_join_61 (by decide) ?_
          exact sim_lv (am_leS (am_leS (am_leS (am_leS (am_leN am_leT))))) (t_X11_join_65 d (by omega) _ _ _ _ _ _)
def f_X11_join_19  (a0 : Nat × Nat) (x1 : Int32) (x2 : Int32) (h : am_H) : am_R := f_X11_join_20 a0 x1 x2 (0 : Int32) h
theorem t_X11_join_19 (d : Nat) (hd : 2 ≤ d)  (a0 : Nat × Nat) (x1 : Int32) (x2 : Int32) (h : am_H) : Sim m_X11_join d 19 [some (.inr (.inr (some a0))), some (.inl x1), some (.inl x2), none, none] [] h (f_X11_join_19  a0 x1 x2 h) := by
  unfold f_X11_join_19
  refine sim_iconst (0) dX11_join_19 (by decide +kernel) ?_
  exact sim_lv (am_leS (am_leS (am_leS (am_leN (am_leN am_leT))))) (t_X11_join_20 d (by omega) _ _ _ _ _)
def f_X11_join (a0 : Nat × Nat) (x1 : Int32) (x2 : Int32) (h : am_H) : am_R := m_ao (some a0) 11 fun a3 => m_bI (f_X11_isWork a3 x1 h) fun h1 v2 => if v2 = 0 then (f_X11_join_19 a0 x1 x2 h1) else (m_bI (f_X11_isPerson x2 h1) fun h4 v5 => if v5 = 0 then (f_X11_join_19 a0 x1 x2 h4) else (f_X11_join_20 a0 x1 x2 (1 : Int32) h4))
theorem k_X11_join (d : Nat) (hd : 2 ≤ d) (a0 : Nat × Nat) (x1 : Int32) (x2 : Int32) (h : am_H) : am_Con m_X11_join d [.inr (.inr (some a0)), .inl x1, .inl x2] h (f_X11_join a0 x1 x2 h) := am_con (by decide +kernel) (Nat.le_of_ble_eq_true rfl) (by
  unfold f_X11_join
  refine sim_aload_n dX11_join_0 rfl ?_
  refine sim_iload_n dX11_join_1 rfl ?_
  refine sim_ao1 (fun a3 e => ?_)
  refine sim_virt (d - 1) e dX11_join_2 (k_X11_isWork (d - 1) (by omega) _ _ _) q_X11_isWork rfl rfl wm_RX11_152 rfl rfl (by omega) (Nat.le_of_ble_eq_true rfl) am_nI (am_rI fun h1 v2 => ?_) am_eI
  refine sim_if_eq 19 dX11_join_5 (by decide) (fun c => ?_) (fun c => ?_)
  · exact sim_lv (am_leS (am_leS (am_leS (am_leN (am_leN am_leT))))) (t_X11_join_19 d (by omega) _ _ _ _)
  · refine sim_iload_n dX11_join_8 rfl ?_
    refine sim_static (d - 1) dX11_join_9 (k_X11_isPerson (d - 1) (by omega) _ _) q_X11_isPerson wm_RX11_146 rfl rfl (by omega) (Nat.le_of_ble_eq_true rfl) am_nI (am_rI fun h4 v5 => ?_) am_eI
    refine sim_if_eq 19 dX11_join_12 (by decide) (fun c => ?_) (fun c => ?_)
    · exact sim_lv (am_leS (am_leS (am_leS (am_leN (am_leN am_leT))))) (t_X11_join_19 d (by omega) _ _ _ _)
    · refine sim_iconst (1) dX11_join_15 (by decide +kernel) ?_
      refine sim_goto 20 dX11_join_16 (by decide) ?_
      exact sim_lv (am_leS (am_leS (am_leS (am_leN (am_leN am_leT))))) (t_X11_join_20 d (by omega) _ _ _ _ _))
theorem q_X11_join : am_Cal m_X11_join 2 2 := ⟨am_mem 1280 (w := Cond.code yX11_join cX11_join 5 (some .int)) (by decide +kernel) rfl, am_mem 64 (w := Cond.initialized RX11) (by decide +kernel) rfl, fun z => absurd z (by decide), fun _ => am_mem 1278 (w := Cond.instanceMethod yX11_join) (by decide +kernel) rfl, fun z => absurd z (by decide), fun _ => am_mem 1279 (w := Cond.selects RX11 yX11_join yX11_join) (by decide +kernel) rfl, by decide +kernel, by decide +kernel, Nat.le_of_ble_eq_true rfl⟩
abbrev m_X11_gave : am_M := (yX11_gave, cX11_gave, 4, some .int, [])
def f_X11_gave_36 (rc4 : Nat × Nat → Int32 → Int32 → Int32 → am_H → am_R) (a0 : Nat × Nat) (x1 : Int32) (x3 : Int32) (s0 : Int32) (s1 : Int32) (h : am_H) : am_R := rc4 a0 x1 (s1 ||| s0) (x3 + 1) h
theorem t_X11_gave_36 (d : Nat) (hd : 1 ≤ d) (rc4 : Nat × Nat → Int32 → Int32 → Int32 → am_H → am_R) (hrc4 : ∀ a0 x1 x2 x3 h, Sim m_X11_gave d 4 [some (.inr (.inr (some a0))), some (.inl x1), some (.inl x2), some (.inl x3)] [] h (rc4 a0 x1 x2 x3 h)) (a0 : Nat × Nat) (x1 : Int32) (x3 : Int32) (s0 : Int32) (s1 : Int32) (h : am_H) : Sim m_X11_gave d 36 [some (.inr (.inr (some a0))), some (.inl x1), none, some (.inl x3)] [.inl s0, .inl s1] h (f_X11_gave_36 rc4 a0 x1 x3 s0 s1 h) := by
  unfold f_X11_gave_36
  refine sim_ior dX11_gave_36 ?_
  refine sim_istore_n dX11_gave_37 (Nat.le_of_ble_eq_true rfl) ?_
  refine sim_iinc (1) dX11_gave_38 rfl (by decide +kernel) (Nat.le_of_ble_eq_true rfl) ?_
  refine sim_goto 4 dX11_gave_41 (by decide) ?_
  exact sim_lv (am_leS (am_leS (am_leS (am_leS am_leT)))) (hrc4 _ _ _ _ _)
def f_X11_gave_4  : Nat → Nat × Nat → Int32 → Int32 → Int32 → am_H → am_R
  | 0, _, _, _, _, _ => none
  | n + 1, a0, x1, x2, x3, h => if (32 : Int32) ≤ x3 then (m_ri h x2) else (m_gR (some a0) 11 16 h fun o1 => m_aI o1 0 x1 h fun v2 => m_bI (f_X11_has v2 x3 h) fun h3 v4 => if v4 = 0 then (f_X11_gave_36 (f_X11_gave_4  n) a0 x1 x3 (0 : Int32) x2 h3) else (m_gR (some a0) 11 3 h3 fun o5 => m_aI o5 0 x3 h3 fun v6 => f_X11_gave_36 (f_X11_gave_4  n) a0 x1 x3 ((1 : Int32) <<< (v6 &&& 31)) x2 h3))
theorem t_X11_gave_4 (d : Nat) (hd : 1 ≤ d)  : ∀ (n : Nat) (a0 : Nat × Nat) (x1 : Int32) (x2 : Int32) (x3 : Int32) (h : am_H), Sim m_X11_gave d 4 [some (.inr (.inr (some a0))), some (.inl x1), some (.inl x2), some (.inl x3)] [] h (f_X11_gave_4  n a0 x1 x2 x3 h) := by
  intro n
  induction n with
  | zero => intros; exact sim_none
  | succ n hrc4 =>
    intro a0 x1 x2 x3 h
    rw [f_X11_gave_4]
    refine sim_iload_n dX11_gave_4 rfl ?_
    refine sim_bipush (32) dX11_gave_5 (by decide +kernel) ?_
    refine sim_ic_ge 44 dX11_gave_7 (by decide) (fun c => ?_) (fun c => ?_)
    · refine sim_iload_n dX11_gave_44 rfl ?_
      exact sim_iret dX11_gave_45 rfl
    · refine sim_iload_n dX11_gave_10 rfl ?_
      refine sim_aload_n dX11_gave_11 rfl ?_
      refine sim_gR 11 16 dX11_gave_12 rfl wf_RX11_50 (Nat.le_of_ble_eq_true rfl) rfl (fun o1 => ?_)
      refine sim_iload_n dX11_gave_15 rfl ?_
      refine sim_aI dX11_gave_16 (fun v2 => ?_)
      refine sim_iload_n dX11_gave_17 rfl ?_
      refine sim_static (d - 1) dX11_gave_18 (k_X11_has (d - 1) (by omega) _ _ _) q_X11_has wm_RX11_155 rfl rfl (by omega) (Nat.le_of_ble_eq_true rfl) am_nI (am_rI fun h3 v4 => ?_) am_eI
      refine sim_if_eq 35 dX11_gave_21 (by decide) (fun c => ?_) (fun c => ?_)
      · refine sim_iconst (0) dX11_gave_35 (by decide +kernel) ?_
        exact sim_lv (am_leS (am_leS (am_leN (am_leS am_leT)))) (t_X11_gave_36 d (by omega) _ hrc4 _ _ _ _ _ _)
      · refine sim_iconst (1) dX11_gave_24 (by decide +kernel) ?_
        refine sim_aload_n dX11_gave_25 rfl ?_
        refine sim_gR 11 3 dX11_gave_26 rfl wf_RX11_13 (Nat.le_of_ble_eq_true rfl) rfl (fun o5 => ?_)
        refine sim_iload_n dX11_gave_29 rfl ?_
        refine sim_aI dX11_gave_30 (fun v6 => ?_)
        refine sim_ishl dX11_gave_31 ?_
        refine sim_goto 36 dX11_gave_32 (by decide) ?_
        exact sim_lv (am_leS (am_leS (am_leN (am_leS am_leT)))) (t_X11_gave_36 d (by omega) _ hrc4 _ _ _ _ _ _)
def f_X11_gave (a0 : Nat × Nat) (x1 : Int32) (h : am_H) : am_R := f_X11_gave_4 5000 a0 x1 (0 : Int32) (0 : Int32) h
theorem k_X11_gave (d : Nat) (hd : 1 ≤ d) (a0 : Nat × Nat) (x1 : Int32) (h : am_H) : am_Con m_X11_gave d [.inr (.inr (some a0)), .inl x1] h (f_X11_gave a0 x1 h) := am_con (by decide +kernel) (Nat.le_of_ble_eq_true rfl) (by
  unfold f_X11_gave
  refine sim_iconst (0) dX11_gave_0 (by decide +kernel) ?_
  refine sim_istore_n dX11_gave_1 (Nat.le_of_ble_eq_true rfl) ?_
  refine sim_iconst (0) dX11_gave_2 (by decide +kernel) ?_
  refine sim_istore_n dX11_gave_3 (Nat.le_of_ble_eq_true rfl) ?_
  exact sim_lv (am_leS (am_leS (am_leS (am_leS am_leT)))) (t_X11_gave_4 d (by omega) _ _ _ _ _ _))
theorem q_X11_gave : am_Cal m_X11_gave 1 2 := ⟨am_mem 1512 (w := Cond.code yX11_gave cX11_gave 4 (some .int)) (by decide +kernel) rfl, am_mem 64 (w := Cond.initialized RX11) (by decide +kernel) rfl, fun z => absurd z (by decide), fun _ => am_mem 1511 (w := Cond.instanceMethod yX11_gave) (by decide +kernel) rfl, fun z => absurd z (by decide), fun _ => am_mem 53 (w := Cond.selects RX11 yX11_gave yX11_gave) (by decide +kernel) rfl, by decide +kernel, by decide +kernel, Nat.le_of_ble_eq_true rfl⟩
abbrev m_X11_kudos : am_M := (yX11_kudos, cX11_kudos, 5, some .int, [])
def f_X11_kudos_86  (a0 : Nat × Nat) (x1 : Int32) (x2 : Int32) (s0 : Int32) (s1 : Option (Nat × Nat)) (h : am_H) : am_R := m_ao s1 11 fun a21 => m_bI (f_X11_holds a21 s0 h) fun h19 v20 => if v20 = 0 then (m_ri h19 (0 : Int32)) else (m_gR (some a0) 11 16 h19 fun o22 => m_aI o22 0 x1 h19 fun v23 => m_sI o22 x1 (v23 ||| ((1 : Int32) <<< (x2 &&& 31))) h19 fun h24 => m_ao (some a0) 11 fun a27 => m_bI (f_X11_gave a27 x1 h24) fun h25 v26 => m_bI (f_X11_bits v26 h25) fun h28 v29 => m_ri h28 v29)
theorem t_X11_kudos_86 (d : Nat) (hd : 3 ≤ d)  (a0 : Nat × Nat) (x1 : Int32) (x2 : Int32) (s0 : Int32) (s1 : Option (Nat × Nat)) (h : am_H) : Sim m_X11_kudos d 86 [some (.inr (.inr (some a0))), some (.inl x1), some (.inl x2), none, none] [.inl s0, .inr (.inr s1)] h (f_X11_kudos_86  a0 x1 x2 s0 s1 h) := by
  unfold f_X11_kudos_86
  refine sim_ao1 (fun a21 e => ?_)
  refine sim_virt (d - 1) e dX11_kudos_86 (k_X11_holds (d - 1) (by omega) _ _ _) q_X11_holds rfl rfl wm_RX11_142 rfl rfl (by omega) (Nat.le_of_ble_eq_true rfl) am_nI (am_rI fun h19 v20 => ?_) am_eI
  refine sim_if_ne 94 dX11_kudos_89 (by decide) (fun c => ?_) (fun c => ?_)
  · refine sim_aload_n dX11_kudos_94 rfl ?_
    refine sim_gR 11 16 dX11_kudos_95 rfl wf_RX11_50 (Nat.le_of_ble_eq_true rfl) rfl (fun o22 => ?_)
    refine sim_iload_n dX11_kudos_98 rfl ?_
    refine sim_dup2 dX11_kudos_99 ?_
    refine sim_aI dX11_kudos_100 (fun v23 => ?_)
    refine sim_iconst (1) dX11_kudos_101 (by decide +kernel) ?_
    refine sim_iload_n dX11_kudos_102 rfl ?_
    refine sim_ishl dX11_kudos_103 ?_
    refine sim_ior dX11_kudos_104 ?_
    refine sim_sI dX11_kudos_105 (fun h24 => ?_)
    refine sim_aload_n dX11_kudos_106 rfl ?_
    refine sim_iload_n dX11_kudos_107 rfl ?_
    refine sim_ao1 (fun a27 e => ?_)
    refine sim_virt (d - 1) e dX11_kudos_108 (k_X11_gave (d - 1) (by omega) _ _ _) q_X11_gave rfl rfl wm_RX11_260 rfl rfl (by omega) (Nat.le_of_ble_eq_true rfl) am_nI (am_rI fun h25 v26 => ?_) am_eI
    refine sim_static (d - 1) dX11_kudos_111 (k_X11_bits (d - 1) (by omega) _ _) q_X11_bits wm_RX11_159 rfl rfl (by omega) (Nat.le_of_ble_eq_true rfl) am_nI (am_rI fun h28 v29 => ?_) am_eI
    exact sim_iret dX11_kudos_114 rfl
  · refine sim_iconst (0) dX11_kudos_92 (by decide +kernel) ?_
    exact sim_iret dX11_kudos_93 rfl
def f_X11_kudos_65  (a0 : Nat × Nat) (x1 : Int32) (x2 : Int32) (x3 : Int32) (s0 : Int32) (h : am_H) : am_R := if x3 = 0 then (f_X11_kudos_86 a0 x1 x2 (1 : Int32) (some a0) h) else (if s0 = 0 then (f_X11_kudos_86 a0 x1 x2 (2 : Int32) (some a0) h) else (f_X11_kudos_86 a0 x1 x2 (0 : Int32) (some a0) h))
theorem t_X11_kudos_65 (d : Nat) (hd : 3 ≤ d)  (a0 : Nat × Nat) (x1 : Int32) (x2 : Int32) (x3 : Int32) (s0 : Int32) (h : am_H) : Sim m_X11_kudos d 65 [some (.inr (.inr (some a0))), some (.inl x1), some (.inl x2), some (.inl x3), none] [.inl s0] h (f_X11_kudos_65  a0 x1 x2 x3 s0 h) := by
  unfold f_X11_kudos_65
  refine sim_istore dX11_kudos_65 (Nat.le_of_ble_eq_true rfl) ?_
  refine sim_aload_n dX11_kudos_67 rfl ?_
  refine sim_iload_n dX11_kudos_68 rfl ?_
  refine sim_if_ne 76 dX11_kudos_69 (by decide) (fun c => ?_) (fun c => ?_)
  · refine sim_iload dX11_kudos_76 rfl ?_
    refine sim_if_eq 85 dX11_kudos_78 (by decide) (fun c => ?_) (fun c => ?_)
    · refine sim_iconst (2) dX11_kudos_85 (by decide +kernel) ?_
      exact sim_lv (am_leS (am_leS (am_leS (am_leN (am_leN am_leT))))) (t_X11_kudos_86 d (by omega) _ _ _ _ _ _)
    · refine sim_iconst (0) dX11_kudos_81 (by decide +kernel) ?_
      refine sim_goto 86 dX11_kudos_82 (by decide) ?_
      exact sim_lv (am_leS (am_leS (am_leS (am_leN (am_leN am_leT))))) (t_X11_kudos_86 d (by omega) _ _ _ _ _ _)
  · refine sim_iconst (1) dX11_kudos_72 (by decide +kernel) ?_
    refine sim_goto 86 dX11_kudos_73 (by decide) ?_
    exact sim_lv (am_leS (am_leS (am_leS (am_leN (am_leN am_leT))))) (t_X11_kudos_86 d (by omega) _ _ _ _ _ _)
def f_X11_kudos_64  (a0 : Nat × Nat) (x1 : Int32) (x2 : Int32) (x3 : Int32) (h : am_H) : am_R := f_X11_kudos_65 a0 x1 x2 x3 (0 : Int32) h
theorem t_X11_kudos_64 (d : Nat) (hd : 3 ≤ d)  (a0 : Nat × Nat) (x1 : Int32) (x2 : Int32) (x3 : Int32) (h : am_H) : Sim m_X11_kudos d 64 [some (.inr (.inr (some a0))), some (.inl x1), some (.inl x2), some (.inl x3), none] [] h (f_X11_kudos_64  a0 x1 x2 x3 h) := by
  unfold f_X11_kudos_64
  refine sim_iconst (0) dX11_kudos_64 (by decide +kernel) ?_
  exact sim_lv (am_leS (am_leS (am_leS (am_leS (am_leN am_leT))))) (t_X11_kudos_65 d (by omega) _ _ _ _ _ _)
def f_X11_kudos_20  (a0 : Nat × Nat) (x1 : Int32) (x2 : Int32) (s0 : Int32) (h : am_H) : am_R := if s0 = 0 then (f_X11_kudos_64 a0 x1 x2 s0 h) else (m_ao (some a0) 11 fun a8 => m_bI (f_X11_isSeen a8 x2 x1 h) fun h6 v7 => if v7 = 0 then (f_X11_kudos_64 a0 x1 x2 s0 h6) else (m_ao (some a0) 11 fun a11 => m_bI (f_X11_isOwner a11 x2 x1 h6) fun h9 v10 => if v10 = 0 then (m_ao (some a0) 11 fun a14 => m_bI (f_X11_gave a14 x1 h9) fun h12 v13 => m_gR (some a0) 11 3 h12 fun o15 => m_aI o15 0 x2 h12 fun v16 => m_bI (f_X11_has v13 v16 h12) fun h17 v18 => if v18 = 0 then (f_X11_kudos_65 a0 x1 x2 s0 (1 : Int32) h17) else (f_X11_kudos_64 a0 x1 x2 s0 h17)) else (f_X11_kudos_64 a0 x1 x2 s0 h9)))
theorem t_X11_kudos_20 (d : Nat) (hd : 3 ≤ d)  (a0 : Nat × Nat) (x1 : Int32) (x2 : Int32) (s0 : Int32) (h : am_H) : Sim m_X11_kudos d 20 [some (.inr (.inr (some a0))), some (.inl x1), some (.inl x2), none, none] [.inl s0] h (f_X11_kudos_20  a0 x1 x2 s0 h) := by
  unfold f_X11_kudos_20
  refine sim_istore_n dX11_kudos_20 (Nat.le_of_ble_eq_true rfl) ?_
  refine sim_iload_n dX11_kudos_21 rfl ?_
  refine sim_if_eq 64 dX11_kudos_22 (by decide) (fun c => ?_) (fun c => ?_)
  · exact sim_lv (am_leS (am_leS (am_leS (am_leS (am_leN am_leT))))) (t_X11_kudos_64 d (by omega) _ _ _ _ _)
  · refine sim_aload_n dX11_kudos_25 rfl ?_
    refine sim_iload_n dX11_kudos_26 rfl ?_
    refine sim_iload_n dX11_kudos_27 rfl ?_
    refine sim_ao2 (fun a8 e => ?_)
    refine sim_virt (d - 1) e dX11_kudos_28 (k_X11_isSeen (d - 1) (by omega) _ _ _ _) q_X11_isSeen rfl rfl wm_RX11_169 rfl rfl (by omega) (Nat.le_of_ble_eq_true rfl) am_nI (am_rI fun h6 v7 => ?_) am_eI
    refine sim_if_eq 64 dX11_kudos_31 (by decide) (fun c => ?_) (fun c => ?_)
    · exact sim_lv (am_leS (am_leS (am_leS (am_leS (am_leN am_leT))))) (t_X11_kudos_64 d (by omega) _ _ _ _ _)
    · refine sim_aload_n dX11_kudos_34 rfl ?_
      refine sim_iload_n dX11_kudos_35 rfl ?_
      refine sim_iload_n dX11_kudos_36 rfl ?_
      refine sim_ao2 (fun a11 e => ?_)
      refine sim_virt (d - 1) e dX11_kudos_37 (k_X11_isOwner (d - 1) (by omega) _ _ _ _) q_X11_isOwner rfl rfl wm_RX11_166 rfl rfl (by omega) (Nat.le_of_ble_eq_true rfl) am_nI (am_rI fun h9 v10 => ?_) am_eI
      refine sim_if_ne 64 dX11_kudos_40 (by decide) (fun c => ?_) (fun c => ?_)
      · exact sim_lv (am_leS (am_leS (am_leS (am_leS (am_leN am_leT))))) (t_X11_kudos_64 d (by omega) _ _ _ _ _)
      · refine sim_aload_n dX11_kudos_43 rfl ?_
        refine sim_iload_n dX11_kudos_44 rfl ?_
        refine sim_ao1 (fun a14 e => ?_)
        refine sim_virt (d - 1) e dX11_kudos_45 (k_X11_gave (d - 1) (by omega) _ _ _) q_X11_gave rfl rfl wm_RX11_260 rfl rfl (by omega) (Nat.le_of_ble_eq_true rfl) am_nI (am_rI fun h12 v13 => ?_) am_eI
        refine sim_aload_n dX11_kudos_48 rfl ?_
        refine sim_gR 11 3 dX11_kudos_49 rfl wf_RX11_13 (Nat.le_of_ble_eq_true rfl) rfl (fun o15 => ?_)
        refine sim_iload_n dX11_kudos_52 rfl ?_
        refine sim_aI dX11_kudos_53 (fun v16 => ?_)
        refine sim_static (d - 1) dX11_kudos_54 (k_X11_has (d - 1) (by omega) _ _ _) q_X11_has wm_RX11_155 rfl rfl (by omega) (Nat.le_of_ble_eq_true rfl) am_nI (am_rI fun h17 v18 => ?_) am_eI
        refine sim_if_ne 64 dX11_kudos_57 (by decide) (fun c => ?_) (fun c => ?_)
        · exact sim_lv (am_leS (am_leS (am_leS (am_leS (am_leN am_leT))))) (t_X11_kudos_64 d (by omega) _ _ _ _ _)
        · refine sim_iconst (1) dX11_kudos_60 (by decide +kernel) ?_
          refine sim_goto 65 dX11_kudos_61 (by decide) ?_
          exact sim_lv (am_leS (am_leS (am_leS (am_leS (am_leN am_leT))))) (t_X11_kudos_65 d (by omega) _ _ _ _ _ _)
def f_X11_kudos_19  (a0 : Nat × Nat) (x1 : Int32) (x2 : Int32) (h : am_H) : am_R := f_X11_kudos_20 a0 x1 x2 (0 : Int32) h
theorem t_X11_kudos_19 (d : Nat) (hd : 3 ≤ d)  (a0 : Nat × Nat) (x1 : Int32) (x2 : Int32) (h : am_H) : Sim m_X11_kudos d 19 [some (.inr (.inr (some a0))), some (.inl x1), some (.inl x2), none, none] [] h (f_X11_kudos_19  a0 x1 x2 h) := by
  unfold f_X11_kudos_19
  refine sim_iconst (0) dX11_kudos_19 (by decide +kernel) ?_
  exact sim_lv (am_leS (am_leS (am_leS (am_leN (am_leN am_leT))))) (t_X11_kudos_20 d (by omega) _ _ _ _ _)
def f_X11_kudos (a0 : Nat × Nat) (x1 : Int32) (x2 : Int32) (h : am_H) : am_R := m_ao (some a0) 11 fun a3 => m_bI (f_X11_isWork a3 x1 h) fun h1 v2 => if v2 = 0 then (f_X11_kudos_19 a0 x1 x2 h1) else (m_bI (f_X11_isFace x2 h1) fun h4 v5 => if v5 = 0 then (f_X11_kudos_19 a0 x1 x2 h4) else (f_X11_kudos_20 a0 x1 x2 (1 : Int32) h4))
theorem k_X11_kudos (d : Nat) (hd : 3 ≤ d) (a0 : Nat × Nat) (x1 : Int32) (x2 : Int32) (h : am_H) : am_Con m_X11_kudos d [.inr (.inr (some a0)), .inl x1, .inl x2] h (f_X11_kudos a0 x1 x2 h) := am_con (by decide +kernel) (Nat.le_of_ble_eq_true rfl) (by
  unfold f_X11_kudos
  refine sim_aload_n dX11_kudos_0 rfl ?_
  refine sim_iload_n dX11_kudos_1 rfl ?_
  refine sim_ao1 (fun a3 e => ?_)
  refine sim_virt (d - 1) e dX11_kudos_2 (k_X11_isWork (d - 1) (by omega) _ _ _) q_X11_isWork rfl rfl wm_RX11_152 rfl rfl (by omega) (Nat.le_of_ble_eq_true rfl) am_nI (am_rI fun h1 v2 => ?_) am_eI
  refine sim_if_eq 19 dX11_kudos_5 (by decide) (fun c => ?_) (fun c => ?_)
  · exact sim_lv (am_leS (am_leS (am_leS (am_leN (am_leN am_leT))))) (t_X11_kudos_19 d (by omega) _ _ _ _)
  · refine sim_iload_n dX11_kudos_8 rfl ?_
    refine sim_static (d - 1) dX11_kudos_9 (k_X11_isFace (d - 1) (by omega) _ _) q_X11_isFace wm_RX11_149 rfl rfl (by omega) (Nat.le_of_ble_eq_true rfl) am_nI (am_rI fun h4 v5 => ?_) am_eI
    refine sim_if_eq 19 dX11_kudos_12 (by decide) (fun c => ?_) (fun c => ?_)
    · exact sim_lv (am_leS (am_leS (am_leS (am_leN (am_leN am_leT))))) (t_X11_kudos_19 d (by omega) _ _ _ _)
    · refine sim_iconst (1) dX11_kudos_15 (by decide +kernel) ?_
      refine sim_goto 20 dX11_kudos_16 (by decide) ?_
      exact sim_lv (am_leS (am_leS (am_leS (am_leN (am_leN am_leT))))) (t_X11_kudos_20 d (by omega) _ _ _ _ _))
theorem q_X11_kudos : am_Cal m_X11_kudos 2 2 := ⟨am_mem 1508 (w := Cond.code yX11_kudos cX11_kudos 5 (some .int)) (by decide +kernel) rfl, am_mem 64 (w := Cond.initialized RX11) (by decide +kernel) rfl, fun z => absurd z (by decide), fun _ => am_mem 1506 (w := Cond.instanceMethod yX11_kudos) (by decide +kernel) rfl, fun z => absurd z (by decide), fun _ => am_mem 1507 (w := Cond.selects RX11 yX11_kudos yX11_kudos) (by decide +kernel) rfl, by decide +kernel, by decide +kernel, Nat.le_of_ble_eq_true rfl⟩
abbrev m_X11_leave : am_M := (yX11_leave, cX11_leave, 4, some .int, [])
def f_X11_leave_48  (a0 : Nat × Nat) (x1 : Int32) (x2 : Int32) (s0 : Int32) (s1 : Option (Nat × Nat)) (h : am_H) : am_R := m_ao s1 11 fun a12 => m_bI (f_X11_holds a12 s0 h) fun h10 v11 => if v11 = 0 then (m_ri h10 (0 : Int32)) else (m_gR (some a0) 11 6 h10 fun o13 => m_aI o13 0 x1 h10 fun v14 => m_sI o13 x1 (v14 &&& (((1 : Int32) <<< (x2 &&& 31)) ^^^ (-1 : Int32))) h10 fun h15 => m_gR (some a0) 11 6 h15 fun o16 => m_aI o16 0 x1 h15 fun v17 => m_bI (f_X11_bits v17 h15) fun h18 v19 => m_ri h18 v19)
theorem t_X11_leave_48 (d : Nat) (hd : 2 ≤ d)  (a0 : Nat × Nat) (x1 : Int32) (x2 : Int32) (s0 : Int32) (s1 : Option (Nat × Nat)) (h : am_H) : Sim m_X11_leave d 48 [some (.inr (.inr (some a0))), some (.inl x1), some (.inl x2), none] [.inl s0, .inr (.inr s1)] h (f_X11_leave_48  a0 x1 x2 s0 s1 h) := by
  unfold f_X11_leave_48
  refine sim_ao1 (fun a12 e => ?_)
  refine sim_virt (d - 1) e dX11_leave_48 (k_X11_holds (d - 1) (by omega) _ _ _) q_X11_holds rfl rfl wm_RX11_142 rfl rfl (by omega) (Nat.le_of_ble_eq_true rfl) am_nI (am_rI fun h10 v11 => ?_) am_eI
  refine sim_if_ne 56 dX11_leave_51 (by decide) (fun c => ?_) (fun c => ?_)
  · refine sim_aload_n dX11_leave_56 rfl ?_
    refine sim_gR 11 6 dX11_leave_57 rfl wf_RX11_20 (Nat.le_of_ble_eq_true rfl) rfl (fun o13 => ?_)
    refine sim_iload_n dX11_leave_60 rfl ?_
    refine sim_dup2 dX11_leave_61 ?_
    refine sim_aI dX11_leave_62 (fun v14 => ?_)
    refine sim_iconst (1) dX11_leave_63 (by decide +kernel) ?_
    refine sim_iload_n dX11_leave_64 rfl ?_
    refine sim_ishl dX11_leave_65 ?_
    refine sim_iconst (-1) dX11_leave_66 (by decide +kernel) ?_
    refine sim_ixor dX11_leave_67 ?_
    refine sim_iand dX11_leave_68 ?_
    refine sim_sI dX11_leave_69 (fun h15 => ?_)
    refine sim_aload_n dX11_leave_70 rfl ?_
    refine sim_gR 11 6 dX11_leave_71 rfl wf_RX11_20 (Nat.le_of_ble_eq_true rfl) rfl (fun o16 => ?_)
    refine sim_iload_n dX11_leave_74 rfl ?_
    refine sim_aI dX11_leave_75 (fun v17 => ?_)
    refine sim_static (d - 1) dX11_leave_76 (k_X11_bits (d - 1) (by omega) _ _) q_X11_bits wm_RX11_159 rfl rfl (by omega) (Nat.le_of_ble_eq_true rfl) am_nI (am_rI fun h18 v19 => ?_) am_eI
    exact sim_iret dX11_leave_79 rfl
  · refine sim_iconst (0) dX11_leave_54 (by decide +kernel) ?_
    exact sim_iret dX11_leave_55 rfl
def f_X11_leave_20  (a0 : Nat × Nat) (x1 : Int32) (x2 : Int32) (s0 : Int32) (h : am_H) : am_R := if s0 = 0 then (f_X11_leave_48 a0 x1 x2 (1 : Int32) (some a0) h) else (m_gR (some a0) 11 6 h fun o6 => m_aI o6 0 x1 h fun v7 => m_bI (f_X11_has v7 x2 h) fun h8 v9 => if v9 = 0 then (f_X11_leave_48 a0 x1 x2 (2 : Int32) (some a0) h8) else (f_X11_leave_48 a0 x1 x2 (0 : Int32) (some a0) h8))
theorem t_X11_leave_20 (d : Nat) (hd : 2 ≤ d)  (a0 : Nat × Nat) (x1 : Int32) (x2 : Int32) (s0 : Int32) (h : am_H) : Sim m_X11_leave d 20 [some (.inr (.inr (some a0))), some (.inl x1), some (.inl x2), none] [.inl s0] h (f_X11_leave_20  a0 x1 x2 s0 h) := by
  unfold f_X11_leave_20
  refine sim_istore_n dX11_leave_20 (Nat.le_of_ble_eq_true rfl) ?_
  refine sim_aload_n dX11_leave_21 rfl ?_
  refine sim_iload_n dX11_leave_22 rfl ?_
  refine sim_if_ne 30 dX11_leave_23 (by decide) (fun c => ?_) (fun c => ?_)
  · refine sim_aload_n dX11_leave_30 rfl ?_
    refine sim_gR 11 6 dX11_leave_31 rfl wf_RX11_20 (Nat.le_of_ble_eq_true rfl) rfl (fun o6 => ?_)
    refine sim_iload_n dX11_leave_34 rfl ?_
    refine sim_aI dX11_leave_35 (fun v7 => ?_)
    refine sim_iload_n dX11_leave_36 rfl ?_
    refine sim_static (d - 1) dX11_leave_37 (k_X11_has (d - 1) (by omega) _ _ _) q_X11_has wm_RX11_155 rfl rfl (by omega) (Nat.le_of_ble_eq_true rfl) am_nI (am_rI fun h8 v9 => ?_) am_eI
    refine sim_if_eq 47 dX11_leave_40 (by decide) (fun c => ?_) (fun c => ?_)
    · refine sim_iconst (2) dX11_leave_47 (by decide +kernel) ?_
      exact sim_lv (am_leS (am_leS (am_leS (am_leN am_leT)))) (t_X11_leave_48 d (by omega) _ _ _ _ _ _)
    · refine sim_iconst (0) dX11_leave_43 (by decide +kernel) ?_
      refine sim_goto 48 dX11_leave_44 (by decide) ?_
      exact sim_lv (am_leS (am_leS (am_leS (am_leN am_leT)))) (t_X11_leave_48 d (by omega) _ _ _ _ _ _)
  · refine sim_iconst (1) dX11_leave_26 (by decide +kernel) ?_
    refine sim_goto 48 dX11_leave_27 (by decide) ?_
    exact sim_lv (am_leS (am_leS (am_leS (am_leN am_leT)))) (t_X11_leave_48 d (by omega) _ _ _ _ _ _)
def f_X11_leave_19  (a0 : Nat × Nat) (x1 : Int32) (x2 : Int32) (h : am_H) : am_R := f_X11_leave_20 a0 x1 x2 (0 : Int32) h
theorem t_X11_leave_19 (d : Nat) (hd : 2 ≤ d)  (a0 : Nat × Nat) (x1 : Int32) (x2 : Int32) (h : am_H) : Sim m_X11_leave d 19 [some (.inr (.inr (some a0))), some (.inl x1), some (.inl x2), none] [] h (f_X11_leave_19  a0 x1 x2 h) := by
  unfold f_X11_leave_19
  refine sim_iconst (0) dX11_leave_19 (by decide +kernel) ?_
  exact sim_lv (am_leS (am_leS (am_leS (am_leN am_leT)))) (t_X11_leave_20 d (by omega) _ _ _ _ _)
def f_X11_leave (a0 : Nat × Nat) (x1 : Int32) (x2 : Int32) (h : am_H) : am_R := m_ao (some a0) 11 fun a3 => m_bI (f_X11_isWork a3 x1 h) fun h1 v2 => if v2 = 0 then (f_X11_leave_19 a0 x1 x2 h1) else (m_bI (f_X11_isPerson x2 h1) fun h4 v5 => if v5 = 0 then (f_X11_leave_19 a0 x1 x2 h4) else (f_X11_leave_20 a0 x1 x2 (1 : Int32) h4))
theorem k_X11_leave (d : Nat) (hd : 2 ≤ d) (a0 : Nat × Nat) (x1 : Int32) (x2 : Int32) (h : am_H) : am_Con m_X11_leave d [.inr (.inr (some a0)), .inl x1, .inl x2] h (f_X11_leave a0 x1 x2 h) := am_con (by decide +kernel) (Nat.le_of_ble_eq_true rfl) (by
  unfold f_X11_leave
  refine sim_aload_n dX11_leave_0 rfl ?_
  refine sim_iload_n dX11_leave_1 rfl ?_
  refine sim_ao1 (fun a3 e => ?_)
  refine sim_virt (d - 1) e dX11_leave_2 (k_X11_isWork (d - 1) (by omega) _ _ _) q_X11_isWork rfl rfl wm_RX11_152 rfl rfl (by omega) (Nat.le_of_ble_eq_true rfl) am_nI (am_rI fun h1 v2 => ?_) am_eI
  refine sim_if_eq 19 dX11_leave_5 (by decide) (fun c => ?_) (fun c => ?_)
  · exact sim_lv (am_leS (am_leS (am_leS (am_leN am_leT)))) (t_X11_leave_19 d (by omega) _ _ _ _)
  · refine sim_iload_n dX11_leave_8 rfl ?_
    refine sim_static (d - 1) dX11_leave_9 (k_X11_isPerson (d - 1) (by omega) _ _) q_X11_isPerson wm_RX11_146 rfl rfl (by omega) (Nat.le_of_ble_eq_true rfl) am_nI (am_rI fun h4 v5 => ?_) am_eI
    refine sim_if_eq 19 dX11_leave_12 (by decide) (fun c => ?_) (fun c => ?_)
    · exact sim_lv (am_leS (am_leS (am_leS (am_leN am_leT)))) (t_X11_leave_19 d (by omega) _ _ _ _)
    · refine sim_iconst (1) dX11_leave_15 (by decide +kernel) ?_
      refine sim_goto 20 dX11_leave_16 (by decide) ?_
      exact sim_lv (am_leS (am_leS (am_leS (am_leN am_leT)))) (t_X11_leave_20 d (by omega) _ _ _ _ _))
theorem q_X11_leave : am_Cal m_X11_leave 2 2 := ⟨am_mem 1294 (w := Cond.code yX11_leave cX11_leave 4 (some .int)) (by decide +kernel) rfl, am_mem 64 (w := Cond.initialized RX11) (by decide +kernel) rfl, fun z => absurd z (by decide), fun _ => am_mem 1292 (w := Cond.instanceMethod yX11_leave) (by decide +kernel) rfl, fun z => absurd z (by decide), fun _ => am_mem 1293 (w := Cond.selects RX11 yX11_leave yX11_leave) (by decide +kernel) rfl, by decide +kernel, by decide +kernel, Nat.le_of_ble_eq_true rfl⟩
