def f_L_law  (h : am_H) : am_R := m_new 69 13 h fun a1 h2 => m_bW (f_X10_init a1 h2) fun h3 => m_new 70 47 h3 fun a5 h6 => m_bW (f_X11_init a5 h6) fun h7 => m_new 71 1 h7 fun a9 h10 => f_L_law_23 5000 (1, 0) (some a1) (some a5) (some a9) (0 : Int32) h10
theorem s_L_law (d : Nat) (hd : 10 ≤ d) (h : am_H) : Sim m_L_law d 0 (am_lvN 7 [.inr (.inr (some (1, 0)))]) [] h (f_L_law h) := by
  unfold f_L_law
  refine sim_nw 69 10 13 dL_law_0 rfl rfl wc_RL_8 wi_RX10 wz_RX10 (fun a1 h2 => ?_)
  refine sim_dup_r dL_law_3 ?_
  refine sim_ctor (d - 1) dL_law_4 (k_X10_init (d - 1) (by omega) _  _) q_X10_init wm_RL_132 rfl rfl (by omega) (Nat.le_of_ble_eq_true rfl) am_nW am_xW (am_rW fun h3 => ?_)
  refine sim_astore_n dL_law_7 (Nat.le_of_ble_eq_true rfl) ?_
  refine sim_nw 70 11 47 dL_law_8 rfl rfl wc_RL_133 wi_RX11 wz_RX11 (fun a5 h6 => ?_)
  refine sim_dup_r dL_law_11 ?_
  refine sim_ctor (d - 1) dL_law_12 (k_X11_init (d - 1) (by omega) _  _) q_X11_init wm_RL_135 rfl rfl (by omega) (Nat.le_of_ble_eq_true rfl) am_nW am_xW (am_rW fun h7 => ?_)
  refine sim_astore_n dL_law_15 (Nat.le_of_ble_eq_true rfl) ?_
  refine sim_iconst (1) dL_law_16 (by decide +kernel) ?_
  refine sim_nwL 71 1 dL_law_17 rfl rfl (by decide +kernel) (Nat.le_of_ble_eq_true rfl) wa_long (fun a9 h10 => ?_)
  refine sim_astore_n dL_law_19 (Nat.le_of_ble_eq_true rfl) ?_
  refine sim_iconst (0) dL_law_20 (by decide +kernel) ?_
  refine sim_istore dL_law_21 (Nat.le_of_ble_eq_true rfl) ?_
  exact sim_lv (am_leS (am_leS (am_leS (am_leS (am_leS (am_leN (am_leN am_leT))))))) (t_L_law_23 d (by omega) _ _ _ _ _ _)
