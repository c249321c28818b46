set_option maxRecDepth 100000 in
theorem tb_L_act : lw_tbl[410]? = some (Cond.code yL_act cL_act 9 (some .int)) := rfl
theorem q_L_act : am_Cal m_L_act 2 0 := ⟨am_mem 410 (w := Cond.code yL_act cL_act 9 (some .int)) tb_L_act rfl, am_mem 29 (w := Cond.initialized RL) (by decide +kernel) rfl, fun _ => am_mem 409 (w := Cond.static yL_act) (by decide +kernel) rfl, fun z => absurd rfl z, fun z => absurd z (by decide), fun z => absurd z (by decide), by decide +kernel, by decide +kernel, Nat.le_of_ble_eq_true rfl⟩
