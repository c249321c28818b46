theorem wca_2 : lw_tbl[331]? = some (.castable (am_xn 2) (am_xn 2)) := by decide +kernel
theorem wm_RL_51 : lw_tbl[943]? = some (.methodLink RL 51 yX10_news) := by decide +kernel
theorem wm_RL_43 : lw_tbl[935]? = some (.methodLink RL 43 yX10_liked) := by decide +kernel
theorem wm_RL_40 : lw_tbl[926]? = some (.methodLink RL 40 yX10_kudos) := by decide +kernel
theorem wm_RL_36 : lw_tbl[922]? = some (.methodLink RL 36 yX10_reads) := by decide +kernel
theorem wm_RL_32 : lw_tbl[918]? = some (.methodLink RL 32 yX10_change) := by decide +kernel
theorem wm_RL_28 : lw_tbl[859]? = some (.methodLink RL 28 yX10_comment) := by decide +kernel
theorem wm_RL_14 : lw_tbl[605]? = some (.methodLink RL 14 yL_middle) := by decide +kernel
theorem wm_RL_8 : lw_tbl[421]? = some (.methodLink RL 8 yL_early) := by decide +kernel
theorem wm_RL_18 : lw_tbl[855]? = some (.methodLink RL 18 yX10_screen) := by decide +kernel
theorem wm_RL_47 : lw_tbl[939]? = some (.methodLink RL 47 yX10_subscribe) := by decide +kernel
theorem wk_RL_7 : lw_tbl[414]? = some (.constant RL 7 (2147483647)) := by decide +kernel
theorem wm_RL_152 : lw_tbl[415]? = some (.methodLink RL 152 yL_does) := by decide +kernel
theorem wm_RL_155 : lw_tbl[411]? = some (.methodLink RL 155 yL_low) := by decide +kernel
theorem wm_RL_158 : lw_tbl[977]? = some (.methodLink RL 158 yL_types) := by decide +kernel
theorem wm_RL_162 : lw_tbl[970]? = some (.methodLink RL 162 yX10_wipe) := by decide +kernel
theorem wm_RL_165 : lw_tbl[974]? = some (.methodLink RL 165 yL_item) := by decide +kernel
theorem wm_RX10_311 : lw_tbl[995]? = some (.methodLink RX10 311 yX2_countMatches) := by decide +kernel
theorem wm_RL_169 : lw_tbl[983]? = some (.methodLink RL 169 yX10_fault) := by decide +kernel
theorem wm_RL_172 : lw_tbl[987]? = some (.methodLink RL 172 yX10_waiting) := by decide +kernel
theorem wm_RL_175 : lw_tbl[991]? = some (.methodLink RL 175 yX10_matches) := by decide +kernel
theorem wm_RX2_3 : lw_tbl[155]? = some (.methodLink RX2 3 objectInit) := by decide +kernel
theorem wo_RX6 : lw_tbl[157]? = some (.arrayOver (.object RX6)) := by decide +kernel
theorem wc_RX2_9 : lw_tbl[156]? = some (.classLink RX2 9 RX6) := by decide +kernel
theorem wm_RX3_3 : lw_tbl[178]? = some (.methodLink RX3 3 objectInit) := by decide +kernel
theorem wf_RX3_9 : lw_tbl[183]? = some (.fieldLink RX3 9 (TX3 1).1 (TX3 1).2.1 (TX3 1).2.2.1) := by decide +kernel
theorem wf_RX3_18 : lw_tbl[187]? = some (.fieldLink RX3 18 (TX3 3).1 (TX3 3).2.1 (TX3 3).2.2.1) := by decide +kernel
theorem wm_RX3_21 : lw_tbl[179]? = some (.methodLink RX3 21 yJ7_fill_53178) := by decide +kernel
theorem wm_RX5_3 : lw_tbl[135]? = some (.methodLink RX5 3 objectInit) := by decide +kernel
theorem wa_boolean : lw_tbl[149]? = some (.arrayClass .boolean) := by decide +kernel
theorem wm_RX7_3 : lw_tbl[70]? = some (.methodLink RX7 3 objectInit) := by decide +kernel
theorem wm_RX4_3 : lw_tbl[97]? = some (.methodLink RX4 3 objectInit) := by decide +kernel
theorem wm_RX8_3 : lw_tbl[91]? = some (.methodLink RX8 3 objectInit) := by decide +kernel
theorem wa_char : lw_tbl[116]? = some (.arrayClass .char) := by decide +kernel
theorem wc_RX8_15 : lw_tbl[92]? = some (.classLink RX8 15 RX4) := by decide +kernel
theorem wi_RX4 : lw_tbl[93]? = some (.instantiable RX4 5) := by decide +kernel
theorem wz_RX4 : lw_tbl[33]? = some (.initialized RX4) := by decide +kernel
theorem wn_RX8_17 : lw_tbl[94]? = some (.methodLinkNest RX8 17 yX4_init "Tagwranglery") := by decide +kernel
theorem wm_RX10_3 : lw_tbl[56]? = some (.methodLink RX10 3 objectInit) := by decide +kernel
theorem wo_RX3 : lw_tbl[60]? = some (.arrayOver (.object RX3)) := by decide +kernel
theorem wc_RX10_13 : lw_tbl[59]? = some (.classLink RX10 13 RX3) := by decide +kernel
theorem wo_RX9 : lw_tbl[62]? = some (.arrayOver (.object RX9)) := by decide +kernel
theorem wo_RX0 : lw_tbl[64]? = some (.arrayOver (.object RX0)) := by decide +kernel
theorem wc_RX10_31 : lw_tbl[65]? = some (.classLink RX10 31 RX7) := by decide +kernel
theorem wi_RX7 : lw_tbl[66]? = some (.instantiable RX7 4) := by decide +kernel
theorem wz_RX7 : lw_tbl[31]? = some (.initialized RX7) := by decide +kernel
theorem wn_RX10_33 : lw_tbl[67]? = some (.methodLinkNest RX10 33 yX7_init "Tagwranglery") := by decide +kernel
theorem wc_RX10_38 : lw_tbl[86]? = some (.classLink RX10 38 RX8) := by decide +kernel
theorem wi_RX8 : lw_tbl[87]? = some (.instantiable RX8 3) := by decide +kernel
theorem wz_RX8 : lw_tbl[32]? = some (.initialized RX8) := by decide +kernel
theorem wn_RX10_40 : lw_tbl[88]? = some (.methodLinkNest RX10 40 yX8_init "Tagwranglery") := by decide +kernel
theorem wc_RX10_45 : lw_tbl[130]? = some (.classLink RX10 45 RX5) := by decide +kernel
theorem wi_RX5 : lw_tbl[131]? = some (.instantiable RX5 4) := by decide +kernel
theorem wz_RX5 : lw_tbl[34]? = some (.initialized RX5) := by decide +kernel
theorem wn_RX10_47 : lw_tbl[132]? = some (.methodLinkNest RX10 47 yX5_init "Tagwranglery") := by decide +kernel
theorem wc_RX10_52 : lw_tbl[150]? = some (.classLink RX10 52 RX2) := by decide +kernel
theorem wi_RX2 : lw_tbl[151]? = some (.instantiable RX2 4) := by decide +kernel
theorem wz_RX2 : lw_tbl[35]? = some (.initialized RX2) := by decide +kernel
theorem wn_RX10_54 : lw_tbl[152]? = some (.methodLinkNest RX10 54 yX2_init "Tagwranglery") := by decide +kernel
theorem wo_RX1 : lw_tbl[173]? = some (.arrayOver (.object RX1)) := by decide +kernel
theorem wi_RX3 : lw_tbl[174]? = some (.instantiable RX3 4) := by decide +kernel
theorem wz_RX3 : lw_tbl[36]? = some (.initialized RX3) := by decide +kernel
theorem wm_RX10_65 : lw_tbl[175]? = some (.methodLink RX10 65 yX3_init) := by decide +kernel
theorem wc_RL_19 : lw_tbl[51]? = some (.classLink RL 19 RX10) := by decide +kernel
theorem wi_RX10 : lw_tbl[52]? = some (.instantiable RX10 13) := by decide +kernel
theorem wz_RX10 : lw_tbl[30]? = some (.initialized RX10) := by decide +kernel
theorem wm_RL_178 : lw_tbl[53]? = some (.methodLink RL 178 yX10_init) := by decide +kernel
theorem wm_RL_179 : lw_tbl[405]? = some (.methodLink RL 179 yL_cell) := by decide +kernel
theorem wm_RL_183 : lw_tbl[408]? = some (.methodLink RL 183 yL_act) := by decide +kernel
theorem wk_RL_186 : lw_tbl[1008]? = some (.constant RL 186 (65535)) := by decide +kernel
theorem wm_RL_187 : lw_tbl[980]? = some (.methodLink RL 187 yL_areAlike) := by decide +kernel
theorem wm_RL_191 : lw_tbl[999]? = some (.methodLink RL 191 yL_areTags) := by decide +kernel
theorem wm_RL_195 : lw_tbl[1002]? = some (.methodLink RL 195 yL_areParted) := by decide +kernel
theorem wm_RL_198 : lw_tbl[1005]? = some (.methodLink RL 198 yL_areGiven) := by decide +kernel
