theorem wf_RX10_104 : lw_tbl[202]? = some (.fieldLink RX10 104 (TX10 4).1 (TX10 4).2.1 (TX10 4).2.2.1) := by decide +kernel
theorem wc_RX10_162 : lw_tbl[245]? = some (.classLink RX10 162 "java/lang/IndexOutOfBoundsException") := by decide +kernel
theorem wx_RX10_162 : lw_tbl[245]? = some (.classLink RX10 162 (am_xn 0)) := by decide +kernel
theorem wy_0 : lw_tbl[42]? = some (.initialized (am_xn 0)) := by decide +kernel
theorem ws_RX10_384 : lw_tbl[464]? = some (.stringRef RX10 384 "there is no such WORK") := by decide +kernel
theorem at_RX10_166 : ∀ w ∈ vx_atS RX10 166 (am_xn 0) am_up9, w ∈ am_T := am_in_T (by decide +kernel) (by decide +kernel)
theorem gd_RX10_166 : ∀ w ∈ Cond.classLink RX10 162 (am_xn 0) :: Cond.initialized (am_xn 0) :: vx_atS RX10 166 (am_xn 0) am_up9, vx_ot w = true := by decide +kernel
theorem wm_RX10_361 : lw_tbl[460]? = some (.methodLink RX10 361 yX10_checkWork) := by decide +kernel
theorem wf_RX10_21 : lw_tbl[201]? = some (.fieldLink RX10 21 (TX10 3).1 (TX10 3).2.1 (TX10 3).2.2.1) := by decide +kernel
theorem wm_RX10_112 : lw_tbl[456]? = some (.methodLink RX10 112 yX10_workAt) := by decide +kernel
theorem wf_RX10_156 : lw_tbl[204]? = some (.fieldLink RX10 156 (TX10 6).1 (TX10 6).2.1 (TX10 6).2.2.1) := by decide +kernel
theorem wf_RX10_167 : lw_tbl[363]? = some (.fieldLink RX10 167 (TX9 6).1 (TX9 6).2.1 (TX9 6).2.2.1) := by decide +kernel
theorem wf_RX10_27 : lw_tbl[203]? = some (.fieldLink RX10 27 (TX10 5).1 (TX10 5).2.1 (TX10 5).2.2.1) := by decide +kernel
theorem wc_RX10_77 : lw_tbl[329]? = some (.classLink RX10 77 "java/lang/IllegalStateException") := by decide +kernel
theorem wx_RX10_77 : lw_tbl[329]? = some (.classLink RX10 77 (am_xn 2)) := by decide +kernel
theorem wy_2 : lw_tbl[41]? = some (.initialized (am_xn 2)) := by decide +kernel
theorem ws_RX10_171 : lw_tbl[528]? = some (.stringRef RX10 171 "the WORK is in a collection") := by decide +kernel
theorem at_RX10_81 : ∀ w ∈ vx_atS RX10 81 (am_xn 2) am_up9, w ∈ am_T := am_in_T (by decide +kernel) (by decide +kernel)
theorem gd_RX10_81 : ∀ w ∈ Cond.classLink RX10 77 (am_xn 2) :: Cond.initialized (am_xn 2) :: vx_atS RX10 81 (am_xn 2) am_up9, vx_ot w = true := by decide +kernel
theorem ws_RX10_164 : lw_tbl[527]? = some (.stringRef RX10 164 "there is no such collection") := by decide +kernel
theorem wm_RL_148 : lw_tbl[523]? = some (.methodLink RL 148 yX10_collect) := by decide +kernel
theorem ws_RX10_378 : lw_tbl[286]? = some (.stringRef RX10 378 "there is no such PERSON") := by decide +kernel
theorem wm_RX10_82 : lw_tbl[242]? = some (.methodLink RX10 82 yX10_checkPerson) := by decide +kernel
theorem wf_RX10_15 : lw_tbl[200]? = some (.fieldLink RX10 15 (TX10 2).1 (TX10 2).2.1 (TX10 2).2.2.1) := by decide +kernel
theorem wf_RX10_88 : lw_tbl[182]? = some (.fieldLink RX10 88 (TX3 0).1 (TX3 0).2.1 (TX3 0).2.2.1) := by decide +kernel
theorem wm_RX10_91 : lw_tbl[435]? = some (.methodLink RX10 91 yX10_has) := by decide +kernel
theorem wm_RX10_95 : lw_tbl[438]? = some (.methodLink RX10 95 yX10_with) := by decide +kernel
theorem wc_RX10_66 : lw_tbl[313]? = some (.classLink RX10 66 "java/lang/IllegalArgumentException") := by decide +kernel
theorem wx_RX10_66 : lw_tbl[313]? = some (.classLink RX10 66 (am_xn 1)) := by decide +kernel
theorem wy_1 : lw_tbl[43]? = some (.initialized (am_xn 1)) := by decide +kernel
theorem ws_RX10_86 : lw_tbl[434]? = some (.stringRef RX10 86 "both are the same") := by decide +kernel
theorem at_RX10_70 : ∀ w ∈ vx_atS RX10 70 (am_xn 1) am_up9, w ∈ am_T := am_in_T (by decide +kernel) (by decide +kernel)
theorem gd_RX10_70 : ∀ w ∈ Cond.classLink RX10 66 (am_xn 1) :: Cond.initialized (am_xn 1) :: vx_atS RX10 70 (am_xn 1) am_up9, vx_ot w = true := by decide +kernel
theorem wf_RX10_133 : lw_tbl[357]? = some (.fieldLink RX10 133 (TX9 3).1 (TX9 3).2.1 (TX9 3).2.2.1) := by decide +kernel
theorem wf_RX10_138 : lw_tbl[355]? = some (.fieldLink RX10 138 (TX9 2).1 (TX9 2).2.1 (TX9 2).2.2.1) := by decide +kernel
theorem wf_RX10_73 : lw_tbl[198]? = some (.fieldLink RX10 73 (TX10 0).1 (TX10 0).2.1 (TX10 0).2.2.1) := by decide +kernel
theorem ws_RX10_136 : lw_tbl[486]? = some (.stringRef RX10 136 "the WORK has 8 chapters") := by decide +kernel
theorem wm_RX0_1 : lw_tbl[510]? = some (.methodLink RX0 1 objectInit) := by decide +kernel
theorem wf_RX0_7 : lw_tbl[511]? = some (.fieldLink RX0 7 (TX0 0).1 (TX0 0).2.1 (TX0 0).2.2.1) := by decide +kernel
theorem wf_RX0_13 : lw_tbl[513]? = some (.fieldLink RX0 13 (TX0 1).1 (TX0 1).2.1 (TX0 1).2.2.1) := by decide +kernel
theorem wc_RX10_25 : lw_tbl[63]? = some (.classLink RX10 25 RX0) := by decide +kernel
theorem wi_RX0 : lw_tbl[506]? = some (.instantiable RX0 2) := by decide +kernel
theorem wz_RX0 : lw_tbl[46]? = some (.initialized RX0) := by decide +kernel
theorem wm_RX10_161 : lw_tbl[507]? = some (.methodLink RX10 161 yX0_init) := by decide +kernel
theorem ws_RX10_159 : lw_tbl[505]? = some (.stringRef RX10 159 "there are 6 collections") := by decide +kernel
theorem ws_RX10_154 : lw_tbl[504]? = some (.stringRef RX10 154 "opens or names is out of range") := by decide +kernel
theorem wk_RJ6_265 : lw_tbl[468]? = some (.constant RJ6 265 (1431655765)) := by decide +kernel
theorem wk_RJ6_266 : lw_tbl[469]? = some (.constant RJ6 266 (858993459)) := by decide +kernel
theorem wk_RJ6_267 : lw_tbl[470]? = some (.constant RJ6 267 (252645135)) := by decide +kernel
theorem wf_RX9_19 : lw_tbl[352]? = some (.fieldLink RX9 19 (TX9 1).1 (TX9 1).2.1 (TX9 1).2.2.1) := by decide +kernel
theorem wn_RX9_25 : lw_tbl[475]? = some (.methodLinkNest RX9 25 yX10_has "Tagwranglery") := by decide +kernel
theorem wf_RX10_116 : lw_tbl[353]? = some (.fieldLink RX10 116 (TX9 1).1 (TX9 1).2.1 (TX9 1).2.2.1) := by decide +kernel
theorem wm_RX10_119 : lw_tbl[465]? = some (.methodLink RX10 119 yJ6_bitCount_0f7a4) := by decide +kernel
theorem wm_RX10_125 : lw_tbl[471]? = some (.methodLink RX10 125 yX9_isOwnedBy) := by decide +kernel
theorem ws_RX10_129 : lw_tbl[476]? = some (.stringRef RX10 129 "the PERSON cannot become an OWNER") := by decide +kernel
theorem ws_RX10_131 : lw_tbl[481]? = some (.stringRef RX10 131 "the PERSON is no OWNER of it") := by decide +kernel
theorem wf_RX10_150 : lw_tbl[361]? = some (.fieldLink RX10 150 (TX9 5).1 (TX9 5).2.1 (TX9 5).2.2.1) := by decide +kernel
theorem wf_RX10_34 : lw_tbl[205]? = some (.fieldLink RX10 34 (TX10 7).1 (TX10 7).2.1 (TX10 7).2.2.1) := by decide +kernel
theorem wf_RX10_180 : lw_tbl[72]? = some (.fieldLink RX10 180 (TX7 0).1 (TX7 0).2.1 (TX7 0).2.2.1) := by decide +kernel
theorem ws_RX10_380 : lw_tbl[556]? = some (.stringRef RX10 380 "there is no such TAG") := by decide +kernel
theorem wf_RX10_244 : lw_tbl[368]? = some (.fieldLink RX10 244 (TX9 9).1 (TX9 9).2.1 (TX9 9).2.2.1) := by decide +kernel
theorem wf_RX10_234 : lw_tbl[364]? = some (.fieldLink RX10 234 (TX9 7).1 (TX9 7).2.1 (TX9 7).2.2.1) := by decide +kernel
theorem wf_RX7_9 : lw_tbl[73]? = some (.fieldLink RX7 9 (TX7 1).1 (TX7 1).2.1 (TX7 1).2.2.1) := by decide +kernel
theorem wm_RX10_189 : lw_tbl[552]? = some (.methodLink RX10 189 yX10_checkTag) := by decide +kernel
theorem wm_RX10_192 : lw_tbl[557]? = some (.methodLink RX10 192 yX7_kindOf) := by decide +kernel
theorem wm_RX10_197 : lw_tbl[562]? = some (.methodLink RX10 197 yX7_makeMain) := by decide +kernel
theorem wm_RX10_200 : lw_tbl[566]? = some (.methodLink RX10 200 yX10_letTaggedWorksWait) := by decide +kernel
theorem ws_RX10_195 : lw_tbl[561]? = some (.stringRef RX10 195 "the TAG is MAIN") := by decide +kernel
theorem wf_RX7_18 : lw_tbl[75]? = some (.fieldLink RX7 18 (TX7 3).1 (TX7 3).2.1 (TX7 3).2.2.1) := by decide +kernel
theorem wn_RX7_25 : lw_tbl[578]? = some (.methodLinkNest RX7 25 yX10_has "Tagwranglery") := by decide +kernel
theorem wf_RX7_15 : lw_tbl[74]? = some (.fieldLink RX7 15 (TX7 2).1 (TX7 2).2.1 (TX7 2).2.2.1) := by decide +kernel
theorem wm_RX7_36 : lw_tbl[589]? = some (.methodLink RX7 36 arraycopyName) := by decide +kernel
theorem wcp_n : lw_tbl[591]? = some (.native arraycopyName) := by decide +kernel
theorem wcp_s : lw_tbl[590]? = some (.static arraycopyName) := by decide +kernel
theorem wz_RJ10 : lw_tbl[47]? = some (.initialized RJ10) := by decide +kernel
theorem wf_RX7_21 : lw_tbl[71]? = some (.fieldLink RX7 21 (TX7 0).1 (TX7 0).2.1 (TX7 0).2.2.1) := by decide +kernel
theorem wm_RX7_33 : lw_tbl[585]? = some (.methodLink RX7 33 yX7_findAbove) := by decide +kernel
theorem wn_RX7_29 : lw_tbl[584]? = some (.methodLinkNest RX7 29 yX10_with "Tagwranglery") := by decide +kernel
theorem wm_RX10_203 : lw_tbl[574]? = some (.methodLink RX10 203 yX7_isAbove) := by decide +kernel
theorem wm_RX10_208 : lw_tbl[580]? = some (.methodLink RX10 208 yX7_makeAlias) := by decide +kernel
theorem ws_RX10_206 : lw_tbl[579]? = some (.stringRef RX10 206 "the TAG cannot become an ALIAS of the other one") := by decide +kernel
theorem ws_RX10_376 : lw_tbl[451]? = some (.stringRef RX10 376 "there is no such FACE") := by decide +kernel
theorem wf_RX9_15 : lw_tbl[358]? = some (.fieldLink RX9 15 (TX9 4).1 (TX9 4).2.1 (TX9 4).2.2.1) := by decide +kernel
theorem wm_RX9_29 : lw_tbl[537]? = some (.methodLink RX9 29 yX9_isOwnedBy) := by decide +kernel
theorem wf_RX9_33 : lw_tbl[362]? = some (.fieldLink RX9 33 (TX9 6).1 (TX9 6).2.1 (TX9 6).2.2.1) := by decide +kernel
theorem wf_RX9_37 : lw_tbl[512]? = some (.fieldLink RX9 37 (TX0 0).1 (TX0 0).2.1 (TX0 0).2.2.1) := by decide +kernel
theorem wm_RX9_42 : lw_tbl[538]? = some (.methodLink RX9 42 yX9_isPosted) := by decide +kernel
theorem wf_RX9_46 : lw_tbl[360]? = some (.fieldLink RX9 46 (TX9 5).1 (TX9 5).2.1 (TX9 5).2.2.1) := by decide +kernel
theorem wf_RX9_50 : lw_tbl[514]? = some (.fieldLink RX9 50 (TX0 1).1 (TX0 1).2.1 (TX0 1).2.2.1) := by decide +kernel
theorem wm_RX9_53 : lw_tbl[547]? = some (.methodLink RX9 53 yX9_isSeenBy) := by decide +kernel
theorem wm_RX10_99 : lw_tbl[448]? = some (.methodLink RX10 99 yX10_checkFace) := by decide +kernel
theorem wm_RX10_176 : lw_tbl[543]? = some (.methodLink RX10 176 yX9_ownersToldTo) := by decide +kernel
theorem wm_RX10_213 : lw_tbl[597]? = some (.methodLink RX10 213 yX7_isParent) := by decide +kernel
theorem wm_RX10_216 : lw_tbl[601]? = some (.methodLink RX10 216 yX7_setParent) := by decide +kernel
theorem ws_RX10_211 : lw_tbl[596]? = some (.stringRef RX10 211 "the other one cannot be told to be a PARENT, or none") := by decide +kernel
theorem ws_RX10_79 : lw_tbl[429]? = some (.stringRef RX10 79 "the DAY would be above 2000") := by decide +kernel
theorem ws_RX10_68 : lw_tbl[428]? = some (.stringRef RX10 68 "days is out of range") := by decide +kernel
theorem wm_RX10_141 : lw_tbl[491]? = some (.methodLink RX10 141 yX9_isPosted) := by decide +kernel
theorem wf_RX10_147 : lw_tbl[359]? = some (.fieldLink RX10 147 (TX9 4).1 (TX9 4).2.1 (TX9 4).2.2.1) := by decide +kernel
theorem ws_RX10_145 : lw_tbl[495]? = some (.stringRef RX10 145 "the WORK is POSTED, or has no chapter") := by decide +kernel
theorem wf_RX10_9 : lw_tbl[199]? = some (.fieldLink RX10 9 (TX10 1).1 (TX10 1).2.1 (TX10 1).2.2.1) := by decide +kernel
theorem wm_RX10_173 : lw_tbl[533]? = some (.methodLink RX10 173 yX9_isSeenBy) := by decide +kernel
theorem wm_RX10_185 : lw_tbl[401]? = some (.methodLink RX10 185 yX7_add) := by decide +kernel
theorem ws_RX10_183 : lw_tbl[400]? = some (.stringRef RX10 183 "there are 30 TAGS") := by decide +kernel
theorem wm_RX9_3 : lw_tbl[349]? = some (.methodLink RX9 3 objectInit) := by decide +kernel
theorem wa_int : lw_tbl[85]? = some (.arrayClass .int) := by decide +kernel
theorem wf_RX9_9 : lw_tbl[354]? = some (.fieldLink RX9 9 (TX9 2).1 (TX9 2).2.1 (TX9 2).2.2.1) := by decide +kernel
theorem wf_RX9_22 : lw_tbl[350]? = some (.fieldLink RX9 22 (TX9 0).1 (TX9 0).2.1 (TX9 0).2.2.1) := by decide +kernel
theorem wc_RX10_19 : lw_tbl[61]? = some (.classLink RX10 19 RX9) := by decide +kernel
theorem wi_RX9 : lw_tbl[345]? = some (.instantiable RX9 12) := by decide +kernel
theorem wz_RX9 : lw_tbl[44]? = some (.initialized RX9) := by decide +kernel
theorem wm_RX10_109 : lw_tbl[346]? = some (.methodLink RX10 109 yX9_init) := by decide +kernel
theorem ws_RX10_107 : lw_tbl[338]? = some (.stringRef RX10 107 "there are 20 WORKS") := by decide +kernel
theorem ws_RX10_102 : lw_tbl[322]? = some (.stringRef RX10 102 "rating is out of range") := by decide +kernel
theorem wm_RL_112 : lw_tbl[570]? = some (.methodLink RL 112 yX10_merge) := by decide +kernel
theorem wm_RL_109 : lw_tbl[548]? = some (.methodLink RL 109 yX10_make) := by decide +kernel
theorem wm_RL_105 : lw_tbl[396]? = some (.methodLink RL 105 yX10_tag) := by decide +kernel
theorem wm_RL_102 : lw_tbl[539]? = some (.methodLink RL 102 yX10_owners) := by decide +kernel
theorem wm_RL_99 : lw_tbl[529]? = some (.methodLink RL 99 yX10_sees) := by decide +kernel
theorem wm_RL_24 : lw_tbl[441]? = some (.methodLink RL 24 yL_bit) := by decide +kernel
theorem wm_RL_95 : lw_tbl[520]? = some (.methodLink RL 95 yL_collects) := by decide +kernel
theorem wm_RL_92 : lw_tbl[500]? = some (.methodLink RL 92 yX10_collection) := by decide +kernel
theorem wm_RL_86 : lw_tbl[487]? = some (.methodLink RL 86 yX10_post) := by decide +kernel
theorem wm_RL_83 : lw_tbl[482]? = some (.methodLink RL 83 yX10_chapter) := by decide +kernel
theorem wm_RL_80 : lw_tbl[477]? = some (.methodLink RL 80 yX10_leave) := by decide +kernel
theorem wm_RL_77 : lw_tbl[452]? = some (.methodLink RL 77 yX10_join) := by decide +kernel
theorem wm_RL_74 : lw_tbl[238]? = some (.methodLink RL 74 yX10_work) := by decide +kernel
theorem wm_RL_71 : lw_tbl[444]? = some (.methodLink RL 71 yX10_same) := by decide +kernel
theorem wm_RL_64 : lw_tbl[424]? = some (.methodLink RL 64 yX10_pass) := by decide +kernel
theorem wm_RL_67 : lw_tbl[430]? = some (.methodLink RL 67 yX10_block) := by decide +kernel
theorem wm_RL_89 : lw_tbl[496]? = some (.methodLink RL 89 yX10_lock) := by decide +kernel
theorem wm_RL_115 : lw_tbl[592]? = some (.methodLink RL 115 yX10_parent) := by decide +kernel
theorem wf_RX6_19 : lw_tbl[807]? = some (.fieldLink RX6 19 (TX6 3).1 (TX6 3).2.1 (TX6 3).2.2.1) := by decide +kernel
theorem wf_RX6_7 : lw_tbl[803]? = some (.fieldLink RX6 7 (TX6 0).1 (TX6 0).2.1 (TX6 0).2.2.1) := by decide +kernel
theorem wn_RX6_22 : lw_tbl[842]? = some (.methodLinkNest RX6 22 yX10_has "Tagwranglery") := by decide +kernel
theorem wf_RX6_13 : lw_tbl[805]? = some (.fieldLink RX6 13 (TX6 1).1 (TX6 1).2.1 (TX6 1).2.2.1) := by decide +kernel
theorem wm_RX6_28 : lw_tbl[843]? = some (.methodLink RX6 28 yX7_meaningsOf) := by decide +kernel
theorem wf_RX6_16 : lw_tbl[806]? = some (.fieldLink RX6 16 (TX6 2).1 (TX6 2).2.1 (TX6 2).2.2.1) := by decide +kernel
theorem wm_RX6_34 : lw_tbl[847]? = some (.methodLink RX6 34 yX7_belongUnder) := by decide +kernel
theorem wf_RX2_24 : lw_tbl[159]? = some (.fieldLink RX2 24 (TX2 1).1 (TX2 1).2.1 (TX2 1).2.2.1) := by decide +kernel
theorem wf_RX2_17 : lw_tbl[161]? = some (.fieldLink RX2 17 (TX2 2).1 (TX2 2).2.1 (TX2 2).2.2.1) := by decide +kernel
theorem wf_RX2_11 : lw_tbl[158]? = some (.fieldLink RX2 11 (TX2 0).1 (TX2 0).2.1 (TX2 0).2.2.1) := by decide +kernel
theorem wm_RX2_56 : lw_tbl[838]? = some (.methodLink RX2 56 yX6_suits) := by decide +kernel
theorem wn_RX2_39 : lw_tbl[848]? = some (.methodLinkNest RX2 39 yX10_with "Tagwranglery") := by decide +kernel
theorem wm_RX2_47 : lw_tbl[834]? = some (.methodLink RX2 47 yX2_findReceivers) := by decide +kernel
theorem wf_RX2_21 : lw_tbl[162]? = some (.fieldLink RX2 21 (TX2 3).1 (TX2 3).2.1 (TX2 3).2.2.1) := by decide +kernel
theorem wm_RX2_50 : lw_tbl[849]? = some (.methodLink RX2 50 yJ6_bitCount_0f7a4) := by decide +kernel
theorem wn_RX2_43 : lw_tbl[850]? = some (.methodLinkNest RX2 43 yX10_has "Tagwranglery") := by decide +kernel
theorem wm_RX2_31 : lw_tbl[830]? = some (.methodLink RX2 31 yX2_findWays) := by decide +kernel
theorem wm_RX2_35 : lw_tbl[851]? = some (.methodLink RX2 35 yX2_lowestReceiver) := by decide +kernel
