theorem wc_RX10_162 : lw_tbl[461]? = some (.classLink RX10 162 "java/lang/IndexOutOfBoundsException") := by decide +kernel
theorem wx_RX10_162 : lw_tbl[461]? = some (.classLink RX10 162 (am_xn 0)) := by decide +kernel
theorem wy_0 : lw_tbl[70]? = some (.initialized (am_xn 0)) := by decide +kernel
theorem ws_RX10_378 : lw_tbl[470]? = some (.stringRef RX10 378 "there is no such PERSON") := by decide +kernel
theorem at_RX10_166 : ∀ w ∈ vx_atS RX10 166 (am_xn 0) am_up9, w ∈ am_T := am_in_T (by decide +kernel) (by decide +kernel)
theorem gd_RX10_166 : ∀ w ∈ Cond.classLink RX10 162 (am_xn 0) :: Cond.initialized (am_xn 0) :: vx_atS RX10 166 (am_xn 0) am_up9, vx_ot w = true := by decide +kernel
theorem wm_RX10_82 : lw_tbl[458]? = some (.methodLink RX10 82 yX10_checkPerson) := by decide +kernel
theorem wf_RX10_15 : lw_tbl[227]? = some (.fieldLink RX10 15 (TX10 2).1 (TX10 2).2.1 (TX10 2).2.2.1) := by decide +kernel
theorem wf_RX10_88 : lw_tbl[209]? = some (.fieldLink RX10 88 (TX3 0).1 (TX3 0).2.1 (TX3 0).2.2.1) := by decide +kernel
theorem wm_RX10_91 : lw_tbl[478]? = some (.methodLink RX10 91 yX10_has) := by decide +kernel
theorem wm_RX10_95 : lw_tbl[269]? = some (.methodLink RX10 95 yX10_with) := by decide +kernel
theorem wc_RX10_66 : lw_tbl[366]? = some (.classLink RX10 66 "java/lang/IllegalArgumentException") := by decide +kernel
theorem wx_RX10_66 : lw_tbl[366]? = some (.classLink RX10 66 (am_xn 1)) := by decide +kernel
theorem wy_1 : lw_tbl[68]? = some (.initialized (am_xn 1)) := by decide +kernel
theorem ws_RX10_86 : lw_tbl[477]? = some (.stringRef RX10 86 "both are the same") := by decide +kernel
theorem at_RX10_70 : ∀ w ∈ vx_atS RX10 70 (am_xn 1) am_up9, w ∈ am_T := am_in_T (by decide +kernel) (by decide +kernel)
theorem gd_RX10_70 : ∀ w ∈ Cond.classLink RX10 66 (am_xn 1) :: Cond.initialized (am_xn 1) :: vx_atS RX10 70 (am_xn 1) am_up9, vx_ot w = true := by decide +kernel
theorem wm_RL_17 : lw_tbl[454]? = some (.methodLink RL 17 yX10_block) := by decide +kernel
theorem wx_RL_21 : lw_tbl[453]? = some (.classLink RL 21 (am_xn 0)) := by decide +kernel
theorem wca_0 : lw_tbl[463]? = some (.castable (am_xn 0) (am_xn 0)) := by decide +kernel
theorem wx_RL_13 : lw_tbl[360]? = some (.classLink RL 13 (am_xn 1)) := by decide +kernel
theorem wca_1 : lw_tbl[368]? = some (.castable (am_xn 1) (am_xn 1)) := by decide +kernel
theorem wf_RX10_327 : lw_tbl[237]? = some (.fieldLink RX10 327 (TX10 12).1 (TX10 12).2.1 (TX10 12).2.2.1) := by decide +kernel
theorem wf_RX10_61 : lw_tbl[236]? = some (.fieldLink RX10 61 (TX10 11).1 (TX10 11).2.1 (TX10 11).2.2.1) := by decide +kernel
theorem ws_RX10_386 : lw_tbl[973]? = some (.stringRef RX10 386 "there is no such comment") := by decide +kernel
theorem wm_RX10_318 : lw_tbl[969]? = some (.methodLink RX10 318 yX10_commentAt) := by decide +kernel
theorem wf_RX10_339 : lw_tbl[1007]? = some (.fieldLink RX10 339 (TX1 3).1 (TX1 3).2.1 (TX1 3).2.2.1) := by decide +kernel
theorem wf_RX10_342 : lw_tbl[1010]? = some (.fieldLink RX10 342 (TX1 5).1 (TX1 5).2.1 (TX1 5).2.2.1) := by decide +kernel
theorem wf_RX10_345 : lw_tbl[1008]? = some (.fieldLink RX10 345 (TX1 4).1 (TX1 4).2.1 (TX1 4).2.2.1) := by decide +kernel
theorem ws_RX10_232 : lw_tbl[765]? = some (.stringRef RX10 232 "what is out of range") := by decide +kernel
theorem wm_RL_110 : lw_tbl[1027]? = some (.methodLink RL 110 yX10_change) := by decide +kernel
theorem wf_RX10_104 : lw_tbl[229]? = some (.fieldLink RX10 104 (TX10 4).1 (TX10 4).2.1 (TX10 4).2.2.1) := by decide +kernel
theorem ws_RX10_384 : lw_tbl[565]? = some (.stringRef RX10 384 "there is no such WORK") := by decide +kernel
theorem wm_RX10_361 : lw_tbl[561]? = some (.methodLink RX10 361 yX10_checkWork) := by decide +kernel
theorem wf_RX10_21 : lw_tbl[228]? = some (.fieldLink RX10 21 (TX10 3).1 (TX10 3).2.1 (TX10 3).2.2.1) := by decide +kernel
theorem wm_RX10_112 : lw_tbl[557]? = some (.methodLink RX10 112 yX10_workAt) := by decide +kernel
theorem wf_RX10_133 : lw_tbl[511]? = some (.fieldLink RX10 133 (TX9 3).1 (TX9 3).2.1 (TX9 3).2.2.1) := by decide +kernel
theorem wf_RX10_138 : lw_tbl[509]? = some (.fieldLink RX10 138 (TX9 2).1 (TX9 2).2.1 (TX9 2).2.2.1) := by decide +kernel
theorem wf_RX10_73 : lw_tbl[225]? = some (.fieldLink RX10 73 (TX10 0).1 (TX10 0).2.1 (TX10 0).2.2.1) := by decide +kernel
theorem wc_RX10_77 : lw_tbl[434]? = some (.classLink RX10 77 "java/lang/IllegalStateException") := by decide +kernel
theorem wx_RX10_77 : lw_tbl[434]? = some (.classLink RX10 77 (am_xn 2)) := by decide +kernel
theorem wy_2 : lw_tbl[69]? = some (.initialized (am_xn 2)) := by decide +kernel
theorem ws_RX10_136 : lw_tbl[588]? = some (.stringRef RX10 136 "the WORK has 8 chapters") := by decide +kernel
theorem at_RX10_81 : ∀ w ∈ vx_atS RX10 81 (am_xn 2) am_up9, w ∈ am_T := am_in_T (by decide +kernel) (by decide +kernel)
theorem gd_RX10_81 : ∀ w ∈ Cond.classLink RX10 77 (am_xn 2) :: Cond.initialized (am_xn 2) :: vx_atS RX10 81 (am_xn 2) am_up9, vx_ot w = true := by decide +kernel
theorem wm_RL_37 : lw_tbl[584]? = some (.methodLink RL 37 yX10_chapter) := by decide +kernel
theorem wx_RL_15 : lw_tbl[361]? = some (.classLink RL 15 (am_xn 2)) := by decide +kernel
theorem wca_2 : lw_tbl[436]? = some (.castable (am_xn 2) (am_xn 2)) := by decide +kernel
theorem wf_RX10_156 : lw_tbl[231]? = some (.fieldLink RX10 156 (TX10 6).1 (TX10 6).2.1 (TX10 6).2.2.1) := by decide +kernel
theorem wf_RX10_167 : lw_tbl[517]? = some (.fieldLink RX10 167 (TX9 6).1 (TX9 6).2.1 (TX9 6).2.2.1) := by decide +kernel
theorem wf_RX10_27 : lw_tbl[230]? = some (.fieldLink RX10 27 (TX10 5).1 (TX10 5).2.1 (TX10 5).2.2.1) := by decide +kernel
theorem ws_RX10_171 : lw_tbl[639]? = some (.stringRef RX10 171 "the WORK is in a collection") := by decide +kernel
theorem ws_RX10_164 : lw_tbl[638]? = some (.stringRef RX10 164 "there is no such collection") := by decide +kernel
theorem wm_RL_50 : lw_tbl[634]? = some (.methodLink RL 50 yX10_collect) := by decide +kernel
theorem wm_RX0_1 : lw_tbl[621]? = some (.methodLink RX0 1 objectInit) := by decide +kernel
theorem wf_RX0_7 : lw_tbl[622]? = some (.fieldLink RX0 7 (TX0 0).1 (TX0 0).2.1 (TX0 0).2.2.1) := by decide +kernel
theorem wf_RX0_13 : lw_tbl[624]? = some (.fieldLink RX0 13 (TX0 1).1 (TX0 1).2.1 (TX0 1).2.2.1) := by decide +kernel
theorem wc_RX10_25 : lw_tbl[90]? = some (.classLink RX10 25 RX0) := by decide +kernel
theorem wi_RX0 : lw_tbl[617]? = some (.instantiable RX0 2) := by decide +kernel
theorem wz_RX0 : lw_tbl[73]? = some (.initialized RX0) := by decide +kernel
theorem wm_RX10_161 : lw_tbl[618]? = some (.methodLink RX10 161 yX0_init) := by decide +kernel
theorem ws_RX10_159 : lw_tbl[616]? = some (.stringRef RX10 159 "there are 6 collections") := by decide +kernel
theorem ws_RX10_154 : lw_tbl[615]? = some (.stringRef RX10 154 "opens or names is out of range") := by decide +kernel
theorem wm_RL_47 : lw_tbl[611]? = some (.methodLink RL 47 yX10_collection) := by decide +kernel
theorem ws_RX10_376 : lw_tbl[489]? = some (.stringRef RX10 376 "there is no such FACE") := by decide +kernel
theorem wm_RX10_455 : lw_tbl[983]? = some (.methodLink RX10 455 yX10_isBlockedBy) := by decide +kernel
theorem wf_RX9_19 : lw_tbl[506]? = some (.fieldLink RX9 19 (TX9 1).1 (TX9 1).2.1 (TX9 1).2.2.1) := by decide +kernel
theorem wn_RX9_25 : lw_tbl[571]? = some (.methodLinkNest RX9 25 yX10_has "Tagwranglery") := by decide +kernel
theorem wf_RX9_15 : lw_tbl[512]? = some (.fieldLink RX9 15 (TX9 4).1 (TX9 4).2.1 (TX9 4).2.2.1) := by decide +kernel
theorem wm_RX9_29 : lw_tbl[651]? = some (.methodLink RX9 29 yX9_isOwnedBy) := by decide +kernel
theorem wf_RX9_33 : lw_tbl[516]? = some (.fieldLink RX9 33 (TX9 6).1 (TX9 6).2.1 (TX9 6).2.2.1) := by decide +kernel
theorem wf_RX9_37 : lw_tbl[623]? = some (.fieldLink RX9 37 (TX0 0).1 (TX0 0).2.1 (TX0 0).2.2.1) := by decide +kernel
theorem wm_RX9_42 : lw_tbl[652]? = some (.methodLink RX9 42 yX9_isPosted) := by decide +kernel
theorem wf_RX9_46 : lw_tbl[514]? = some (.fieldLink RX9 46 (TX9 5).1 (TX9 5).2.1 (TX9 5).2.2.1) := by decide +kernel
theorem wm_RX10_173 : lw_tbl[647]? = some (.methodLink RX10 173 yX9_isSeenBy) := by decide +kernel
theorem wf_RX10_446 : lw_tbl[1004]? = some (.fieldLink RX10 446 (TX1 1).1 (TX1 1).2.1 (TX1 1).2.2.1) := by decide +kernel
theorem wm_RX10_125 : lw_tbl[567]? = some (.methodLink RX10 125 yX9_isOwnedBy) := by decide +kernel
theorem wf_RX1_24 : lw_tbl[1006]? = some (.fieldLink RX1 24 (TX1 3).1 (TX1 3).2.1 (TX1 3).2.2.1) := by decide +kernel
theorem wf_RX1_16 : lw_tbl[1005]? = some (.fieldLink RX1 16 (TX1 2).1 (TX1 2).2.1 (TX1 2).2.2.1) := by decide +kernel
theorem wf_RX10_116 : lw_tbl[507]? = some (.fieldLink RX10 116 (TX9 1).1 (TX9 1).2.1 (TX9 1).2.2.1) := by decide +kernel
theorem wm_RX10_449 : lw_tbl[979]? = some (.methodLink RX10 449 yX10_isBlockedByAny) := by decide +kernel
theorem wm_RX10_348 : lw_tbl[987]? = some (.methodLink RX10 348 yX10_isReadBy) := by decide +kernel
theorem wm_RX10_452 : lw_tbl[991]? = some (.methodLink RX10 452 yX1_isFrozenHereOrAbove) := by decide +kernel
theorem wm_RX1_1 : lw_tbl[1000]? = some (.methodLink RX1 1 objectInit) := by decide +kernel
theorem wf_RX1_7 : lw_tbl[1001]? = some (.fieldLink RX1 7 (TX1 0).1 (TX1 0).2.1 (TX1 0).2.2.1) := by decide +kernel
theorem wf_RX1_13 : lw_tbl[1003]? = some (.fieldLink RX1 13 (TX1 1).1 (TX1 1).2.1 (TX1 1).2.2.1) := by decide +kernel
theorem wf_RX1_20 : lw_tbl[1009]? = some (.fieldLink RX1 20 (TX1 5).1 (TX1 5).2.1 (TX1 5).2.2.1) := by decide +kernel
theorem wm_RX10_99 : lw_tbl[486]? = some (.methodLink RX10 99 yX10_checkFace) := by decide +kernel
theorem wf_RX10_322 : lw_tbl[1002]? = some (.fieldLink RX10 322 (TX1 0).1 (TX1 0).2.1 (TX1 0).2.2.1) := by decide +kernel
theorem ws_RX10_325 : lw_tbl[974]? = some (.stringRef RX10 325 "the comment is on another WORK") := by decide +kernel
theorem wm_RX10_330 : lw_tbl[975]? = some (.methodLink RX10 330 yX10_mayComment) := by decide +kernel
theorem wf_RX10_315 : lw_tbl[523]? = some (.fieldLink RX10 315 (TX9 10).1 (TX9 10).2.1 (TX9 10).2.2.1) := by decide +kernel
theorem wc_RX10_59 : lw_tbl[199]? = some (.classLink RX10 59 RX1) := by decide +kernel
theorem wi_RX1 : lw_tbl[996]? = some (.instantiable RX1 6) := by decide +kernel
theorem wz_RX1 : lw_tbl[77]? = some (.initialized RX1) := by decide +kernel
theorem wm_RX10_336 : lw_tbl[997]? = some (.methodLink RX10 336 yX1_init) := by decide +kernel
theorem ws_RX10_334 : lw_tbl[995]? = some (.stringRef RX10 334 "the FACE cannot comment there, or there are 60 comments") := by decide +kernel
theorem wm_RL_106 : lw_tbl[965]? = some (.methodLink RL 106 yX10_comment) := by decide +kernel
theorem wk_RJ6_265 : lw_tbl[353]? = some (.constant RJ6 265 (1431655765)) := by decide +kernel
theorem wk_RJ6_266 : lw_tbl[354]? = some (.constant RJ6 266 (858993459)) := by decide +kernel
theorem wk_RJ6_267 : lw_tbl[355]? = some (.constant RJ6 267 (252645135)) := by decide +kernel
theorem wn_RX3_27 : lw_tbl[1079]? = some (.methodLinkNest RX3 27 yX10_has "Tagwranglery") := by decide +kernel
theorem wf_RX3_15 : lw_tbl[212]? = some (.fieldLink RX3 15 (TX3 2).1 (TX3 2).2.1 (TX3 2).2.2.1) := by decide +kernel
theorem wm_RX3_31 : lw_tbl[1080]? = some (.methodLink RX3 31 Lib.Math.min.name) := by decide +kernel
theorem wms_min : lw_tbl[1081]? = some (.static Lib.Math.min.name) := by decide +kernel
theorem wmc_min : lw_tbl[1082]? = some (.code Lib.Math.min.name Lib.Math.min.code 2 (some .int)) := by decide +kernel
theorem wz_RJ9 : lw_tbl[75]? = some (.initialized RJ9) := by decide +kernel
theorem wf_RX9_9 : lw_tbl[508]? = some (.fieldLink RX9 9 (TX9 2).1 (TX9 2).2.1 (TX9 2).2.2.1) := by decide +kernel
theorem wm_RX9_56 : lw_tbl[896]? = some (.methodLink RX9 56 Lib.Math.max.name) := by decide +kernel
theorem wms_max : lw_tbl[897]? = some (.static Lib.Math.max.name) := by decide +kernel
theorem wmc_max : lw_tbl[898]? = some (.code Lib.Math.max.name Lib.Math.max.code 2 (some .int)) := by decide +kernel
theorem wf_RX9_62 : lw_tbl[510]? = some (.fieldLink RX9 62 (TX9 3).1 (TX9 3).2.1 (TX9 3).2.2.1) := by decide +kernel
theorem wm_RX9_65 : lw_tbl[892]? = some (.methodLink RX9 65 yX9_outDay) := by decide +kernel
theorem wn_RX9_69 : lw_tbl[1088]? = some (.methodLinkNest RX9 69 yX10_with "Tagwranglery") := by decide +kernel
theorem wf_RX9_50 : lw_tbl[625]? = some (.fieldLink RX9 50 (TX0 1).1 (TX0 1).2.1 (TX0 1).2.2.1) := by decide +kernel
theorem wm_RX9_53 : lw_tbl[664]? = some (.methodLink RX9 53 yX9_isSeenBy) := by decide +kernel
theorem wm_RX10_141 : lw_tbl[596]? = some (.methodLink RX10 141 yX9_isPosted) := by decide +kernel
theorem wf_RX10_367 : lw_tbl[211]? = some (.fieldLink RX10 367 (TX3 1).1 (TX3 1).2.1 (TX3 1).2.2.1) := by decide +kernel
theorem wm_RX10_176 : lw_tbl[660]? = some (.methodLink RX10 176 yX9_ownersToldTo) := by decide +kernel
theorem wm_RX10_458 : lw_tbl[1075]? = some (.methodLink RX10 458 yX3_firstDayOfAny) := by decide +kernel
theorem wm_RX10_461 : lw_tbl[1083]? = some (.methodLink RX10 461 Lib.Math.min.name) := by decide +kernel
theorem wm_RX10_466 : lw_tbl[1084]? = some (.methodLink RX10 466 yX9_chaptersOutFrom) := by decide +kernel
theorem wf_RX10_373 : lw_tbl[215]? = some (.fieldLink RX10 373 (TX3 3).1 (TX3 3).2.1 (TX3 3).2.2.1) := by decide +kernel
theorem wm_RX10_370 : lw_tbl[1071]? = some (.methodLink RX10 370 yX10_newChapters) := by decide +kernel
theorem wm_RX10_119 : lw_tbl[566]? = some (.methodLink RX10 119 yJ6_bitCount_0f7a4) := by decide +kernel
theorem wm_RL_129 : lw_tbl[1092]? = some (.methodLink RL 129 yX10_digest) := by decide +kernel
theorem ws_RX10_129 : lw_tbl[572]? = some (.stringRef RX10 129 "the PERSON cannot become an OWNER") := by decide +kernel
theorem wm_RL_31 : lw_tbl[553]? = some (.methodLink RL 31 yX10_join) := by decide +kernel
theorem wf_RX10_352 : lw_tbl[524]? = some (.fieldLink RX10 352 (TX9 11).1 (TX9 11).2.1 (TX9 11).2.2.1) := by decide +kernel
theorem wf_RX10_9 : lw_tbl[226]? = some (.fieldLink RX10 9 (TX10 1).1 (TX10 1).2.1 (TX10 1).2.2.1) := by decide +kernel
theorem wm_RX10_357 : lw_tbl[1046]? = some (.methodLink RX10 357 yX10_countKudos) := by decide +kernel
theorem ws_RX10_355 : lw_tbl[1045]? = some (.stringRef RX10 355 "the FACE cannot give kudos to the WORK") := by decide +kernel
theorem wm_RL_116 : lw_tbl[1041]? = some (.methodLink RL 116 yX10_kudos) := by decide +kernel
theorem ws_RX10_131 : lw_tbl[580]? = some (.stringRef RX10 131 "the PERSON is no OWNER of it") := by decide +kernel
theorem wm_RL_34 : lw_tbl[576]? = some (.methodLink RL 34 yX10_leave) := by decide +kernel
theorem wm_RL_119 : lw_tbl[1053]? = some (.methodLink RL 119 yX10_liked) := by decide +kernel
theorem wf_RX10_150 : lw_tbl[515]? = some (.fieldLink RX10 150 (TX9 5).1 (TX9 5).2.1 (TX9 5).2.2.1) := by decide +kernel
theorem wm_RL_43 : lw_tbl[604]? = some (.methodLink RL 43 yX10_lock) := by decide +kernel
theorem wf_RX10_34 : lw_tbl[232]? = some (.fieldLink RX10 34 (TX10 7).1 (TX10 7).2.1 (TX10 7).2.2.1) := by decide +kernel
theorem wf_RX10_180 : lw_tbl[99]? = some (.fieldLink RX10 180 (TX7 0).1 (TX7 0).2.1 (TX7 0).2.2.1) := by decide +kernel
theorem ws_RX10_380 : lw_tbl[688]? = some (.stringRef RX10 380 "there is no such TAG") := by decide +kernel
theorem wf_RX10_244 : lw_tbl[522]? = some (.fieldLink RX10 244 (TX9 9).1 (TX9 9).2.1 (TX9 9).2.2.1) := by decide +kernel
theorem wf_RX10_234 : lw_tbl[518]? = some (.fieldLink RX10 234 (TX9 7).1 (TX9 7).2.1 (TX9 7).2.2.1) := by decide +kernel
theorem wf_RX7_9 : lw_tbl[100]? = some (.fieldLink RX7 9 (TX7 1).1 (TX7 1).2.1 (TX7 1).2.2.1) := by decide +kernel
theorem wm_RX10_189 : lw_tbl[684]? = some (.methodLink RX10 189 yX10_checkTag) := by decide +kernel
theorem wm_RX10_192 : lw_tbl[689]? = some (.methodLink RX10 192 yX7_kindOf) := by decide +kernel
theorem wm_RX10_197 : lw_tbl[694]? = some (.methodLink RX10 197 yX7_makeMain) := by decide +kernel
theorem wm_RX10_200 : lw_tbl[698]? = some (.methodLink RX10 200 yX10_letTaggedWorksWait) := by decide +kernel
theorem ws_RX10_195 : lw_tbl[693]? = some (.stringRef RX10 195 "the TAG is MAIN") := by decide +kernel
theorem wm_RL_64 : lw_tbl[680]? = some (.methodLink RL 64 yX10_make) := by decide +kernel
