theorem wf_RX7_21 : lw_tbl[98]? = some (.fieldLink RX7 21 (TX7 0).1 (TX7 0).2.1 (TX7 0).2.2.1) := by decide +kernel
theorem wn_RX7_25 : lw_tbl[344]? = some (.methodLinkNest RX7 25 yX10_has "Tagwranglery") := by decide +kernel
theorem wf_RX7_18 : lw_tbl[102]? = some (.fieldLink RX7 18 (TX7 3).1 (TX7 3).2.1 (TX7 3).2.2.1) := by decide +kernel
theorem wf_RX6_19 : lw_tbl[925]? = some (.fieldLink RX6 19 (TX6 3).1 (TX6 3).2.1 (TX6 3).2.2.1) := by decide +kernel
theorem wf_RX6_7 : lw_tbl[921]? = some (.fieldLink RX6 7 (TX6 0).1 (TX6 0).2.1 (TX6 0).2.2.1) := by decide +kernel
theorem wn_RX6_22 : lw_tbl[337]? = some (.methodLinkNest RX6 22 yX10_has "Tagwranglery") := by decide +kernel
theorem wf_RX6_13 : lw_tbl[923]? = some (.fieldLink RX6 13 (TX6 1).1 (TX6 1).2.1 (TX6 1).2.2.1) := by decide +kernel
theorem wm_RX6_28 : lw_tbl[340]? = some (.methodLink RX6 28 yX7_meaningsOf) := by decide +kernel
theorem wf_RX6_16 : lw_tbl[924]? = some (.fieldLink RX6 16 (TX6 2).1 (TX6 2).2.1 (TX6 2).2.2.1) := by decide +kernel
theorem wm_RX6_34 : lw_tbl[345]? = some (.methodLink RX6 34 yX7_belongUnder) := by decide +kernel
theorem wf_RX2_24 : lw_tbl[186]? = some (.fieldLink RX2 24 (TX2 1).1 (TX2 1).2.1 (TX2 1).2.2.1) := by decide +kernel
theorem wf_RX2_17 : lw_tbl[188]? = some (.fieldLink RX2 17 (TX2 2).1 (TX2 2).2.1 (TX2 2).2.2.1) := by decide +kernel
theorem wf_RX2_11 : lw_tbl[185]? = some (.fieldLink RX2 11 (TX2 0).1 (TX2 0).2.1 (TX2 0).2.2.1) := by decide +kernel
theorem wm_RX2_56 : lw_tbl[333]? = some (.methodLink RX2 56 yX6_suits) := by decide +kernel
theorem wn_RX2_39 : lw_tbl[349]? = some (.methodLinkNest RX2 39 yX10_with "Tagwranglery") := by decide +kernel
theorem wm_RX2_47 : lw_tbl[329]? = some (.methodLink RX2 47 yX2_findReceivers) := by decide +kernel
theorem wf_RX2_21 : lw_tbl[189]? = some (.fieldLink RX2 21 (TX2 3).1 (TX2 3).2.1 (TX2 3).2.2.1) := by decide +kernel
theorem wm_RX2_50 : lw_tbl[350]? = some (.methodLink RX2 50 yJ6_bitCount_0f7a4) := by decide +kernel
theorem wn_RX2_43 : lw_tbl[356]? = some (.methodLinkNest RX2 43 yX10_has "Tagwranglery") := by decide +kernel
theorem wm_RX2_31 : lw_tbl[325]? = some (.methodLink RX2 31 yX2_findWays) := by decide +kernel
theorem wm_RX2_35 : lw_tbl[951]? = some (.methodLink RX2 35 yX2_lowestReceiver) := by decide +kernel
theorem wf_RX10_55 : lw_tbl[235]? = some (.fieldLink RX10 55 (TX10 10).1 (TX10 10).2.1 (TX10 10).2.2.1) := by decide +kernel
theorem wf_RX10_294 : lw_tbl[187]? = some (.fieldLink RX10 294 (TX2 1).1 (TX2 1).2.1 (TX2 1).2.2.1) := by decide +kernel
theorem wm_RX10_307 : lw_tbl[947]? = some (.methodLink RX10 307 yX2_receiverOf) := by decide +kernel
theorem ws_RX10_305 : lw_tbl[946]? = some (.stringRef RX10 305 "there is no such SIGN") := by decide +kernel
theorem wm_RL_100 : lw_tbl[942]? = some (.methodLink RL 100 yX10_match) := by decide +kernel
theorem wf_RX7_15 : lw_tbl[101]? = some (.fieldLink RX7 15 (TX7 2).1 (TX7 2).2.1 (TX7 2).2.2.1) := by decide +kernel
theorem wm_RX7_36 : lw_tbl[723]? = some (.methodLink RX7 36 arraycopyName) := by decide +kernel
theorem wcp_n : lw_tbl[725]? = some (.native arraycopyName) := by decide +kernel
theorem wcp_s : lw_tbl[724]? = some (.static arraycopyName) := by decide +kernel
theorem wz_RJ10 : lw_tbl[74]? = some (.initialized RJ10) := by decide +kernel
theorem wm_RX7_33 : lw_tbl[719]? = some (.methodLink RX7 33 yX7_findAbove) := by decide +kernel
theorem wn_RX7_29 : lw_tbl[718]? = some (.methodLinkNest RX7 29 yX10_with "Tagwranglery") := by decide +kernel
theorem wm_RX10_203 : lw_tbl[709]? = some (.methodLink RX10 203 yX7_isAbove) := by decide +kernel
theorem wm_RX10_208 : lw_tbl[714]? = some (.methodLink RX10 208 yX7_makeAlias) := by decide +kernel
theorem ws_RX10_206 : lw_tbl[713]? = some (.stringRef RX10 206 "the TAG cannot become an ALIAS of the other one") := by decide +kernel
theorem wm_RL_67 : lw_tbl[705]? = some (.methodLink RL 67 yX10_merge) := by decide +kernel
theorem wm_RL_126 : lw_tbl[1067]? = some (.methodLink RL 126 yX10_news) := by decide +kernel
theorem wf_RX10_388 : lw_tbl[520]? = some (.fieldLink RX10 388 (TX9 8).1 (TX9 8).2.1 (TX9 8).2.2.1) := by decide +kernel
theorem wm_RX10_220 : lw_tbl[749]? = some (.methodLink RX10 220 yX7_meaningOf) := by decide +kernel
theorem wm_RX10_223 : lw_tbl[753]? = some (.methodLink RX10 223 yX7_aboveOf) := by decide +kernel
theorem wm_RX10_226 : lw_tbl[757]? = some (.methodLink RX10 226 yX10_countWith) := by decide +kernel
theorem wm_RX10_229 : lw_tbl[761]? = some (.methodLink RX10 229 yX10_countFiledUnder) := by decide +kernel
theorem wm_RL_73 : lw_tbl[745]? = some (.methodLink RL 73 yX10_ofTag) := by decide +kernel
theorem wm_RL_57 : lw_tbl[656]? = some (.methodLink RL 57 yX10_owners) := by decide +kernel
theorem wm_RX10_213 : lw_tbl[734]? = some (.methodLink RX10 213 yX7_isParent) := by decide +kernel
theorem wm_RX10_216 : lw_tbl[738]? = some (.methodLink RX10 216 yX7_setParent) := by decide +kernel
theorem ws_RX10_211 : lw_tbl[733]? = some (.stringRef RX10 211 "the other one cannot be told to be a PARENT, or none") := by decide +kernel
theorem wm_RL_70 : lw_tbl[729]? = some (.methodLink RL 70 yX10_parent) := by decide +kernel
theorem ws_RX10_79 : lw_tbl[443]? = some (.stringRef RX10 79 "the DAY would be above 2000") := by decide +kernel
theorem ws_RX10_68 : lw_tbl[407]? = some (.stringRef RX10 68 "days is out of range") := by decide +kernel
theorem wm_RL_7 : lw_tbl[362]? = some (.methodLink RL 7 yX10_pass) := by decide +kernel
theorem wf_RX10_147 : lw_tbl[513]? = some (.fieldLink RX10 147 (TX9 4).1 (TX9 4).2.1 (TX9 4).2.2.1) := by decide +kernel
theorem ws_RX10_145 : lw_tbl[600]? = some (.stringRef RX10 145 "the WORK is POSTED, or has no chapter") := by decide +kernel
theorem wm_RL_40 : lw_tbl[592]? = some (.methodLink RL 40 yX10_post) := by decide +kernel
theorem wf_RX9_73 : lw_tbl[519]? = some (.fieldLink RX9 73 (TX9 8).1 (TX9 8).2.1 (TX9 8).2.2.1) := by decide +kernel
theorem wf_RX9_76 : lw_tbl[521]? = some (.fieldLink RX9 76 (TX9 9).1 (TX9 9).2.1 (TX9 9).2.2.1) := by decide +kernel
theorem wm_RX10_236 : lw_tbl[773]? = some (.methodLink RX10 236 yX7_belongUnder) := by decide +kernel
theorem wm_RX10_239 : lw_tbl[774]? = some (.methodLink RX10 239 yX9_fileUnder) := by decide +kernel
theorem wm_RL_76 : lw_tbl[769]? = some (.methodLink RL 76 yX10_put) := by decide +kernel
theorem wm_RL_113 : lw_tbl[1034]? = some (.methodLink RL 113 yX10_reads) := by decide +kernel
theorem wf_RX4_9 : lw_tbl[125]? = some (.fieldLink RX4 9 (TX4 0).1 (TX4 0).2.1 (TX4 0).2.2.1) := by decide +kernel
theorem wf_RX4_15 : lw_tbl[126]? = some (.fieldLink RX4 15 (TX4 1).1 (TX4 1).2.1 (TX4 1).2.2.1) := by decide +kernel
theorem wf_RX4_19 : lw_tbl[127]? = some (.fieldLink RX4 19 (TX4 2).1 (TX4 2).2.1 (TX4 2).2.2.1) := by decide +kernel
theorem wm_RX4_32 : lw_tbl[296]? = some (.methodLink RX4 32 yX4_isFigure) := by decide +kernel
theorem wf_RX4_39 : lw_tbl[130]? = some (.fieldLink RX4 39 (TX4 4).1 (TX4 4).2.1 (TX4 4).2.2.1) := by decide +kernel
theorem wf_RX4_35 : lw_tbl[128]? = some (.fieldLink RX4 35 (TX4 3).1 (TX4 3).2.1 (TX4 3).2.2.1) := by decide +kernel
theorem wm_RX4_46 : lw_tbl[299]? = some (.methodLink RX4 46 yX4_greatestOf) := by decide +kernel
theorem wm_RX4_42 : lw_tbl[306]? = some (.methodLink RX4 42 yX4_figuresOf) := by decide +kernel
theorem wm_RX4_29 : lw_tbl[309]? = some (.methodLink RX4 29 yX4_takesLink) := by decide +kernel
theorem wm_RX4_26 : lw_tbl[302]? = some (.methodLink RX4 26 yX4_takesItem) := by decide +kernel
theorem wm_RX4_22 : lw_tbl[292]? = some (.methodLink RX4 22 yX4_takesFigure) := by decide +kernel
theorem wf_RX8_18 : lw_tbl[148]? = some (.fieldLink RX8 18 (TX8 2).1 (TX8 2).2.1 (TX8 2).2.2.1) := by decide +kernel
theorem wm_RX8_34 : lw_tbl[284]? = some (.methodLink RX8 34 yX4_start) := by decide +kernel
theorem wf_RX8_30 : lw_tbl[146]? = some (.fieldLink RX8 30 (TX8 1).1 (TX8 1).2.1 (TX8 1).2.2.1) := by decide +kernel
theorem wm_RX8_40 : lw_tbl[313]? = some (.methodLink RX8 40 yX4_isAtEnd) := by decide +kernel
theorem wf_RX8_9 : lw_tbl[144]? = some (.fieldLink RX8 9 (TX8 0).1 (TX8 0).2.1 (TX8 0).2.2.1) := by decide +kernel
theorem wm_RX8_37 : lw_tbl[288]? = some (.methodLink RX8 37 yX4_takes) := by decide +kernel
theorem wf_RX10_41 : lw_tbl[233]? = some (.fieldLink RX10 41 (TX10 8).1 (TX10 8).2.1 (TX10 8).2.2.1) := by decide +kernel
theorem wm_RX10_271 : lw_tbl[280]? = some (.methodLink RX10 271 yX8_firstFault) := by decide +kernel
theorem ws_RX10_382 : lw_tbl[831]? = some (.stringRef RX10 382 "the tape is no query") := by decide +kernel
theorem wm_RX10_443 : lw_tbl[888]? = some (.methodLink RX10 443 yX9_latest) := by decide +kernel
theorem wm_RX10_247 : lw_tbl[793]? = some (.methodLink RX10 247 yX10_placesOf) := by decide +kernel
theorem wf_RX10_440 : lw_tbl[505]? = some (.fieldLink RX10 440 (TX9 0).1 (TX9 0).2.1 (TX9 0).2.2.1) := by decide +kernel
theorem wm_RX10_436 : lw_tbl[866]? = some (.methodLink RX10 436 yX10_isTagSo) := by decide +kernel
theorem wf_RX5_9 : lw_tbl[163]? = some (.fieldLink RX5 9 (TX5 0).1 (TX5 0).2.1 (TX5 0).2.2.1) := by decide +kernel
theorem wf_RX5_22 : lw_tbl[166]? = some (.fieldLink RX5 22 (TX5 3).1 (TX5 3).2.1 (TX5 3).2.2.1) := by decide +kernel
theorem wf_RX5_15 : lw_tbl[164]? = some (.fieldLink RX5 15 (TX5 1).1 (TX5 1).2.1 (TX5 1).2.2.1) := by decide +kernel
theorem wf_RX5_18 : lw_tbl[165]? = some (.fieldLink RX5 18 (TX5 2).1 (TX5 2).2.1 (TX5 2).2.2.1) := by decide +kernel
theorem wm_RX5_26 : lw_tbl[841]? = some (.methodLink RX5 26 yX5_clear) := by decide +kernel
theorem wm_RX5_29 : lw_tbl[850]? = some (.methodLink RX5 29 yX5_end) := by decide +kernel
theorem wm_RX5_33 : lw_tbl[854]? = some (.methodLink RX5 33 yX5_item) := by decide +kernel
theorem wf_RX10_393 : lw_tbl[149]? = some (.fieldLink RX10 393 (TX8 2).1 (TX8 2).2.1 (TX8 2).2.2.1) := by decide +kernel
theorem wm_RX10_397 : lw_tbl[836]? = some (.methodLink RX10 397 yX4_start) := by decide +kernel
theorem wf_RX10_48 : lw_tbl[234]? = some (.fieldLink RX10 48 (TX10 9).1 (TX10 9).2.1 (TX10 9).2.2.1) := by decide +kernel
theorem wm_RX10_402 : lw_tbl[837]? = some (.methodLink RX10 402 yX5_start) := by decide +kernel
theorem wf_RX10_263 : lw_tbl[147]? = some (.fieldLink RX10 263 (TX8 1).1 (TX8 1).2.1 (TX8 1).2.2.1) := by decide +kernel
theorem wm_RX10_430 : lw_tbl[871]? = some (.methodLink RX10 430 yX5_end) := by decide +kernel
theorem wm_RX10_433 : lw_tbl[872]? = some (.methodLink RX10 433 yX10_worksSeenBy) := by decide +kernel
theorem wf_RX10_403 : lw_tbl[145]? = some (.fieldLink RX10 403 (TX8 0).1 (TX8 0).2.1 (TX8 0).2.2.1) := by decide +kernel
theorem wm_RX10_407 : lw_tbl[845]? = some (.methodLink RX10 407 yX4_takes) := by decide +kernel
theorem wm_RX10_410 : lw_tbl[846]? = some (.methodLink RX10 410 yX5_mark) := by decide +kernel
theorem wm_RX10_413 : lw_tbl[858]? = some (.methodLink RX10 413 yX4_hasItem) := by decide +kernel
theorem wf_RX10_416 : lw_tbl[129]? = some (.fieldLink RX10 416 (TX4 3).1 (TX4 3).2.1 (TX4 3).2.2.1) := by decide +kernel
theorem wf_RX10_420 : lw_tbl[131]? = some (.fieldLink RX10 420 (TX4 4).1 (TX4 4).2.1 (TX4 4).2.2.1) := by decide +kernel
theorem wm_RX10_423 : lw_tbl[862]? = some (.methodLink RX10 423 yX10_worksOfItem) := by decide +kernel
theorem wm_RX10_427 : lw_tbl[870]? = some (.methodLink RX10 427 yX5_item) := by decide +kernel
theorem wm_RX10_274 : lw_tbl[827]? = some (.methodLink RX10 274 yX10_checkQuery) := by decide +kernel
theorem wm_RX10_277 : lw_tbl[832]? = some (.methodLink RX10 277 yX10_found) := by decide +kernel
theorem ws_RX10_281 : lw_tbl[883]? = some (.stringRef RX10 281 "place is below 0") := by decide +kernel
theorem wm_RX10_283 : lw_tbl[884]? = some (.methodLink RX10 283 yX10_countAheadOf) := by decide +kernel
theorem wm_RL_93 : lw_tbl[879]? = some (.methodLink RL 93 yX10_result) := by decide +kernel
theorem wm_RL_23 : lw_tbl[482]? = some (.methodLink RL 23 yX10_same) := by decide +kernel
theorem wm_RL_103 : lw_tbl[958]? = some (.methodLink RL 103 yX10_screen) := by decide +kernel
theorem wm_RL_90 : lw_tbl[823]? = some (.methodLink RL 90 yX10_search) := by decide +kernel
theorem wm_RL_54 : lw_tbl[643]? = some (.methodLink RL 54 yX10_sees) := by decide +kernel
theorem wf_RX2_28 : lw_tbl[922]? = some (.fieldLink RX2 28 (TX6 0).1 (TX6 0).2.1 (TX6 0).2.2.1) := by decide +kernel
theorem wm_RX6_1 : lw_tbl[920]? = some (.methodLink RX6 1 objectInit) := by decide +kernel
theorem wm_RX10_286 : lw_tbl[906]? = some (.methodLink RX10 286 yX10_isWithin) := by decide +kernel
theorem wm_RX10_291 : lw_tbl[910]? = some (.methodLink RX10 291 yX2_hasSignOf) := by decide +kernel
theorem wc_RX10_297 : lw_tbl[915]? = some (.classLink RX10 297 RX6) := by decide +kernel
theorem wi_RX6 : lw_tbl[916]? = some (.instantiable RX6 4) := by decide +kernel
theorem wz_RX6 : lw_tbl[76]? = some (.initialized RX6) := by decide +kernel
theorem wm_RX10_299 : lw_tbl[917]? = some (.methodLink RX10 299 yX6_init) := by decide +kernel
theorem wm_RX10_302 : lw_tbl[935]? = some (.methodLink RX10 302 yX2_add) := by decide +kernel
theorem ws_RX10_295 : lw_tbl[914]? = some (.stringRef RX10 295 "the PERSON has a SIGN, or there are 8") := by decide +kernel
theorem ws_RX10_289 : lw_tbl[909]? = some (.stringRef RX10 289 "a set has what there is not") := by decide +kernel
theorem wm_RL_96 : lw_tbl[902]? = some (.methodLink RL 96 yX10_sign) := by decide +kernel
theorem wf_RX10_364 : lw_tbl[213]? = some (.fieldLink RX10 364 (TX3 2).1 (TX3 2).2.1 (TX3 2).2.2.1) := by decide +kernel
theorem wm_RL_122 : lw_tbl[1060]? = some (.methodLink RL 122 yX10_subscribe) := by decide +kernel
theorem wm_RX10_185 : lw_tbl[673]? = some (.methodLink RX10 185 yX7_add) := by decide +kernel
theorem ws_RX10_183 : lw_tbl[672]? = some (.stringRef RX10 183 "there are 30 TAGS") := by decide +kernel
theorem wm_RL_60 : lw_tbl[668]? = some (.methodLink RL 60 yX10_tag) := by decide +kernel
theorem wl_RX10_391 : lw_tbl[808]? = some (.constantLong RX10 391 (255)) := by decide +kernel
theorem wm_RX8_22 : lw_tbl[812]? = some (.methodLink RX8 22 yX4_isFigure) := by decide +kernel
theorem wm_RX8_26 : lw_tbl[813]? = some (.methodLink RX8 26 yX4_figuresOf) := by decide +kernel
theorem ws_RX10_266 : lw_tbl[815]? = some (.stringRef RX10 266 "the tape would have more than 60 characters") := by decide +kernel
theorem wm_RX10_253 : lw_tbl[805]? = some (.methodLink RX10 253 yX10_characterAt) := by decide +kernel
theorem wm_RX10_257 : lw_tbl[809]? = some (.methodLink RX10 257 yX8_holds) := by decide +kernel
theorem ws_RX10_261 : lw_tbl[814]? = some (.stringRef RX10 261 "a character cannot be on the tape") := by decide +kernel
theorem wm_RX10_268 : lw_tbl[816]? = some (.methodLink RX10 268 yX8_add) := by decide +kernel
theorem ws_RX10_251 : lw_tbl[804]? = some (.stringRef RX10 251 "n is out of range") := by decide +kernel
theorem wm_RL_86 : lw_tbl[800]? = some (.methodLink RL 86 yX10_type) := by decide +kernel
theorem wm_RL_82 : lw_tbl[789]? = some (.methodLink RL 82 yX10_under) := by decide +kernel
theorem ws_RX10_242 : lw_tbl[785]? = some (.stringRef RX10 242 "most is out of range") := by decide +kernel
theorem wm_RL_79 : lw_tbl[781]? = some (.methodLink RL 79 yX10_wave) := by decide +kernel
theorem wm_RX9_3 : lw_tbl[503]? = some (.methodLink RX9 3 objectInit) := by decide +kernel
theorem wa_int : lw_tbl[112]? = some (.arrayClass .int) := by decide +kernel
theorem wf_RX9_22 : lw_tbl[504]? = some (.fieldLink RX9 22 (TX9 0).1 (TX9 0).2.1 (TX9 0).2.2.1) := by decide +kernel
theorem wc_RX10_19 : lw_tbl[88]? = some (.classLink RX10 19 RX9) := by decide +kernel
