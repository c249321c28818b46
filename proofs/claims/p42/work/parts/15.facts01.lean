theorem wf_RX10_55 : lw_tbl[208]? = some (.fieldLink RX10 55 (TX10 10).1 (TX10 10).2.1 (TX10 10).2.2.1) := by decide +kernel
theorem wf_RX10_294 : lw_tbl[160]? = some (.fieldLink RX10 294 (TX2 1).1 (TX2 1).2.1 (TX2 1).2.2.1) := by decide +kernel
theorem wm_RX10_307 : lw_tbl[826]? = some (.methodLink RX10 307 yX2_receiverOf) := by decide +kernel
theorem ws_RX10_305 : lw_tbl[825]? = some (.stringRef RX10 305 "there is no such SIGN") := by decide +kernel
theorem wf_RX10_388 : lw_tbl[366]? = some (.fieldLink RX10 388 (TX9 8).1 (TX9 8).2.1 (TX9 8).2.2.1) := by decide +kernel
theorem wm_RX10_220 : lw_tbl[612]? = some (.methodLink RX10 220 yX7_meaningOf) := by decide +kernel
theorem wm_RX10_223 : lw_tbl[616]? = some (.methodLink RX10 223 yX7_aboveOf) := by decide +kernel
theorem wm_RX10_226 : lw_tbl[620]? = some (.methodLink RX10 226 yX10_countWith) := by decide +kernel
theorem wm_RX10_229 : lw_tbl[624]? = some (.methodLink RX10 229 yX10_countFiledUnder) := by decide +kernel
theorem ws_RX10_232 : lw_tbl[628]? = some (.stringRef RX10 232 "what is out of range") := by decide +kernel
theorem wf_RX9_73 : lw_tbl[365]? = some (.fieldLink RX9 73 (TX9 8).1 (TX9 8).2.1 (TX9 8).2.2.1) := by decide +kernel
theorem wf_RX9_76 : lw_tbl[367]? = some (.fieldLink RX9 76 (TX9 9).1 (TX9 9).2.1 (TX9 9).2.2.1) := by decide +kernel
theorem wm_RX10_236 : lw_tbl[633]? = some (.methodLink RX10 236 yX7_belongUnder) := by decide +kernel
theorem wm_RX10_239 : lw_tbl[637]? = some (.methodLink RX10 239 yX9_fileUnder) := by decide +kernel
theorem wf_RX4_9 : lw_tbl[98]? = some (.fieldLink RX4 9 (TX4 0).1 (TX4 0).2.1 (TX4 0).2.2.1) := by decide +kernel
theorem wf_RX4_15 : lw_tbl[99]? = some (.fieldLink RX4 15 (TX4 1).1 (TX4 1).2.1 (TX4 1).2.2.1) := by decide +kernel
theorem wf_RX4_19 : lw_tbl[100]? = some (.fieldLink RX4 19 (TX4 2).1 (TX4 2).2.1 (TX4 2).2.2.1) := by decide +kernel
theorem wm_RX4_32 : lw_tbl[702]? = some (.methodLink RX4 32 yX4_isFigure) := by decide +kernel
theorem wf_RX4_39 : lw_tbl[103]? = some (.fieldLink RX4 39 (TX4 4).1 (TX4 4).2.1 (TX4 4).2.2.1) := by decide +kernel
theorem wf_RX4_35 : lw_tbl[101]? = some (.fieldLink RX4 35 (TX4 3).1 (TX4 3).2.1 (TX4 3).2.2.1) := by decide +kernel
theorem wm_RX4_46 : lw_tbl[703]? = some (.methodLink RX4 46 yX4_greatestOf) := by decide +kernel
theorem wm_RX4_42 : lw_tbl[710]? = some (.methodLink RX4 42 yX4_figuresOf) := by decide +kernel
theorem wm_RX4_29 : lw_tbl[711]? = some (.methodLink RX4 29 yX4_takesLink) := by decide +kernel
theorem wm_RX4_26 : lw_tbl[706]? = some (.methodLink RX4 26 yX4_takesItem) := by decide +kernel
theorem wm_RX4_22 : lw_tbl[698]? = some (.methodLink RX4 22 yX4_takesFigure) := by decide +kernel
theorem wf_RX8_18 : lw_tbl[121]? = some (.fieldLink RX8 18 (TX8 2).1 (TX8 2).2.1 (TX8 2).2.2.1) := by decide +kernel
theorem wm_RX8_34 : lw_tbl[690]? = some (.methodLink RX8 34 yX4_start) := by decide +kernel
theorem wf_RX8_30 : lw_tbl[119]? = some (.fieldLink RX8 30 (TX8 1).1 (TX8 1).2.1 (TX8 1).2.2.1) := by decide +kernel
theorem wm_RX8_40 : lw_tbl[715]? = some (.methodLink RX8 40 yX4_isAtEnd) := by decide +kernel
theorem wf_RX8_9 : lw_tbl[117]? = some (.fieldLink RX8 9 (TX8 0).1 (TX8 0).2.1 (TX8 0).2.2.1) := by decide +kernel
theorem wm_RX8_37 : lw_tbl[694]? = some (.methodLink RX8 37 yX4_takes) := by decide +kernel
theorem wf_RX10_41 : lw_tbl[206]? = some (.fieldLink RX10 41 (TX10 8).1 (TX10 8).2.1 (TX10 8).2.2.1) := by decide +kernel
theorem wm_RX10_271 : lw_tbl[686]? = some (.methodLink RX10 271 yX8_firstFault) := by decide +kernel
theorem ws_RX10_382 : lw_tbl[719]? = some (.stringRef RX10 382 "the tape is no query") := by decide +kernel
theorem wm_RX9_56 : lw_tbl[781]? = some (.methodLink RX9 56 Lib.Math.max.name) := by decide +kernel
theorem wms_max : lw_tbl[782]? = some (.static Lib.Math.max.name) := by decide +kernel
theorem wmc_max : lw_tbl[783]? = some (.code Lib.Math.max.name Lib.Math.max.code 2 (some .int)) := by decide +kernel
theorem wz_RJ9 : lw_tbl[48]? = some (.initialized RJ9) := by decide +kernel
theorem wf_RX9_62 : lw_tbl[356]? = some (.fieldLink RX9 62 (TX9 3).1 (TX9 3).2.1 (TX9 3).2.2.1) := by decide +kernel
theorem wm_RX9_65 : lw_tbl[777]? = some (.methodLink RX9 65 yX9_outDay) := by decide +kernel
theorem wm_RX10_443 : lw_tbl[773]? = some (.methodLink RX10 443 yX9_latest) := by decide +kernel
theorem wm_RX10_247 : lw_tbl[650]? = some (.methodLink RX10 247 yX10_placesOf) := by decide +kernel
theorem wf_RX10_440 : lw_tbl[351]? = some (.fieldLink RX10 440 (TX9 0).1 (TX9 0).2.1 (TX9 0).2.2.1) := by decide +kernel
theorem wm_RX10_436 : lw_tbl[754]? = some (.methodLink RX10 436 yX10_isTagSo) := by decide +kernel
theorem wf_RX5_9 : lw_tbl[136]? = some (.fieldLink RX5 9 (TX5 0).1 (TX5 0).2.1 (TX5 0).2.2.1) := by decide +kernel
theorem wf_RX5_22 : lw_tbl[139]? = some (.fieldLink RX5 22 (TX5 3).1 (TX5 3).2.1 (TX5 3).2.2.1) := by decide +kernel
theorem wf_RX5_15 : lw_tbl[137]? = some (.fieldLink RX5 15 (TX5 1).1 (TX5 1).2.1 (TX5 1).2.2.1) := by decide +kernel
theorem wf_RX5_18 : lw_tbl[138]? = some (.fieldLink RX5 18 (TX5 2).1 (TX5 2).2.1 (TX5 2).2.2.1) := by decide +kernel
theorem wm_RX5_26 : lw_tbl[729]? = some (.methodLink RX5 26 yX5_clear) := by decide +kernel
theorem wm_RX5_29 : lw_tbl[738]? = some (.methodLink RX5 29 yX5_end) := by decide +kernel
theorem wm_RX5_33 : lw_tbl[742]? = some (.methodLink RX5 33 yX5_item) := by decide +kernel
theorem wf_RX10_393 : lw_tbl[122]? = some (.fieldLink RX10 393 (TX8 2).1 (TX8 2).2.1 (TX8 2).2.2.1) := by decide +kernel
theorem wm_RX10_397 : lw_tbl[724]? = some (.methodLink RX10 397 yX4_start) := by decide +kernel
theorem wf_RX10_48 : lw_tbl[207]? = some (.fieldLink RX10 48 (TX10 9).1 (TX10 9).2.1 (TX10 9).2.2.1) := by decide +kernel
theorem wm_RX10_402 : lw_tbl[725]? = some (.methodLink RX10 402 yX5_start) := by decide +kernel
theorem wf_RX10_263 : lw_tbl[120]? = some (.fieldLink RX10 263 (TX8 1).1 (TX8 1).2.1 (TX8 1).2.2.1) := by decide +kernel
theorem wm_RX10_430 : lw_tbl[759]? = some (.methodLink RX10 430 yX5_end) := by decide +kernel
theorem wm_RX10_433 : lw_tbl[760]? = some (.methodLink RX10 433 yX10_worksSeenBy) := by decide +kernel
theorem wf_RX10_403 : lw_tbl[118]? = some (.fieldLink RX10 403 (TX8 0).1 (TX8 0).2.1 (TX8 0).2.2.1) := by decide +kernel
theorem wm_RX10_407 : lw_tbl[733]? = some (.methodLink RX10 407 yX4_takes) := by decide +kernel
theorem wm_RX10_410 : lw_tbl[734]? = some (.methodLink RX10 410 yX5_mark) := by decide +kernel
theorem wm_RX10_413 : lw_tbl[746]? = some (.methodLink RX10 413 yX4_hasItem) := by decide +kernel
theorem wf_RX10_416 : lw_tbl[102]? = some (.fieldLink RX10 416 (TX4 3).1 (TX4 3).2.1 (TX4 3).2.2.1) := by decide +kernel
theorem wf_RX10_420 : lw_tbl[104]? = some (.fieldLink RX10 420 (TX4 4).1 (TX4 4).2.1 (TX4 4).2.2.1) := by decide +kernel
theorem wm_RX10_423 : lw_tbl[750]? = some (.methodLink RX10 423 yX10_worksOfItem) := by decide +kernel
theorem wm_RX10_427 : lw_tbl[758]? = some (.methodLink RX10 427 yX5_item) := by decide +kernel
theorem wm_RX10_274 : lw_tbl[682]? = some (.methodLink RX10 274 yX10_checkQuery) := by decide +kernel
theorem wm_RX10_277 : lw_tbl[720]? = some (.methodLink RX10 277 yX10_found) := by decide +kernel
theorem ws_RX10_281 : lw_tbl[768]? = some (.stringRef RX10 281 "place is below 0") := by decide +kernel
theorem wm_RX10_283 : lw_tbl[769]? = some (.methodLink RX10 283 yX10_countAheadOf) := by decide +kernel
theorem wf_RX2_28 : lw_tbl[804]? = some (.fieldLink RX2 28 (TX6 0).1 (TX6 0).2.1 (TX6 0).2.2.1) := by decide +kernel
theorem wm_RX6_1 : lw_tbl[802]? = some (.methodLink RX6 1 objectInit) := by decide +kernel
theorem wm_RX10_286 : lw_tbl[788]? = some (.methodLink RX10 286 yX10_isWithin) := by decide +kernel
theorem wm_RX10_291 : lw_tbl[792]? = some (.methodLink RX10 291 yX2_hasSignOf) := by decide +kernel
theorem wc_RX10_297 : lw_tbl[797]? = some (.classLink RX10 297 RX6) := by decide +kernel
theorem wi_RX6 : lw_tbl[798]? = some (.instantiable RX6 4) := by decide +kernel
theorem wz_RX6 : lw_tbl[49]? = some (.initialized RX6) := by decide +kernel
theorem wm_RX10_299 : lw_tbl[799]? = some (.methodLink RX10 299 yX6_init) := by decide +kernel
theorem wm_RX10_302 : lw_tbl[817]? = some (.methodLink RX10 302 yX2_add) := by decide +kernel
theorem ws_RX10_295 : lw_tbl[796]? = some (.stringRef RX10 295 "the PERSON has a SIGN, or there are 8") := by decide +kernel
theorem ws_RX10_289 : lw_tbl[791]? = some (.stringRef RX10 289 "a set has what there is not") := by decide +kernel
theorem wl_RX10_391 : lw_tbl[662]? = some (.constantLong RX10 391 (255)) := by decide +kernel
theorem wm_RX8_22 : lw_tbl[666]? = some (.methodLink RX8 22 yX4_isFigure) := by decide +kernel
theorem wm_RX8_26 : lw_tbl[669]? = some (.methodLink RX8 26 yX4_figuresOf) := by decide +kernel
theorem ws_RX10_266 : lw_tbl[673]? = some (.stringRef RX10 266 "the tape would have more than 60 characters") := by decide +kernel
theorem wm_RX10_253 : lw_tbl[659]? = some (.methodLink RX10 253 yX10_characterAt) := by decide +kernel
theorem wm_RX10_257 : lw_tbl[663]? = some (.methodLink RX10 257 yX8_holds) := by decide +kernel
theorem ws_RX10_261 : lw_tbl[672]? = some (.stringRef RX10 261 "a character cannot be on the tape") := by decide +kernel
theorem wm_RX10_268 : lw_tbl[674]? = some (.methodLink RX10 268 yX8_add) := by decide +kernel
theorem ws_RX10_251 : lw_tbl[658]? = some (.stringRef RX10 251 "n is out of range") := by decide +kernel
theorem ws_RX10_242 : lw_tbl[645]? = some (.stringRef RX10 242 "most is out of range") := by decide +kernel
theorem wm_RL_145 : lw_tbl[821]? = some (.methodLink RL 145 yX10_match) := by decide +kernel
theorem wm_RL_141 : lw_tbl[784]? = some (.methodLink RL 141 yX10_sign) := by decide +kernel
theorem wm_RL_138 : lw_tbl[764]? = some (.methodLink RL 138 yX10_result) := by decide +kernel
theorem wm_RL_131 : lw_tbl[654]? = some (.methodLink RL 131 yX10_type) := by decide +kernel
theorem wm_RL_124 : lw_tbl[641]? = some (.methodLink RL 124 yX10_wave) := by decide +kernel
theorem wm_RL_118 : lw_tbl[608]? = some (.methodLink RL 118 yX10_ofTag) := by decide +kernel
theorem wm_RL_121 : lw_tbl[629]? = some (.methodLink RL 121 yX10_put) := by decide +kernel
theorem wm_RL_127 : lw_tbl[646]? = some (.methodLink RL 127 yX10_under) := by decide +kernel
theorem wm_RL_135 : lw_tbl[678]? = some (.methodLink RL 135 yX10_search) := by decide +kernel
theorem wf_RX10_327 : lw_tbl[210]? = some (.fieldLink RX10 327 (TX10 12).1 (TX10 12).2.1 (TX10 12).2.2.1) := by decide +kernel
theorem wf_RX10_61 : lw_tbl[209]? = some (.fieldLink RX10 61 (TX10 11).1 (TX10 11).2.1 (TX10 11).2.2.1) := by decide +kernel
theorem ws_RX10_386 : lw_tbl[867]? = some (.stringRef RX10 386 "there is no such comment") := by decide +kernel
theorem wm_RX10_318 : lw_tbl[863]? = some (.methodLink RX10 318 yX10_commentAt) := by decide +kernel
theorem wf_RX10_339 : lw_tbl[901]? = some (.fieldLink RX10 339 (TX1 3).1 (TX1 3).2.1 (TX1 3).2.2.1) := by decide +kernel
theorem wf_RX10_342 : lw_tbl[904]? = some (.fieldLink RX10 342 (TX1 5).1 (TX1 5).2.1 (TX1 5).2.2.1) := by decide +kernel
theorem wf_RX10_345 : lw_tbl[902]? = some (.fieldLink RX10 345 (TX1 4).1 (TX1 4).2.1 (TX1 4).2.2.1) := by decide +kernel
theorem wm_RX10_455 : lw_tbl[877]? = some (.methodLink RX10 455 yX10_isBlockedBy) := by decide +kernel
theorem wf_RX10_446 : lw_tbl[898]? = some (.fieldLink RX10 446 (TX1 1).1 (TX1 1).2.1 (TX1 1).2.2.1) := by decide +kernel
theorem wf_RX1_24 : lw_tbl[900]? = some (.fieldLink RX1 24 (TX1 3).1 (TX1 3).2.1 (TX1 3).2.2.1) := by decide +kernel
theorem wf_RX1_16 : lw_tbl[899]? = some (.fieldLink RX1 16 (TX1 2).1 (TX1 2).2.1 (TX1 2).2.2.1) := by decide +kernel
theorem wm_RX10_449 : lw_tbl[873]? = some (.methodLink RX10 449 yX10_isBlockedByAny) := by decide +kernel
theorem wm_RX10_348 : lw_tbl[881]? = some (.methodLink RX10 348 yX10_isReadBy) := by decide +kernel
theorem wm_RX10_452 : lw_tbl[885]? = some (.methodLink RX10 452 yX1_isFrozenHereOrAbove) := by decide +kernel
theorem wm_RX1_1 : lw_tbl[894]? = some (.methodLink RX1 1 objectInit) := by decide +kernel
theorem wf_RX1_7 : lw_tbl[895]? = some (.fieldLink RX1 7 (TX1 0).1 (TX1 0).2.1 (TX1 0).2.2.1) := by decide +kernel
theorem wf_RX1_13 : lw_tbl[897]? = some (.fieldLink RX1 13 (TX1 1).1 (TX1 1).2.1 (TX1 1).2.2.1) := by decide +kernel
theorem wf_RX1_20 : lw_tbl[903]? = some (.fieldLink RX1 20 (TX1 5).1 (TX1 5).2.1 (TX1 5).2.2.1) := by decide +kernel
theorem wf_RX10_322 : lw_tbl[896]? = some (.fieldLink RX10 322 (TX1 0).1 (TX1 0).2.1 (TX1 0).2.2.1) := by decide +kernel
theorem ws_RX10_325 : lw_tbl[868]? = some (.stringRef RX10 325 "the comment is on another WORK") := by decide +kernel
theorem wm_RX10_330 : lw_tbl[869]? = some (.methodLink RX10 330 yX10_mayComment) := by decide +kernel
theorem wf_RX10_315 : lw_tbl[369]? = some (.fieldLink RX10 315 (TX9 10).1 (TX9 10).2.1 (TX9 10).2.2.1) := by decide +kernel
theorem wc_RX10_59 : lw_tbl[172]? = some (.classLink RX10 59 RX1) := by decide +kernel
theorem wi_RX1 : lw_tbl[890]? = some (.instantiable RX1 6) := by decide +kernel
theorem wz_RX1 : lw_tbl[50]? = some (.initialized RX1) := by decide +kernel
theorem wm_RX10_336 : lw_tbl[891]? = some (.methodLink RX10 336 yX1_init) := by decide +kernel
theorem ws_RX10_334 : lw_tbl[889]? = some (.stringRef RX10 334 "the FACE cannot comment there, or there are 60 comments") := by decide +kernel
theorem wn_RX3_27 : lw_tbl[955]? = some (.methodLinkNest RX3 27 yX10_has "Tagwranglery") := by decide +kernel
theorem wf_RX3_15 : lw_tbl[185]? = some (.fieldLink RX3 15 (TX3 2).1 (TX3 2).2.1 (TX3 2).2.2.1) := by decide +kernel
theorem wm_RX3_31 : lw_tbl[956]? = some (.methodLink RX3 31 Lib.Math.min.name) := by decide +kernel
theorem wms_min : lw_tbl[957]? = some (.static Lib.Math.min.name) := by decide +kernel
theorem wmc_min : lw_tbl[958]? = some (.code Lib.Math.min.name Lib.Math.min.code 2 (some .int)) := by decide +kernel
theorem wn_RX9_69 : lw_tbl[964]? = some (.methodLinkNest RX9 69 yX10_with "Tagwranglery") := by decide +kernel
theorem wf_RX10_367 : lw_tbl[184]? = some (.fieldLink RX10 367 (TX3 1).1 (TX3 1).2.1 (TX3 1).2.2.1) := by decide +kernel
theorem wm_RX10_458 : lw_tbl[951]? = some (.methodLink RX10 458 yX3_firstDayOfAny) := by decide +kernel
theorem wm_RX10_461 : lw_tbl[959]? = some (.methodLink RX10 461 Lib.Math.min.name) := by decide +kernel
theorem wm_RX10_466 : lw_tbl[960]? = some (.methodLink RX10 466 yX9_chaptersOutFrom) := by decide +kernel
theorem wf_RX10_373 : lw_tbl[188]? = some (.fieldLink RX10 373 (TX3 3).1 (TX3 3).2.1 (TX3 3).2.2.1) := by decide +kernel
theorem wm_RX10_370 : lw_tbl[947]? = some (.methodLink RX10 370 yX10_newChapters) := by decide +kernel
theorem wf_RX10_352 : lw_tbl[370]? = some (.fieldLink RX10 352 (TX9 11).1 (TX9 11).2.1 (TX9 11).2.2.1) := by decide +kernel
theorem wm_RX10_357 : lw_tbl[931]? = some (.methodLink RX10 357 yX10_countKudos) := by decide +kernel
theorem ws_RX10_355 : lw_tbl[930]? = some (.stringRef RX10 355 "the FACE cannot give kudos to the WORK") := by decide +kernel
theorem wf_RX10_364 : lw_tbl[186]? = some (.fieldLink RX10 364 (TX3 2).1 (TX3 2).2.1 (TX3 2).2.2.1) := by decide +kernel
theorem wm_RL_54 : lw_tbl[965]? = some (.methodLink RL 54 yX10_digest) := by decide +kernel
theorem wk_RL_59 : lw_tbl[969]? = some (.constant RL 59 (-2100000000)) := by decide +kernel
theorem wx_RL_57 : lw_tbl[418]? = some (.classLink RL 57 (am_xn 0)) := by decide +kernel
theorem wca_0 : lw_tbl[247]? = some (.castable (am_xn 0) (am_xn 0)) := by decide +kernel
theorem wx_RL_60 : lw_tbl[419]? = some (.classLink RL 60 (am_xn 1)) := by decide +kernel
theorem wca_1 : lw_tbl[315]? = some (.castable (am_xn 1) (am_xn 1)) := by decide +kernel
theorem wx_RL_62 : lw_tbl[420]? = some (.classLink RL 62 (am_xn 2)) := by decide +kernel
