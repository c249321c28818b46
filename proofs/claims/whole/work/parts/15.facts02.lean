theorem wi_RX9 : lw_tbl[499]? = some (.instantiable RX9 12) := by decide +kernel
theorem wz_RX9 : lw_tbl[71]? = some (.initialized RX9) := by decide +kernel
theorem wm_RX10_109 : lw_tbl[500]? = some (.methodLink RX10 109 yX9_init) := by decide +kernel
theorem ws_RX10_107 : lw_tbl[498]? = some (.stringRef RX10 107 "there are 20 WORKS") := by decide +kernel
theorem ws_RX10_102 : lw_tbl[497]? = some (.stringRef RX10 102 "rating is out of range") := by decide +kernel
theorem wm_RL_27 : lw_tbl[493]? = some (.methodLink RL 27 yX10_work) := by decide +kernel
theorem wm_RX2_3 : lw_tbl[182]? = some (.methodLink RX2 3 objectInit) := by decide +kernel
theorem wo_RX6 : lw_tbl[184]? = some (.arrayOver (.object RX6)) := by decide +kernel
theorem wc_RX2_9 : lw_tbl[183]? = some (.classLink RX2 9 RX6) := by decide +kernel
theorem wm_RX3_3 : lw_tbl[205]? = some (.methodLink RX3 3 objectInit) := by decide +kernel
theorem wf_RX3_9 : lw_tbl[210]? = some (.fieldLink RX3 9 (TX3 1).1 (TX3 1).2.1 (TX3 1).2.2.1) := by decide +kernel
theorem wf_RX3_18 : lw_tbl[214]? = some (.fieldLink RX3 18 (TX3 3).1 (TX3 3).2.1 (TX3 3).2.2.1) := by decide +kernel
theorem wm_RX3_21 : lw_tbl[206]? = some (.methodLink RX3 21 yJ7_fill_53178) := by decide +kernel
theorem wm_RX5_3 : lw_tbl[162]? = some (.methodLink RX5 3 objectInit) := by decide +kernel
theorem wa_boolean : lw_tbl[176]? = some (.arrayClass .boolean) := by decide +kernel
theorem wm_RX7_3 : lw_tbl[97]? = some (.methodLink RX7 3 objectInit) := by decide +kernel
theorem wm_RX4_3 : lw_tbl[124]? = some (.methodLink RX4 3 objectInit) := by decide +kernel
theorem wm_RX8_3 : lw_tbl[118]? = some (.methodLink RX8 3 objectInit) := by decide +kernel
theorem wa_char : lw_tbl[143]? = some (.arrayClass .char) := by decide +kernel
theorem wc_RX8_15 : lw_tbl[119]? = some (.classLink RX8 15 RX4) := by decide +kernel
theorem wi_RX4 : lw_tbl[120]? = some (.instantiable RX4 5) := by decide +kernel
theorem wz_RX4 : lw_tbl[59]? = some (.initialized RX4) := by decide +kernel
theorem wn_RX8_17 : lw_tbl[121]? = some (.methodLinkNest RX8 17 yX4_init "Tagwranglery") := by decide +kernel
theorem wm_RX10_3 : lw_tbl[83]? = some (.methodLink RX10 3 objectInit) := by decide +kernel
theorem wo_RX3 : lw_tbl[87]? = some (.arrayOver (.object RX3)) := by decide +kernel
theorem wc_RX10_13 : lw_tbl[86]? = some (.classLink RX10 13 RX3) := by decide +kernel
theorem wo_RX9 : lw_tbl[89]? = some (.arrayOver (.object RX9)) := by decide +kernel
theorem wo_RX0 : lw_tbl[91]? = some (.arrayOver (.object RX0)) := by decide +kernel
theorem wc_RX10_31 : lw_tbl[92]? = some (.classLink RX10 31 RX7) := by decide +kernel
theorem wi_RX7 : lw_tbl[93]? = some (.instantiable RX7 4) := by decide +kernel
theorem wz_RX7 : lw_tbl[57]? = some (.initialized RX7) := by decide +kernel
theorem wn_RX10_33 : lw_tbl[94]? = some (.methodLinkNest RX10 33 yX7_init "Tagwranglery") := by decide +kernel
theorem wc_RX10_38 : lw_tbl[113]? = some (.classLink RX10 38 RX8) := by decide +kernel
theorem wi_RX8 : lw_tbl[114]? = some (.instantiable RX8 3) := by decide +kernel
theorem wz_RX8 : lw_tbl[58]? = some (.initialized RX8) := by decide +kernel
theorem wn_RX10_40 : lw_tbl[115]? = some (.methodLinkNest RX10 40 yX8_init "Tagwranglery") := by decide +kernel
theorem wc_RX10_45 : lw_tbl[157]? = some (.classLink RX10 45 RX5) := by decide +kernel
theorem wi_RX5 : lw_tbl[158]? = some (.instantiable RX5 4) := by decide +kernel
theorem wz_RX5 : lw_tbl[60]? = some (.initialized RX5) := by decide +kernel
theorem wn_RX10_47 : lw_tbl[159]? = some (.methodLinkNest RX10 47 yX5_init "Tagwranglery") := by decide +kernel
theorem wc_RX10_52 : lw_tbl[177]? = some (.classLink RX10 52 RX2) := by decide +kernel
theorem wi_RX2 : lw_tbl[178]? = some (.instantiable RX2 4) := by decide +kernel
theorem wz_RX2 : lw_tbl[61]? = some (.initialized RX2) := by decide +kernel
theorem wn_RX10_54 : lw_tbl[179]? = some (.methodLinkNest RX10 54 yX2_init "Tagwranglery") := by decide +kernel
theorem wo_RX1 : lw_tbl[200]? = some (.arrayOver (.object RX1)) := by decide +kernel
theorem wi_RX3 : lw_tbl[201]? = some (.instantiable RX3 4) := by decide +kernel
theorem wz_RX3 : lw_tbl[62]? = some (.initialized RX3) := by decide +kernel
theorem wm_RX10_65 : lw_tbl[202]? = some (.methodLink RX10 65 yX3_init) := by decide +kernel
theorem wm_RX10_311 : lw_tbl[321]? = some (.methodLink RX10 311 yX2_countMatches) := by decide +kernel
theorem wf_RX11_125 : lw_tbl[1102]? = some (.fieldLink RX11 125 (TX11 0).1 (TX11 0).2.1 (TX11 0).2.2.1) := by decide +kernel
theorem wm_RX11_129 : lw_tbl[1252]? = some (.methodLink RX11 129 yX11_in) := by decide +kernel
theorem wm_RX11_146 : lw_tbl[1263]? = some (.methodLink RX11 146 yX11_isPerson) := by decide +kernel
theorem wm_RX11_142 : lw_tbl[1255]? = some (.methodLink RX11 142 yX11_holds) := by decide +kernel
theorem wf_RX11_7 : lw_tbl[1104]? = some (.fieldLink RX11 7 (TX11 2).1 (TX11 2).2.1 (TX11 2).2.2.1) := by decide +kernel
theorem wf_RX11_248 : lw_tbl[1139]? = some (.fieldLink RX11 248 (TX11 37).1 (TX11 37).2.1 (TX11 37).2.2.1) := by decide +kernel
theorem wf_RX11_107 : lw_tbl[1143]? = some (.fieldLink RX11 107 (TX11 41).1 (TX11 41).2.1 (TX11 41).2.2.1) := by decide +kernel
theorem wf_RX11_113 : lw_tbl[1145]? = some (.fieldLink RX11 113 (TX11 43).1 (TX11 43).2.1 (TX11 43).2.2.1) := by decide +kernel
theorem wf_RX11_110 : lw_tbl[1144]? = some (.fieldLink RX11 110 (TX11 42).1 (TX11 42).2.1 (TX11 42).2.2.1) := by decide +kernel
theorem wf_RX11_133 : lw_tbl[1106]? = some (.fieldLink RX11 133 (TX11 4).1 (TX11 4).2.1 (TX11 4).2.2.1) := by decide +kernel
theorem wm_RX11_152 : lw_tbl[1281]? = some (.methodLink RX11 152 yX11_isWork) := by decide +kernel
theorem wf_RX11_23 : lw_tbl[1109]? = some (.fieldLink RX11 23 (TX11 7).1 (TX11 7).2.1 (TX11 7).2.2.1) := by decide +kernel
theorem wf_RX11_26 : lw_tbl[1110]? = some (.fieldLink RX11 26 (TX11 8).1 (TX11 8).2.1 (TX11 8).2.2.1) := by decide +kernel
theorem wf_RX11_139 : lw_tbl[1103]? = some (.fieldLink RX11 139 (TX11 1).1 (TX11 1).2.1 (TX11 1).2.2.1) := by decide +kernel
theorem wf_RX11_163 : lw_tbl[1119]? = some (.fieldLink RX11 163 (TX11 17).1 (TX11 17).2.1 (TX11 17).2.2.1) := by decide +kernel
theorem wf_RX11_35 : lw_tbl[1113]? = some (.fieldLink RX11 35 (TX11 11).1 (TX11 11).2.1 (TX11 11).2.2.1) := by decide +kernel
theorem wf_RX11_53 : lw_tbl[1120]? = some (.fieldLink RX11 53 (TX11 18).1 (TX11 18).2.1 (TX11 18).2.2.1) := by decide +kernel
theorem wf_RX11_56 : lw_tbl[1121]? = some (.fieldLink RX11 56 (TX11 19).1 (TX11 19).2.1 (TX11 19).2.2.1) := by decide +kernel
theorem wf_RX11_20 : lw_tbl[1108]? = some (.fieldLink RX11 20 (TX11 6).1 (TX11 6).2.1 (TX11 6).2.2.1) := by decide +kernel
theorem wm_RX11_155 : lw_tbl[1285]? = some (.methodLink RX11 155 yX11_has) := by decide +kernel
theorem wm_RX11_166 : lw_tbl[1323]? = some (.methodLink RX11 166 yX11_isOwner) := by decide +kernel
theorem wf_RX11_29 : lw_tbl[1111]? = some (.fieldLink RX11 29 (TX11 9).1 (TX11 9).2.1 (TX11 9).2.2.1) := by decide +kernel
theorem wf_RX11_32 : lw_tbl[1112]? = some (.fieldLink RX11 32 (TX11 10).1 (TX11 10).2.1 (TX11 10).2.2.1) := by decide +kernel
theorem wf_RX11_98 : lw_tbl[1140]? = some (.fieldLink RX11 98 (TX11 38).1 (TX11 38).2.1 (TX11 38).2.2.1) := by decide +kernel
theorem wf_RX11_101 : lw_tbl[1141]? = some (.fieldLink RX11 101 (TX11 39).1 (TX11 39).2.1 (TX11 39).2.2.1) := by decide +kernel
theorem wm_RX11_169 : lw_tbl[1319]? = some (.methodLink RX11 169 yX11_isSeen) := by decide +kernel
theorem wm_RX11_254 : lw_tbl[1493]? = some (.methodLink RX11 254 yX11_isRead) := by decide +kernel
theorem wm_RX11_251 : lw_tbl[1489]? = some (.methodLink RX11 251 yX11_isBlocked) := by decide +kernel
theorem wf_RX11_104 : lw_tbl[1142]? = some (.fieldLink RX11 104 (TX11 40).1 (TX11 40).2.1 (TX11 40).2.2.1) := by decide +kernel
theorem wm_RX11_149 : lw_tbl[1270]? = some (.methodLink RX11 149 yX11_isFace) := by decide +kernel
theorem wm_RX11_257 : lw_tbl[1485]? = some (.methodLink RX11 257 yX11_canComment) := by decide +kernel
theorem wf_RX11_47 : lw_tbl[1117]? = some (.fieldLink RX11 47 (TX11 15).1 (TX11 15).2.1 (TX11 15).2.2.1) := by decide +kernel
theorem wf_RX11_122 : lw_tbl[1148]? = some (.fieldLink RX11 122 (TX11 46).1 (TX11 46).2.1 (TX11 46).2.2.1) := by decide +kernel
theorem wm_RX11_233 : lw_tbl[1453]? = some (.methodLink RX11 233 yX11_outDay) := by decide +kernel
theorem wf_RX11_116 : lw_tbl[1146]? = some (.fieldLink RX11 116 (TX11 44).1 (TX11 44).2.1 (TX11 44).2.2.1) := by decide +kernel
theorem wm_RX11_172 : lw_tbl[1331]? = some (.methodLink RX11 172 yX11_areTold) := by decide +kernel
theorem wf_RX11_119 : lw_tbl[1147]? = some (.fieldLink RX11 119 (TX11 45).1 (TX11 45).2.1 (TX11 45).2.2.1) := by decide +kernel
theorem wm_RX11_263 : lw_tbl[1525]? = some (.methodLink RX11 263 yX11_isNews) := by decide +kernel
theorem wm_RX11_194 : lw_tbl[1403]? = some (.methodLink RX11 194 yX11_isFigure) := by decide +kernel
theorem wf_RX11_202 : lw_tbl[1126]? = some (.fieldLink RX11 202 (TX11 24).1 (TX11 24).2.1 (TX11 24).2.2.1) := by decide +kernel
theorem wf_RX11_68 : lw_tbl[1127]? = some (.fieldLink RX11 68 (TX11 25).1 (TX11 25).2.1 (TX11 25).2.2.1) := by decide +kernel
theorem wm_RX11_205 : lw_tbl[1418]? = some (.methodLink RX11 205 yX11_behind) := by decide +kernel
theorem wm_RX11_209 : lw_tbl[1414]? = some (.methodLink RX11 209 yX11_faultOf) := by decide +kernel
theorem wm_RX11_1 : lw_tbl[1101]? = some (.methodLink RX11 1 objectInit) := by decide +kernel
theorem wf_RX11_13 : lw_tbl[1105]? = some (.fieldLink RX11 13 (TX11 3).1 (TX11 3).2.1 (TX11 3).2.2.1) := by decide +kernel
theorem wf_RX11_17 : lw_tbl[1107]? = some (.fieldLink RX11 17 (TX11 5).1 (TX11 5).2.1 (TX11 5).2.2.1) := by decide +kernel
theorem wf_RX11_38 : lw_tbl[1114]? = some (.fieldLink RX11 38 (TX11 12).1 (TX11 12).2.1 (TX11 12).2.2.1) := by decide +kernel
theorem wf_RX11_41 : lw_tbl[1115]? = some (.fieldLink RX11 41 (TX11 13).1 (TX11 13).2.1 (TX11 13).2.2.1) := by decide +kernel
theorem wf_RX11_44 : lw_tbl[1116]? = some (.fieldLink RX11 44 (TX11 14).1 (TX11 14).2.1 (TX11 14).2.2.1) := by decide +kernel
theorem wf_RX11_50 : lw_tbl[1118]? = some (.fieldLink RX11 50 (TX11 16).1 (TX11 16).2.1 (TX11 16).2.2.1) := by decide +kernel
theorem wf_RX11_59 : lw_tbl[1123]? = some (.fieldLink RX11 59 (TX11 21).1 (TX11 21).2.1 (TX11 21).2.2.1) := by decide +kernel
theorem wf_RX11_62 : lw_tbl[1124]? = some (.fieldLink RX11 62 (TX11 22).1 (TX11 22).2.1 (TX11 22).2.2.1) := by decide +kernel
theorem wf_RX11_65 : lw_tbl[1125]? = some (.fieldLink RX11 65 (TX11 23).1 (TX11 23).2.1 (TX11 23).2.2.1) := by decide +kernel
theorem wf_RX11_71 : lw_tbl[1128]? = some (.fieldLink RX11 71 (TX11 26).1 (TX11 26).2.1 (TX11 26).2.2.1) := by decide +kernel
theorem wf_RX11_74 : lw_tbl[1129]? = some (.fieldLink RX11 74 (TX11 27).1 (TX11 27).2.1 (TX11 27).2.2.1) := by decide +kernel
theorem wf_RX11_77 : lw_tbl[1130]? = some (.fieldLink RX11 77 (TX11 28).1 (TX11 28).2.1 (TX11 28).2.2.1) := by decide +kernel
theorem wf_RX11_80 : lw_tbl[1133]? = some (.fieldLink RX11 80 (TX11 31).1 (TX11 31).2.1 (TX11 31).2.2.1) := by decide +kernel
theorem wf_RX11_83 : lw_tbl[1134]? = some (.fieldLink RX11 83 (TX11 32).1 (TX11 32).2.1 (TX11 32).2.2.1) := by decide +kernel
theorem wf_RX11_86 : lw_tbl[1135]? = some (.fieldLink RX11 86 (TX11 33).1 (TX11 33).2.1 (TX11 33).2.2.1) := by decide +kernel
theorem wf_RX11_89 : lw_tbl[1136]? = some (.fieldLink RX11 89 (TX11 34).1 (TX11 34).2.1 (TX11 34).2.2.1) := by decide +kernel
theorem wf_RX11_92 : lw_tbl[1137]? = some (.fieldLink RX11 92 (TX11 35).1 (TX11 35).2.1 (TX11 35).2.2.1) := by decide +kernel
theorem wf_RX11_95 : lw_tbl[1138]? = some (.fieldLink RX11 95 (TX11 36).1 (TX11 36).2.1 (TX11 36).2.2.1) := by decide +kernel
theorem wm_RX11_159 : lw_tbl[1288]? = some (.methodLink RX11 159 yX11_bits) := by decide +kernel
theorem wm_RX11_260 : lw_tbl[1509]? = some (.methodLink RX11 260 yX11_gave) := by decide +kernel
theorem wf_RX11_136 : lw_tbl[1122]? = some (.fieldLink RX11 136 (TX11 20).1 (TX11 20).2.1 (TX11 20).2.2.1) := by decide +kernel
theorem wm_RX11_184 : lw_tbl[1343]? = some (.methodLink RX11 184 yX11_isTag) := by decide +kernel
theorem wm_RX11_187 : lw_tbl[1347]? = some (.methodLink RX11 187 yX11_letsWait) := by decide +kernel
theorem wm_RX11_175 : lw_tbl[1367]? = some (.methodLink RX11 175 yX11_meaning) := by decide +kernel
theorem wm_RX11_178 : lw_tbl[1355]? = some (.methodLink RX11 178 yX11_aboveOf) := by decide +kernel
theorem wf_RX11_239 : lw_tbl[1132]? = some (.fieldLink RX11 239 (TX11 30).1 (TX11 30).2.1 (TX11 30).2.2.1) := by decide +kernel
theorem wm_RX11_242 : lw_tbl[1469]? = some (.methodLink RX11 242 yX11_suits) := by decide +kernel
theorem wm_RX11_245 : lw_tbl[1465]? = some (.methodLink RX11 245 yX11_counts) := by decide +kernel
theorem wm_RX11_181 : lw_tbl[1379]? = some (.methodLink RX11 181 yX11_belongs) := by decide +kernel
theorem wm_RX11_190 : lw_tbl[1375]? = some (.methodLink RX11 190 yX11_files) := by decide +kernel
theorem wf_RX11_213 : lw_tbl[1131]? = some (.fieldLink RX11 213 (TX11 29).1 (TX11 29).2.1 (TX11 29).2.2.1) := by decide +kernel
theorem wm_RX11_216 : lw_tbl[1433]? = some (.methodLink RX11 216 yX11_opens) := by decide +kernel
theorem wm_RX11_222 : lw_tbl[1441]? = some (.methodLink RX11 222 yX11_isOfTag) := by decide +kernel
theorem wm_RX11_218 : lw_tbl[1437]? = some (.methodLink RX11 218 yX11_gets) := by decide +kernel
theorem wm_RX11_226 : lw_tbl[1429]? = some (.methodLink RX11 226 yX11_isSo) := by decide +kernel
theorem wm_RX11_229 : lw_tbl[1425]? = some (.methodLink RX11 229 yX11_searchOf) := by decide +kernel
theorem wm_RX11_236 : lw_tbl[1449]? = some (.methodLink RX11 236 yX11_latest) := by decide +kernel
theorem wl_RX11_197 : lw_tbl[1399]? = some (.constantLong RX11 197 (255)) := by decide +kernel
theorem wm_RX11_199 : lw_tbl[1400]? = some (.methodLink RX11 199 yX11_canBe) := by decide +kernel
theorem wc_RL_8 : lw_tbl[78]? = some (.classLink RL 8 RX10) := by decide +kernel
theorem wi_RX10 : lw_tbl[79]? = some (.instantiable RX10 13) := by decide +kernel
theorem wz_RX10 : lw_tbl[56]? = some (.initialized RX10) := by decide +kernel
theorem wm_RL_132 : lw_tbl[80]? = some (.methodLink RL 132 yX10_init) := by decide +kernel
theorem wc_RL_133 : lw_tbl[1096]? = some (.classLink RL 133 RX11) := by decide +kernel
theorem wi_RX11 : lw_tbl[1097]? = some (.instantiable RX11 47) := by decide +kernel
theorem wz_RX11 : lw_tbl[64]? = some (.initialized RX11) := by decide +kernel
theorem wm_RL_135 : lw_tbl[1098]? = some (.methodLink RL 135 yX11_init) := by decide +kernel
theorem wa_long : lw_tbl[1534]? = some (.arrayClass .long) := by decide +kernel
theorem wm_RL_271 : lw_tbl[1089]? = some (.methodLink RL 271 yL_digest) := by decide +kernel
theorem wm_RL_273 : lw_tbl[1529]? = some (.methodLink RL 273 yX11_digest) := by decide +kernel
theorem wm_RL_142 : lw_tbl[1244]? = some (.methodLink RL 142 yX11_thrown) := by decide +kernel
theorem wm_RL_268 : lw_tbl[1064]? = some (.methodLink RL 268 yL_news) := by decide +kernel
theorem wm_RL_270 : lw_tbl[1521]? = some (.methodLink RL 270 yX11_news) := by decide +kernel
theorem wm_RL_264 : lw_tbl[1057]? = some (.methodLink RL 264 yL_subscribe) := by decide +kernel
theorem wm_RL_267 : lw_tbl[1517]? = some (.methodLink RL 267 yX11_subscribe) := by decide +kernel
theorem wm_RL_261 : lw_tbl[1050]? = some (.methodLink RL 261 yL_liked) := by decide +kernel
theorem wm_RL_263 : lw_tbl[1513]? = some (.methodLink RL 263 yX11_liked) := by decide +kernel
