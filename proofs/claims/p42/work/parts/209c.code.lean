def f_L_act_369  (x0 : Option (Nat × Nat)) (x2 : Int32) (x3 : Int32) (x4 : Int32) (x5 : Int32) (x6 : Int32) (x7 : Int32) (x8 : Int32) (h : am_H) : am_R := if (34 : Int32) ≤ x3 then (f_L_act_538 x0 x2 x3 x4 x5 x6 h) else (if (17 : Int32) ≤ x3 then (f_L_act_394 x0 x2 x3 x4 x6 x7 x8 h) else (m_bI (f_L_does x0 (13 : Int32) (0 : Int32) (0 : Int32) (0 : Int32) (0 : Int32) h) fun h47 v48 => f_L_act_537 v48 h47))
theorem t_L_act_369 (d : Nat) (hd : 14 ≤ d)  (x0 : Option (Nat × Nat)) (x2 : Int32) (x3 : Int32) (x4 : Int32) (x5 : Int32) (x6 : Int32) (x7 : Int32) (x8 : Int32) (h : am_H) : Sim m_L_act d 369 [some (.inr (.inr x0)), none, some (.inl x2), some (.inl x3), some (.inl x4), some (.inl x5), some (.inl x6), some (.inl x7), some (.inl x8)] [] h (f_L_act_369  x0 x2 x3 x4 x5 x6 x7 x8 h) := by
  unfold f_L_act_369
  refine sim_iload_n dL_act_369 rfl ?_
  refine sim_bipush (34) dL_act_370 (by decide +kernel) ?_
  refine sim_ic_ge 538 dL_act_372 (by decide) (fun c => ?_) (fun c => ?_)
  · exact sim_lv (am_leS (am_leN (am_leS (am_leS (am_leS (am_leS (am_leS (am_leN (am_leN am_leT))))))))) (t_L_act_538 d (by omega) _ _ _ _ _ _ _)
  · refine sim_iload_n dL_act_375 rfl ?_
    refine sim_bipush (17) dL_act_376 (by decide +kernel) ?_
    refine sim_ic_ge 394 dL_act_378 (by decide) (fun c => ?_) (fun c => ?_)
    · exact sim_lv (am_leS (am_leN (am_leS (am_leS (am_leS (am_leN (am_leS (am_leS (am_leS am_leT))))))))) (t_L_act_394 d (by omega) _ _ _ _ _ _ _ _)
    · refine sim_aload_n dL_act_381 rfl ?_
      refine sim_bipush (13) dL_act_382 (by decide +kernel) ?_
      refine sim_iconst (0) dL_act_384 (by decide +kernel) ?_
      refine sim_iconst (0) dL_act_385 (by decide +kernel) ?_
      refine sim_iconst (0) dL_act_386 (by decide +kernel) ?_
      refine sim_iconst (0) dL_act_387 (by decide +kernel) ?_
      refine sim_staticX (d - 1) dL_act_388 (k_L_does (d - 1) (by omega) _ _ _ _ _ _ _) q_L_does wm_RL_152 rfl rfl (by omega) (Nat.le_of_ble_eq_true rfl) am_nI (am_rI fun h47 v48 => ?_) am_eI
      refine sim_goto 537 dL_act_391 (by decide) ?_
      exact sim_lv (am_leN (am_leN (am_leN (am_leN (am_leN (am_leN (am_leN (am_leN (am_leN am_leT))))))))) (t_L_act_537 d (by omega) _ _)
def f_L_act_368  (s0 : Int32) (h : am_H) : am_R := m_ri h s0
theorem t_L_act_368 (d : Nat) (hd : 14 ≤ d)  (s0 : Int32) (h : am_H) : Sim m_L_act d 368 [none, none, none, none, none, none, none, none, none] [.inl s0] h (f_L_act_368  s0 h) := by
  unfold f_L_act_368
  exact sim_iret dL_act_368 rfl
def f_L_act_351  (x0 : Option (Nat × Nat)) (x4 : Int32) (x6 : Int32) (h : am_H) : am_R := m_bI (f_L_low x4 (6 : Int32) h) fun h43 v44 => m_bI (f_L_does x0 (10 : Int32) x6 v44 (0 : Int32) (0 : Int32) h43) fun h45 v46 => f_L_act_368 v46 h45
theorem t_L_act_351 (d : Nat) (hd : 14 ≤ d)  (x0 : Option (Nat × Nat)) (x4 : Int32) (x6 : Int32) (h : am_H) : Sim m_L_act d 351 [some (.inr (.inr x0)), none, none, none, some (.inl x4), none, some (.inl x6), none, none] [] h (f_L_act_351  x0 x4 x6 h) := by
  unfold f_L_act_351
  refine sim_aload_n dL_act_351 rfl ?_
  refine sim_bipush (10) dL_act_352 (by decide +kernel) ?_
  refine sim_iload dL_act_354 rfl ?_
  refine sim_iload dL_act_356 rfl ?_
  refine sim_bipush (6) dL_act_358 (by decide +kernel) ?_
  refine sim_static (d - 1) dL_act_360 (k_L_low (d - 1) (by omega) _ _ _) q_L_low wm_RL_155 rfl rfl (by omega) (Nat.le_of_ble_eq_true rfl) am_nI (am_rI fun h43 v44 => ?_) am_eI
  refine sim_iconst (0) dL_act_363 (by decide +kernel) ?_
  refine sim_iconst (0) dL_act_364 (by decide +kernel) ?_
  refine sim_staticX (d - 1) dL_act_365 (k_L_does (d - 1) (by omega) _ _ _ _ _ _ _) q_L_does wm_RL_152 rfl rfl (by omega) (Nat.le_of_ble_eq_true rfl) am_nI (am_rI fun h45 v46 => ?_) am_eI
  exact sim_lv (am_leN (am_leN (am_leN (am_leN (am_leN (am_leN (am_leN (am_leN (am_leN am_leT))))))))) (t_L_act_368 d (by omega) _ _)
def f_L_act_340  (s0 : Int32) (s1 : Int32) (s2 : Int32) (s3 : Int32) (s4 : Option (Nat × Nat)) (h : am_H) : am_R := m_bI (f_L_low s1 s0 h) fun h39 v40 => m_bI (f_L_does s4 s3 s2 v40 (0 : Int32) (0 : Int32) h39) fun h41 v42 => f_L_act_368 v42 h41
theorem t_L_act_340 (d : Nat) (hd : 14 ≤ d)  (s0 : Int32) (s1 : Int32) (s2 : Int32) (s3 : Int32) (s4 : Option (Nat × Nat)) (h : am_H) : Sim m_L_act d 340 [none, none, none, none, none, none, none, none, none] [.inl s0, .inl s1, .inl s2, .inl s3, .inr (.inr s4)] h (f_L_act_340  s0 s1 s2 s3 s4 h) := by
  unfold f_L_act_340
  refine sim_static (d - 1) dL_act_340 (k_L_low (d - 1) (by omega) _ _ _) q_L_low wm_RL_155 rfl rfl (by omega) (Nat.le_of_ble_eq_true rfl) am_nI (am_rI fun h39 v40 => ?_) am_eI
  refine sim_iconst (0) dL_act_343 (by decide +kernel) ?_
  refine sim_iconst (0) dL_act_344 (by decide +kernel) ?_
  refine sim_staticX (d - 1) dL_act_345 (k_L_does (d - 1) (by omega) _ _ _ _ _ _ _) q_L_does wm_RL_152 rfl rfl (by omega) (Nat.le_of_ble_eq_true rfl) am_nI (am_rI fun h41 v42 => ?_) am_eI
  refine sim_goto 368 dL_act_348 (by decide) ?_
  exact sim_lv (am_leN (am_leN (am_leN (am_leN (am_leN (am_leN (am_leN (am_leN (am_leN am_leT))))))))) (t_L_act_368 d (by omega) _ _)
def f_L_act_337  (s0 : Int32) (s1 : Int32) (s2 : Int32) (s3 : Option (Nat × Nat)) (h : am_H) : am_R := f_L_act_340 (1000 : Int32) s0 s1 s2 s3 h
theorem t_L_act_337 (d : Nat) (hd : 14 ≤ d)  (s0 : Int32) (s1 : Int32) (s2 : Int32) (s3 : Option (Nat × Nat)) (h : am_H) : Sim m_L_act d 337 [none, none, none, none, none, none, none, none, none] [.inl s0, .inl s1, .inl s2, .inr (.inr s3)] h (f_L_act_337  s0 s1 s2 s3 h) := by
  unfold f_L_act_337
  refine sim_sipush (1000) dL_act_337 (by decide +kernel) ?_
  exact sim_lv (am_leN (am_leN (am_leN (am_leN (am_leN (am_leN (am_leN (am_leN (am_leN am_leT))))))))) (t_L_act_340 d (by omega) _ _ _ _ _ _)
def f_L_act_306  (x0 : Option (Nat × Nat)) (x2 : Int32) (x3 : Int32) (x4 : Int32) (x6 : Int32) (h : am_H) : am_R := if x3 = (12 : Int32) then (m_bI (f_L_low x4 (900 : Int32) h) fun h37 v38 => if x2 = 0 then (f_L_act_337 (x4 >>> ((4 : Int32) &&& 31)) v38 (9 : Int32) x0 h37) else (f_L_act_340 (2200 : Int32) (x4 >>> ((4 : Int32) &&& 31)) v38 (9 : Int32) x0 h37)) else (f_L_act_351 x0 x4 x6 h)
theorem t_L_act_306 (d : Nat) (hd : 14 ≤ d)  (x0 : Option (Nat × Nat)) (x2 : Int32) (x3 : Int32) (x4 : Int32) (x6 : Int32) (h : am_H) : Sim m_L_act d 306 [some (.inr (.inr x0)), none, some (.inl x2), some (.inl x3), some (.inl x4), none, some (.inl x6), none, none] [] h (f_L_act_306  x0 x2 x3 x4 x6 h) := by
  unfold f_L_act_306
  refine sim_iload_n dL_act_306 rfl ?_
  refine sim_bipush (12) dL_act_307 (by decide +kernel) ?_
  refine sim_ic_ne 351 dL_act_309 (by decide) (fun c => ?_) (fun c => ?_)
  · exact sim_lv (am_leS (am_leN (am_leN (am_leN (am_leS (am_leN (am_leS (am_leN (am_leN am_leT))))))))) (t_L_act_351 d (by omega) _ _ _ _)
  · refine sim_aload_n dL_act_312 rfl ?_
    refine sim_bipush (9) dL_act_313 (by decide +kernel) ?_
    refine sim_iload dL_act_315 rfl ?_
    refine sim_sipush (900) dL_act_317 (by decide +kernel) ?_
    refine sim_static (d - 1) dL_act_320 (k_L_low (d - 1) (by omega) _ _ _) q_L_low wm_RL_155 rfl rfl (by omega) (Nat.le_of_ble_eq_true rfl) am_nI (am_rI fun h37 v38 => ?_) am_eI
    refine sim_iload dL_act_323 rfl ?_
    refine sim_iconst (4) dL_act_325 (by decide +kernel) ?_
    refine sim_ishr dL_act_326 ?_
    refine sim_iload_n dL_act_327 rfl ?_
    refine sim_if_eq 337 dL_act_328 (by decide) (fun c => ?_) (fun c => ?_)
    · exact sim_lv (am_leN (am_leN (am_leN (am_leN (am_leN (am_leN (am_leN (am_leN (am_leN am_leT))))))))) (t_L_act_337 d (by omega) _ _ _ _ _)
    · refine sim_sipush (2200) dL_act_331 (by decide +kernel) ?_
      refine sim_goto 340 dL_act_334 (by decide) ?_
      exact sim_lv (am_leN (am_leN (am_leN (am_leN (am_leN (am_leN (am_leN (am_leN (am_leN am_leT))))))))) (t_L_act_340 d (by omega) _ _ _ _ _ _)
def f_L_act_280  (x0 : Option (Nat × Nat)) (x2 : Int32) (x3 : Int32) (x4 : Int32) (x6 : Int32) (h : am_H) : am_R := if x3 = (11 : Int32) then (m_bI (f_L_does x0 (8 : Int32) x6 ((x4 >>> ((6 : Int32) &&& 31)) &&& (1 : Int32)) (0 : Int32) (0 : Int32) h) fun h35 v36 => f_L_act_368 v36 h35) else (f_L_act_306 x0 x2 x3 x4 x6 h)
theorem t_L_act_280 (d : Nat) (hd : 14 ≤ d)  (x0 : Option (Nat × Nat)) (x2 : Int32) (x3 : Int32) (x4 : Int32) (x6 : Int32) (h : am_H) : Sim m_L_act d 280 [some (.inr (.inr x0)), none, some (.inl x2), some (.inl x3), some (.inl x4), none, some (.inl x6), none, none] [] h (f_L_act_280  x0 x2 x3 x4 x6 h) := by
  unfold f_L_act_280
  refine sim_iload_n dL_act_280 rfl ?_
  refine sim_bipush (11) dL_act_281 (by decide +kernel) ?_
  refine sim_ic_ne 306 dL_act_283 (by decide) (fun c => ?_) (fun c => ?_)
  · exact sim_lv (am_leS (am_leN (am_leS (am_leS (am_leS (am_leN (am_leS (am_leN (am_leN am_leT))))))))) (t_L_act_306 d (by omega) _ _ _ _ _ _)
  · refine sim_aload_n dL_act_286 rfl ?_
    refine sim_bipush (8) dL_act_287 (by decide +kernel) ?_
    refine sim_iload dL_act_289 rfl ?_
    refine sim_iload dL_act_291 rfl ?_
    refine sim_bipush (6) dL_act_293 (by decide +kernel) ?_
    refine sim_ishr dL_act_295 ?_
    refine sim_iconst (1) dL_act_296 (by decide +kernel) ?_
    refine sim_iand dL_act_297 ?_
    refine sim_iconst (0) dL_act_298 (by decide +kernel) ?_
    refine sim_iconst (0) dL_act_299 (by decide +kernel) ?_
    refine sim_staticX (d - 1) dL_act_300 (k_L_does (d - 1) (by omega) _ _ _ _ _ _ _) q_L_does wm_RL_152 rfl rfl (by omega) (Nat.le_of_ble_eq_true rfl) am_nI (am_rI fun h35 v36 => ?_) am_eI
    refine sim_goto 368 dL_act_303 (by decide) ?_
    exact sim_lv (am_leN (am_leN (am_leN (am_leN (am_leN (am_leN (am_leN (am_leN (am_leN am_leT))))))))) (t_L_act_368 d (by omega) _ _)
def f_L_act_260  (x0 : Option (Nat × Nat)) (x2 : Int32) (x3 : Int32) (x4 : Int32) (x6 : Int32) (h : am_H) : am_R := if (11 : Int32) ≤ x3 then (f_L_act_280 x0 x2 x3 x4 x6 h) else (m_bI (f_L_does x0 (7 : Int32) x6 (0 : Int32) (0 : Int32) (0 : Int32) h) fun h33 v34 => f_L_act_368 v34 h33)
theorem t_L_act_260 (d : Nat) (hd : 14 ≤ d)  (x0 : Option (Nat × Nat)) (x2 : Int32) (x3 : Int32) (x4 : Int32) (x6 : Int32) (h : am_H) : Sim m_L_act d 260 [some (.inr (.inr x0)), none, some (.inl x2), some (.inl x3), some (.inl x4), none, some (.inl x6), none, none] [] h (f_L_act_260  x0 x2 x3 x4 x6 h) := by
  unfold f_L_act_260
  refine sim_iload_n dL_act_260 rfl ?_
  refine sim_bipush (11) dL_act_261 (by decide +kernel) ?_
  refine sim_ic_ge 280 dL_act_263 (by decide) (fun c => ?_) (fun c => ?_)
  · exact sim_lv (am_leS (am_leN (am_leS (am_leS (am_leS (am_leN (am_leS (am_leN (am_leN am_leT))))))))) (t_L_act_280 d (by omega) _ _ _ _ _ _)
  · refine sim_aload_n dL_act_266 rfl ?_
    refine sim_bipush (7) dL_act_267 (by decide +kernel) ?_
    refine sim_iload dL_act_269 rfl ?_
    refine sim_iconst (0) dL_act_271 (by decide +kernel) ?_
    refine sim_iconst (0) dL_act_272 (by decide +kernel) ?_
    refine sim_iconst (0) dL_act_273 (by decide +kernel) ?_
    refine sim_staticX (d - 1) dL_act_274 (k_L_does (d - 1) (by omega) _ _ _ _ _ _ _) q_L_does wm_RL_152 rfl rfl (by omega) (Nat.le_of_ble_eq_true rfl) am_nI (am_rI fun h33 v34 => ?_) am_eI
    refine sim_goto 368 dL_act_277 (by decide) ?_
    exact sim_lv (am_leN (am_leN (am_leN (am_leN (am_leN (am_leN (am_leN (am_leN (am_leN am_leT))))))))) (t_L_act_368 d (by omega) _ _)
def f_L_act_240  (x0 : Option (Nat × Nat)) (x2 : Int32) (x3 : Int32) (x4 : Int32) (x6 : Int32) (h : am_H) : am_R := if (9 : Int32) ≤ x3 then (f_L_act_260 x0 x2 x3 x4 x6 h) else (m_bI (f_L_does x0 (6 : Int32) x6 (0 : Int32) (0 : Int32) (0 : Int32) h) fun h31 v32 => f_L_act_368 v32 h31)
theorem t_L_act_240 (d : Nat) (hd : 14 ≤ d)  (x0 : Option (Nat × Nat)) (x2 : Int32) (x3 : Int32) (x4 : Int32) (x6 : Int32) (h : am_H) : Sim m_L_act d 240 [some (.inr (.inr x0)), none, some (.inl x2), some (.inl x3), some (.inl x4), none, some (.inl x6), none, none] [] h (f_L_act_240  x0 x2 x3 x4 x6 h) := by
  unfold f_L_act_240
  refine sim_iload_n dL_act_240 rfl ?_
  refine sim_bipush (9) dL_act_241 (by decide +kernel) ?_
  refine sim_ic_ge 260 dL_act_243 (by decide) (fun c => ?_) (fun c => ?_)
  · exact sim_lv (am_leS (am_leN (am_leS (am_leS (am_leS (am_leN (am_leS (am_leN (am_leN am_leT))))))))) (t_L_act_260 d (by omega) _ _ _ _ _ _)
  · refine sim_aload_n dL_act_246 rfl ?_
    refine sim_bipush (6) dL_act_247 (by decide +kernel) ?_
    refine sim_iload dL_act_249 rfl ?_
    refine sim_iconst (0) dL_act_251 (by decide +kernel) ?_
    refine sim_iconst (0) dL_act_252 (by decide +kernel) ?_
    refine sim_iconst (0) dL_act_253 (by decide +kernel) ?_
    refine sim_staticX (d - 1) dL_act_254 (k_L_does (d - 1) (by omega) _ _ _ _ _ _ _) q_L_does wm_RL_152 rfl rfl (by omega) (Nat.le_of_ble_eq_true rfl) am_nI (am_rI fun h31 v32 => ?_) am_eI
    refine sim_goto 368 dL_act_257 (by decide) ?_
    exact sim_lv (am_leN (am_leN (am_leN (am_leN (am_leN (am_leN (am_leN (am_leN (am_leN am_leT))))))))) (t_L_act_368 d (by omega) _ _)
def f_L_act_221  (x0 : Option (Nat × Nat)) (x2 : Int32) (x3 : Int32) (x4 : Int32) (x5 : Int32) (x6 : Int32) (h : am_H) : am_R := if x3 = (5 : Int32) then (m_bI (f_L_does x0 (5 : Int32) x6 x5 (0 : Int32) (0 : Int32) h) fun h29 v30 => f_L_act_368 v30 h29) else (f_L_act_240 x0 x2 x3 x4 x6 h)
theorem t_L_act_221 (d : Nat) (hd : 14 ≤ d)  (x0 : Option (Nat × Nat)) (x2 : Int32) (x3 : Int32) (x4 : Int32) (x5 : Int32) (x6 : Int32) (h : am_H) : Sim m_L_act d 221 [some (.inr (.inr x0)), none, some (.inl x2), some (.inl x3), some (.inl x4), some (.inl x5), some (.inl x6), none, none] [] h (f_L_act_221  x0 x2 x3 x4 x5 x6 h) := by
  unfold f_L_act_221
  refine sim_iload_n dL_act_221 rfl ?_
  refine sim_iconst (5) dL_act_222 (by decide +kernel) ?_
  refine sim_ic_ne 240 dL_act_223 (by decide) (fun c => ?_) (fun c => ?_)
  · exact sim_lv (am_leS (am_leN (am_leS (am_leS (am_leS (am_leN (am_leS (am_leN (am_leN am_leT))))))))) (t_L_act_240 d (by omega) _ _ _ _ _ _)
  · refine sim_aload_n dL_act_226 rfl ?_
    refine sim_iconst (5) dL_act_227 (by decide +kernel) ?_
    refine sim_iload dL_act_228 rfl ?_
    refine sim_iload dL_act_230 rfl ?_
    refine sim_iconst (0) dL_act_232 (by decide +kernel) ?_
    refine sim_iconst (0) dL_act_233 (by decide +kernel) ?_
    refine sim_staticX (d - 1) dL_act_234 (k_L_does (d - 1) (by omega) _ _ _ _ _ _ _) q_L_does wm_RL_152 rfl rfl (by omega) (Nat.le_of_ble_eq_true rfl) am_nI (am_rI fun h29 v30 => ?_) am_eI
    refine sim_goto 368 dL_act_237 (by decide) ?_
    exact sim_lv (am_leN (am_leN (am_leN (am_leN (am_leN (am_leN (am_leN (am_leN (am_leN am_leT))))))))) (t_L_act_368 d (by omega) _ _)
def f_L_act_202  (x0 : Option (Nat × Nat)) (x2 : Int32) (x3 : Int32) (x4 : Int32) (x5 : Int32) (x6 : Int32) (h : am_H) : am_R := if (5 : Int32) ≤ x3 then (f_L_act_221 x0 x2 x3 x4 x5 x6 h) else (m_bI (f_L_does x0 (4 : Int32) x6 x5 (0 : Int32) (0 : Int32) h) fun h27 v28 => f_L_act_368 v28 h27)
theorem t_L_act_202 (d : Nat) (hd : 14 ≤ d)  (x0 : Option (Nat × Nat)) (x2 : Int32) (x3 : Int32) (x4 : Int32) (x5 : Int32) (x6 : Int32) (h : am_H) : Sim m_L_act d 202 [some (.inr (.inr x0)), none, some (.inl x2), some (.inl x3), some (.inl x4), some (.inl x5), some (.inl x6), none, none] [] h (f_L_act_202  x0 x2 x3 x4 x5 x6 h) := by
  unfold f_L_act_202
  refine sim_iload_n dL_act_202 rfl ?_
  refine sim_iconst (5) dL_act_203 (by decide +kernel) ?_
  refine sim_ic_ge 221 dL_act_204 (by decide) (fun c => ?_) (fun c => ?_)
  · exact sim_lv (am_leS (am_leN (am_leS (am_leS (am_leS (am_leS (am_leS (am_leN (am_leN am_leT))))))))) (t_L_act_221 d (by omega) _ _ _ _ _ _ _)
  · refine sim_aload_n dL_act_207 rfl ?_
    refine sim_iconst (4) dL_act_208 (by decide +kernel) ?_
    refine sim_iload dL_act_209 rfl ?_
    refine sim_iload dL_act_211 rfl ?_
    refine sim_iconst (0) dL_act_213 (by decide +kernel) ?_
    refine sim_iconst (0) dL_act_214 (by decide +kernel) ?_
    refine sim_staticX (d - 1) dL_act_215 (k_L_does (d - 1) (by omega) _ _ _ _ _ _ _) q_L_does wm_RL_152 rfl rfl (by omega) (Nat.le_of_ble_eq_true rfl) am_nI (am_rI fun h27 v28 => ?_) am_eI
    refine sim_goto 368 dL_act_218 (by decide) ?_
    exact sim_lv (am_leN (am_leN (am_leN (am_leN (am_leN (am_leN (am_leN (am_leN (am_leN am_leT))))))))) (t_L_act_368 d (by omega) _ _)
def f_L_act_194  (s0 : Int32) (s1 : Int32) (s2 : Int32) (s3 : Option (Nat × Nat)) (h : am_H) : am_R := m_bI (f_L_does s3 s2 s1 s0 (0 : Int32) (0 : Int32) h) fun h21 v22 => f_L_act_368 v22 h21
theorem t_L_act_194 (d : Nat) (hd : 14 ≤ d)  (s0 : Int32) (s1 : Int32) (s2 : Int32) (s3 : Option (Nat × Nat)) (h : am_H) : Sim m_L_act d 194 [none, none, none, none, none, none, none, none, none] [.inl s0, .inl s1, .inl s2, .inr (.inr s3)] h (f_L_act_194  s0 s1 s2 s3 h) := by
  unfold f_L_act_194
  refine sim_iconst (0) dL_act_194 (by decide +kernel) ?_
  refine sim_iconst (0) dL_act_195 (by decide +kernel) ?_
  refine sim_staticX (d - 1) dL_act_196 (k_L_does (d - 1) (by omega) _ _ _ _ _ _ _) q_L_does wm_RL_152 rfl rfl (by omega) (Nat.le_of_ble_eq_true rfl) am_nI (am_rI fun h21 v22 => ?_) am_eI
  refine sim_goto 368 dL_act_199 (by decide) ?_
  exact sim_lv (am_leN (am_leN (am_leN (am_leN (am_leN (am_leN (am_leN (am_leN (am_leN am_leT))))))))) (t_L_act_368 d (by omega) _ _)
def f_L_act_186  (x4 : Int32) (s0 : Int32) (s1 : Int32) (s2 : Option (Nat × Nat)) (h : am_H) : am_R := m_bI (f_L_low (x4 >>> ((3 : Int32) &&& 31)) (4 : Int32) h) fun h23 v24 => f_L_act_194 v24 s0 s1 s2 h23
theorem t_L_act_186 (d : Nat) (hd : 14 ≤ d)  (x4 : Int32) (s0 : Int32) (s1 : Int32) (s2 : Option (Nat × Nat)) (h : am_H) : Sim m_L_act d 186 [none, none, none, none, some (.inl x4), none, none, none, none] [.inl s0, .inl s1, .inr (.inr s2)] h (f_L_act_186  x4 s0 s1 s2 h) := by
  unfold f_L_act_186
  refine sim_iload dL_act_186 rfl ?_
  refine sim_iconst (3) dL_act_188 (by decide +kernel) ?_
  refine sim_ishr dL_act_189 ?_
  refine sim_iconst (4) dL_act_190 (by decide +kernel) ?_
  refine sim_static (d - 1) dL_act_191 (k_L_low (d - 1) (by omega) _ _ _) q_L_low wm_RL_155 rfl rfl (by omega) (Nat.le_of_ble_eq_true rfl) am_nI (am_rI fun h23 v24 => ?_) am_eI
  exact sim_lv (am_leN (am_leN (am_leN (am_leN (am_leN (am_leN (am_leN (am_leN (am_leN am_leT))))))))) (t_L_act_194 d (by omega) _ _ _ _ _)
def f_L_act_168  (x2 : Int32) (x4 : Int32) (s0 : Int32) (s1 : Int32) (s2 : Option (Nat × Nat)) (h : am_H) : am_R := if x2 = 0 then (f_L_act_186 x4 s0 s1 s2 h) else (m_bI (f_L_low (x4 >>> ((3 : Int32) &&& 31)) (6 : Int32) h) fun h19 v20 => f_L_act_194 (v20 - (1 : Int32)) s0 s1 s2 h19)
theorem t_L_act_168 (d : Nat) (hd : 14 ≤ d)  (x2 : Int32) (x4 : Int32) (s0 : Int32) (s1 : Int32) (s2 : Option (Nat × Nat)) (h : am_H) : Sim m_L_act d 168 [none, none, some (.inl x2), none, some (.inl x4), none, none, none, none] [.inl s0, .inl s1, .inr (.inr s2)] h (f_L_act_168  x2 x4 s0 s1 s2 h) := by
  unfold f_L_act_168
  refine sim_iload_n dL_act_168 rfl ?_
  refine sim_if_eq 186 dL_act_169 (by decide) (fun c => ?_) (fun c => ?_)
  · exact sim_lv (am_leN (am_leN (am_leN (am_leN (am_leS (am_leN (am_leN (am_leN (am_leN am_leT))))))))) (t_L_act_186 d (by omega) _ _ _ _ _)
  · refine sim_iload dL_act_172 rfl ?_
    refine sim_iconst (3) dL_act_174 (by decide +kernel) ?_
    refine sim_ishr dL_act_175 ?_
    refine sim_bipush (6) dL_act_176 (by decide +kernel) ?_
    refine sim_static (d - 1) dL_act_178 (k_L_low (d - 1) (by omega) _ _ _) q_L_low wm_RL_155 rfl rfl (by omega) (Nat.le_of_ble_eq_true rfl) am_nI (am_rI fun h19 v20 => ?_) am_eI
    refine sim_iconst (1) dL_act_181 (by decide +kernel) ?_
    refine sim_isub dL_act_182 ?_
    refine sim_goto 194 dL_act_183 (by decide) ?_
    exact sim_lv (am_leN (am_leN (am_leN (am_leN (am_leN (am_leN (am_leN (am_leN (am_leN am_leT))))))))) (t_L_act_194 d (by omega) _ _ _ _ _)
def f_L_act_161  (x2 : Int32) (x4 : Int32) (s0 : Int32) (s1 : Option (Nat × Nat)) (h : am_H) : am_R := m_bI (f_L_low x4 (12 : Int32) h) fun h25 v26 => f_L_act_168 x2 x4 v26 s0 s1 h25
theorem t_L_act_161 (d : Nat) (hd : 14 ≤ d)  (x2 : Int32) (x4 : Int32) (s0 : Int32) (s1 : Option (Nat × Nat)) (h : am_H) : Sim m_L_act d 161 [none, none, some (.inl x2), none, some (.inl x4), none, none, none, none] [.inl s0, .inr (.inr s1)] h (f_L_act_161  x2 x4 s0 s1 h) := by
  unfold f_L_act_161
  refine sim_iload dL_act_161 rfl ?_
  refine sim_bipush (12) dL_act_163 (by decide +kernel) ?_
  refine sim_static (d - 1) dL_act_165 (k_L_low (d - 1) (by omega) _ _ _) q_L_low wm_RL_155 rfl rfl (by omega) (Nat.le_of_ble_eq_true rfl) am_nI (am_rI fun h25 v26 => ?_) am_eI
  exact sim_lv (am_leN (am_leN (am_leS (am_leN (am_leS (am_leN (am_leN (am_leN (am_leN am_leT))))))))) (t_L_act_168 d (by omega) _ _ _ _ _ _)
def f_L_act_137  (x0 : Option (Nat × Nat)) (x2 : Int32) (x3 : Int32) (x4 : Int32) (x5 : Int32) (x6 : Int32) (x7 : Int32) (s0 : Int32) (h : am_H) : am_R := if (14 : Int32) ≤ x3 then (f_L_act_369 x0 x2 x3 x4 x5 x6 x7 s0 h) else (if (3 : Int32) ≤ x3 then (f_L_act_202 x0 x2 x3 x4 x5 x6 h) else (if x2 = 0 then (f_L_act_161 x2 x4 (3 : Int32) x0 h) else (f_L_act_168 x2 x4 x5 (3 : Int32) x0 h)))
theorem t_L_act_137 (d : Nat) (hd : 14 ≤ d)  (x0 : Option (Nat × Nat)) (x2 : Int32) (x3 : Int32) (x4 : Int32) (x5 : Int32) (x6 : Int32) (x7 : Int32) (s0 : Int32) (h : am_H) : Sim m_L_act d 137 [some (.inr (.inr x0)), none, some (.inl x2), some (.inl x3), some (.inl x4), some (.inl x5), some (.inl x6), some (.inl x7), none] [.inl s0] h (f_L_act_137  x0 x2 x3 x4 x5 x6 x7 s0 h) := by
  unfold f_L_act_137
  refine sim_istore dL_act_137 (Nat.le_of_ble_eq_true rfl) ?_
  refine sim_iload_n dL_act_139 rfl ?_
  refine sim_bipush (14) dL_act_140 (by decide +kernel) ?_
  refine sim_ic_ge 369 dL_act_142 (by decide) (fun c => ?_) (fun c => ?_)
  · exact sim_lv (am_leS (am_leN (am_leS (am_leS (am_leS (am_leS (am_leS (am_leS (am_leS am_leT))))))))) (t_L_act_369 d (by omega) _ _ _ _ _ _ _ _ _)
  · refine sim_iload_n dL_act_145 rfl ?_
    refine sim_iconst (3) dL_act_146 (by decide +kernel) ?_
    refine sim_ic_ge 202 dL_act_147 (by decide) (fun c => ?_) (fun c => ?_)
    · exact sim_lv (am_leS (am_leN (am_leS (am_leS (am_leS (am_leS (am_leS (am_leN (am_leN am_leT))))))))) (t_L_act_202 d (by omega) _ _ _ _ _ _ _)
    · refine sim_aload_n dL_act_150 rfl ?_
      refine sim_iconst (3) dL_act_151 (by decide +kernel) ?_
      refine sim_iload_n dL_act_152 rfl ?_
      refine sim_if_eq 161 dL_act_153 (by decide) (fun c => ?_) (fun c => ?_)
      · exact sim_lv (am_leN (am_leN (am_leS (am_leN (am_leS (am_leN (am_leN (am_leN (am_leN am_leT))))))))) (t_L_act_161 d (by omega) _ _ _ _ _)
      · refine sim_iload dL_act_156 rfl ?_
        refine sim_goto 168 dL_act_158 (by decide) ?_
        exact sim_lv (am_leN (am_leN (am_leS (am_leN (am_leS (am_leN (am_leN (am_leN (am_leN am_leT))))))))) (t_L_act_168 d (by omega) _ _ _ _ _ _)
def f_L_act_108  (x0 : Option (Nat × Nat)) (x2 : Int32) (x3 : Int32) (x4 : Int32) (x5 : Int32) (x6 : Int32) (s0 : Int32) (h : am_H) : am_R := if x2 = 0 then (m_bI (f_L_low (x4 >>> ((3 : Int32) &&& 31)) (12 : Int32) h) fun h15 v16 => f_L_act_137 x0 x2 x3 x4 x5 x6 s0 v16 h15) else (m_bI (f_L_low (x4 >>> ((3 : Int32) &&& 31)) (33 : Int32) h) fun h17 v18 => f_L_act_137 x0 x2 x3 x4 x5 x6 s0 (v18 - (1 : Int32)) h17)
theorem t_L_act_108 (d : Nat) (hd : 14 ≤ d)  (x0 : Option (Nat × Nat)) (x2 : Int32) (x3 : Int32) (x4 : Int32) (x5 : Int32) (x6 : Int32) (s0 : Int32) (h : am_H) : Sim m_L_act d 108 [some (.inr (.inr x0)), none, some (.inl x2), some (.inl x3), some (.inl x4), some (.inl x5), some (.inl x6), none, none] [.inl s0] h (f_L_act_108  x0 x2 x3 x4 x5 x6 s0 h) := by
  unfold f_L_act_108
  refine sim_istore dL_act_108 (Nat.le_of_ble_eq_true rfl) ?_
  refine sim_iload_n dL_act_110 rfl ?_
  refine sim_if_eq 128 dL_act_111 (by decide) (fun c => ?_) (fun c => ?_)
  · refine sim_iload dL_act_128 rfl ?_
    refine sim_iconst (3) dL_act_130 (by decide +kernel) ?_
    refine sim_ishr dL_act_131 ?_
    refine sim_bipush (12) dL_act_132 (by decide +kernel) ?_
    refine sim_static (d - 1) dL_act_134 (k_L_low (d - 1) (by omega) _ _ _) q_L_low wm_RL_155 rfl rfl (by omega) (Nat.le_of_ble_eq_true rfl) am_nI (am_rI fun h15 v16 => ?_) am_eI
    exact sim_lv (am_leS (am_leN (am_leS (am_leS (am_leS (am_leS (am_leS (am_leS (am_leN am_leT))))))))) (t_L_act_137 d (by omega) _ _ _ _ _ _ _ _ _)
  · refine sim_iload dL_act_114 rfl ?_
    refine sim_iconst (3) dL_act_116 (by decide +kernel) ?_
    refine sim_ishr dL_act_117 ?_
    refine sim_bipush (33) dL_act_118 (by decide +kernel) ?_
    refine sim_static (d - 1) dL_act_120 (k_L_low (d - 1) (by omega) _ _ _) q_L_low wm_RL_155 rfl rfl (by omega) (Nat.le_of_ble_eq_true rfl) am_nI (am_rI fun h17 v18 => ?_) am_eI
    refine sim_iconst (1) dL_act_123 (by decide +kernel) ?_
    refine sim_isub dL_act_124 ?_
    refine sim_goto 137 dL_act_125 (by decide) ?_
    exact sim_lv (am_leS (am_leN (am_leS (am_leS (am_leS (am_leS (am_leS (am_leS (am_leN am_leT))))))))) (t_L_act_137 d (by omega) _ _ _ _ _ _ _ _ _)
def f_L_act_83  (x0 : Option (Nat × Nat)) (x2 : Int32) (x3 : Int32) (x4 : Int32) (x5 : Int32) (s0 : Int32) (h : am_H) : am_R := if x2 = 0 then (m_bI (f_L_low x4 (12 : Int32) h) fun h11 v12 => f_L_act_108 x0 x2 x3 x4 x5 s0 v12 h11) else (m_bI (f_L_low x4 (33 : Int32) h) fun h13 v14 => f_L_act_108 x0 x2 x3 x4 x5 s0 (v14 - (1 : Int32)) h13)
theorem t_L_act_83 (d : Nat) (hd : 14 ≤ d)  (x0 : Option (Nat × Nat)) (x2 : Int32) (x3 : Int32) (x4 : Int32) (x5 : Int32) (s0 : Int32) (h : am_H) : Sim m_L_act d 83 [some (.inr (.inr x0)), none, some (.inl x2), some (.inl x3), some (.inl x4), some (.inl x5), none, none, none] [.inl s0] h (f_L_act_83  x0 x2 x3 x4 x5 s0 h) := by
  unfold f_L_act_83
  refine sim_istore dL_act_83 (Nat.le_of_ble_eq_true rfl) ?_
  refine sim_iload_n dL_act_85 rfl ?_
  refine sim_if_eq 101 dL_act_86 (by decide) (fun c => ?_) (fun c => ?_)
  · refine sim_iload dL_act_101 rfl ?_
    refine sim_bipush (12) dL_act_103 (by decide +kernel) ?_
    refine sim_static (d - 1) dL_act_105 (k_L_low (d - 1) (by omega) _ _ _) q_L_low wm_RL_155 rfl rfl (by omega) (Nat.le_of_ble_eq_true rfl) am_nI (am_rI fun h11 v12 => ?_) am_eI
    exact sim_lv (am_leS (am_leN (am_leS (am_leS (am_leS (am_leS (am_leS (am_leN (am_leN am_leT))))))))) (t_L_act_108 d (by omega) _ _ _ _ _ _ _ _)
  · refine sim_iload dL_act_89 rfl ?_
    refine sim_bipush (33) dL_act_91 (by decide +kernel) ?_
    refine sim_static (d - 1) dL_act_93 (k_L_low (d - 1) (by omega) _ _ _) q_L_low wm_RL_155 rfl rfl (by omega) (Nat.le_of_ble_eq_true rfl) am_nI (am_rI fun h13 v14 => ?_) am_eI
    refine sim_iconst (1) dL_act_96 (by decide +kernel) ?_
    refine sim_isub dL_act_97 ?_
    refine sim_goto 108 dL_act_98 (by decide) ?_
    exact sim_lv (am_leS (am_leN (am_leS (am_leS (am_leS (am_leS (am_leS (am_leN (am_leN am_leT))))))))) (t_L_act_108 d (by omega) _ _ _ _ _ _ _ _)
def f_L_act_54  (x0 : Option (Nat × Nat)) (x2 : Int32) (x3 : Int32) (x4 : Int32) (s0 : Int32) (h : am_H) : am_R := if x2 = 0 then (m_bI (f_L_low (x4 >>> ((3 : Int32) &&& 31)) (10 : Int32) h) fun h7 v8 => f_L_act_83 x0 x2 x3 x4 s0 v8 h7) else (m_bI (f_L_low (x4 >>> ((3 : Int32) &&& 31)) (23 : Int32) h) fun h9 v10 => f_L_act_83 x0 x2 x3 x4 s0 (v10 - (1 : Int32)) h9)
theorem t_L_act_54 (d : Nat) (hd : 14 ≤ d)  (x0 : Option (Nat × Nat)) (x2 : Int32) (x3 : Int32) (x4 : Int32) (s0 : Int32) (h : am_H) : Sim m_L_act d 54 [some (.inr (.inr x0)), none, some (.inl x2), some (.inl x3), some (.inl x4), none, none, none, none] [.inl s0] h (f_L_act_54  x0 x2 x3 x4 s0 h) := by
  unfold f_L_act_54
  refine sim_istore dL_act_54 (Nat.le_of_ble_eq_true rfl) ?_
  refine sim_iload_n dL_act_56 rfl ?_
  refine sim_if_eq 74 dL_act_57 (by decide) (fun c => ?_) (fun c => ?_)
  · refine sim_iload dL_act_74 rfl ?_
    refine sim_iconst (3) dL_act_76 (by decide +kernel) ?_
    refine sim_ishr dL_act_77 ?_
    refine sim_bipush (10) dL_act_78 (by decide +kernel) ?_
    refine sim_static (d - 1) dL_act_80 (k_L_low (d - 1) (by omega) _ _ _) q_L_low wm_RL_155 rfl rfl (by omega) (Nat.le_of_ble_eq_true rfl) am_nI (am_rI fun h7 v8 => ?_) am_eI
    exact sim_lv (am_leS (am_leN (am_leS (am_leS (am_leS (am_leS (am_leN (am_leN (am_leN am_leT))))))))) (t_L_act_83 d (by omega) _ _ _ _ _ _ _)
  · refine sim_iload dL_act_60 rfl ?_
    refine sim_iconst (3) dL_act_62 (by decide +kernel) ?_
    refine sim_ishr dL_act_63 ?_
    refine sim_bipush (23) dL_act_64 (by decide +kernel) ?_
    refine sim_static (d - 1) dL_act_66 (k_L_low (d - 1) (by omega) _ _ _) q_L_low wm_RL_155 rfl rfl (by omega) (Nat.le_of_ble_eq_true rfl) am_nI (am_rI fun h9 v10 => ?_) am_eI
    refine sim_iconst (1) dL_act_69 (by decide +kernel) ?_
    refine sim_isub dL_act_70 ?_
    refine sim_goto 83 dL_act_71 (by decide) ?_
    exact sim_lv (am_leS (am_leN (am_leS (am_leS (am_leS (am_leS (am_leN (am_leN (am_leN am_leT))))))))) (t_L_act_83 d (by omega) _ _ _ _ _ _ _)
def f_L_act_17  (x0 : Option (Nat × Nat)) (x1 : Int32) (s0 : Int32) (h : am_H) : am_R := m_bI (f_L_low x1 (80 : Int32) h) fun h1 v2 => if s0 = 0 then (m_bI (f_L_low (x1 >>> ((7 : Int32) &&& 31)) (14 : Int32) h1) fun h3 v4 => f_L_act_54 x0 s0 v2 (x1 >>> ((7 : Int32) &&& 31)) v4 h3) else (m_bI (f_L_low (x1 >>> ((7 : Int32) &&& 31)) (35 : Int32) h1) fun h5 v6 => f_L_act_54 x0 s0 v2 (x1 >>> ((7 : Int32) &&& 31)) (v6 - (1 : Int32)) h5)
theorem t_L_act_17 (d : Nat) (hd : 14 ≤ d)  (x0 : Option (Nat × Nat)) (x1 : Int32) (s0 : Int32) (h : am_H) : Sim m_L_act d 17 [some (.inr (.inr x0)), some (.inl x1), none, none, none, none, none, none, none] [.inl s0] h (f_L_act_17  x0 x1 s0 h) := by
  unfold f_L_act_17
  refine sim_istore_n dL_act_17 (Nat.le_of_ble_eq_true rfl) ?_
  refine sim_iload_n dL_act_18 rfl ?_
  refine sim_bipush (80) dL_act_19 (by decide +kernel) ?_
  refine sim_static (d - 1) dL_act_21 (k_L_low (d - 1) (by omega) _ _ _) q_L_low wm_RL_155 rfl rfl (by omega) (Nat.le_of_ble_eq_true rfl) am_nI (am_rI fun h1 v2 => ?_) am_eI
  refine sim_istore_n dL_act_24 (Nat.le_of_ble_eq_true rfl) ?_
  refine sim_iload_n dL_act_25 rfl ?_
  refine sim_bipush (7) dL_act_26 (by decide +kernel) ?_
  refine sim_ishr dL_act_28 ?_
  refine sim_istore dL_act_29 (Nat.le_of_ble_eq_true rfl) ?_
  refine sim_iload_n dL_act_31 rfl ?_
  refine sim_if_eq 47 dL_act_32 (by decide) (fun c => ?_) (fun c => ?_)
  · refine sim_iload dL_act_47 rfl ?_
    refine sim_bipush (14) dL_act_49 (by decide +kernel) ?_
    refine sim_static (d - 1) dL_act_51 (k_L_low (d - 1) (by omega) _ _ _) q_L_low wm_RL_155 rfl rfl (by omega) (Nat.le_of_ble_eq_true rfl) am_nI (am_rI fun h3 v4 => ?_) am_eI
    exact sim_lv (am_leS (am_leN (am_leS (am_leS (am_leS (am_leN (am_leN (am_leN (am_leN am_leT))))))))) (t_L_act_54 d (by omega) _ _ _ _ _ _)
  · refine sim_iload dL_act_35 rfl ?_
    refine sim_bipush (35) dL_act_37 (by decide +kernel) ?_
    refine sim_static (d - 1) dL_act_39 (k_L_low (d - 1) (by omega) _ _ _) q_L_low wm_RL_155 rfl rfl (by omega) (Nat.le_of_ble_eq_true rfl) am_nI (am_rI fun h5 v6 => ?_) am_eI
    refine sim_iconst (1) dL_act_42 (by decide +kernel) ?_
    refine sim_isub dL_act_43 ?_
    refine sim_goto 54 dL_act_44 (by decide) ?_
    exact sim_lv (am_leS (am_leN (am_leS (am_leS (am_leS (am_leN (am_leN (am_leN (am_leN am_leT))))))))) (t_L_act_54 d (by omega) _ _ _ _ _ _)
def f_L_act (x0 : Option (Nat × Nat)) (x1 : Int32) (h : am_H) : am_R := if ((x1 >>> ((18 : Int32) &&& 31)) &&& (7 : Int32)) = (7 : Int32) then (f_L_act_17 x0 x1 (1 : Int32) h) else (f_L_act_17 x0 x1 (0 : Int32) h)
theorem k_L_act (d : Nat) (hd : 14 ≤ d) (x0 : Option (Nat × Nat)) (x1 : Int32) (h : am_H) : am_Con m_L_act d [.inr (.inr x0), .inl x1] h (f_L_act x0 x1 h) := am_con (by decide +kernel) (Nat.le_of_ble_eq_true rfl) (by
  unfold f_L_act
  refine sim_iload_n dL_act_0 rfl ?_
  refine sim_bipush (18) dL_act_1 (by decide +kernel) ?_
  refine sim_ishr dL_act_3 ?_
  refine sim_bipush (7) dL_act_4 (by decide +kernel) ?_
  refine sim_iand dL_act_6 ?_
  refine sim_bipush (7) dL_act_7 (by decide +kernel) ?_
  refine sim_ic_ne 16 dL_act_9 (by decide) (fun c => ?_) (fun c => ?_)
  · refine sim_iconst (0) dL_act_16 (by decide +kernel) ?_
    exact sim_lv (am_leS (am_leS (am_leN (am_leN (am_leN (am_leN (am_leN (am_leN (am_leN am_leT))))))))) (t_L_act_17 d (by omega) _ _ _ _)
  · refine sim_iconst (1) dL_act_12 (by decide +kernel) ?_
    refine sim_goto 17 dL_act_13 (by decide) ?_
    exact sim_lv (am_leS (am_leS (am_leN (am_leN (am_leN (am_leN (am_leN (am_leN (am_leN am_leT))))))))) (t_L_act_17 d (by omega) _ _ _ _))
