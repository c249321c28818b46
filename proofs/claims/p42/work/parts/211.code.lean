abbrev m_L_areParted : am_M := (yL_areParted, cL_areParted, 13, some .boolean, [])
def f_L_areParted_326  (s0 : Int32) (h : am_H) : am_R := m_rz h s0
theorem t_L_areParted_326 (d : Nat) (hd : 13 ≤ d)  (s0 : Int32) (h : am_H) : Sim m_L_areParted d 326 [none, none, none, none, none, none, none, none, none, none, none, none, none] [.inl s0] h (f_L_areParted_326  s0 h) := by
  unfold f_L_areParted_326
  exact sim_zret dL_areParted_326 rfl
def f_L_areParted_325   (h : am_H) : am_R := f_L_areParted_326 (0 : Int32) h
theorem t_L_areParted_325 (d : Nat) (hd : 13 ≤ d)   (h : am_H) : Sim m_L_areParted d 325 [none, none, none, none, none, none, none, none, none, none, none, none, none] [] h (f_L_areParted_325   h) := by
  unfold f_L_areParted_325
  refine sim_iconst (0) dL_areParted_325 (by decide +kernel) ?_
  exact sim_lv (am_leN (am_leN (am_leN (am_leN (am_leN (am_leN (am_leN (am_leN (am_leN (am_leN (am_leN (am_leN (am_leN am_leT))))))))))))) (t_L_areParted_326 d (by omega) _ _)
def f_L_areParted_254  : Nat → Option (Nat × Nat) → Int32 → Int32 → Int32 → Int32 → Int32 → Int32 → Int32 → am_H → am_R
  | 0, _, _, _, _, _, _, _, _, _ => none
  | n + 1, x0, x3, x5, x8, x9, x10, x11, x12, h => m_ao x0 10 fun a47 => m_bI (f_X10_result a47 x3 x11 h) fun h45 v46 => if v46 < 0 then (if x5 = 0 then (f_L_areParted_325 h45) else (m_ao x0 10 fun a50 => m_bI (f_X10_wipe a50 h45) fun h48 v49 => if v49 ≤ 0 then (f_L_areParted_325 h48) else (if (x9 &&& x10) = 0 then (if (x9 ||| x10) = x8 then (if x12 = x8 then (f_L_areParted_326 (1 : Int32) h48) else (f_L_areParted_325 h48)) else (f_L_areParted_325 h48)) else (f_L_areParted_325 h48)))) else (m_ao x0 10 fun a53 => m_bI (f_X10_result a53 x3 x11 h45) fun h51 v52 => (f_L_areParted_254  n) x0 x3 x5 x8 x9 x10 (x11 + 1) (x12 ||| ((1 : Int32) <<< (v52 &&& 31))) h51)
theorem t_L_areParted_254 (d : Nat) (hd : 13 ≤ d)  : ∀ (n : Nat) (x0 : Option (Nat × Nat)) (x3 : Int32) (x5 : Int32) (x8 : Int32) (x9 : Int32) (x10 : Int32) (x11 : Int32) (x12 : Int32) (h : am_H), Sim m_L_areParted d 254 [some (.inr (.inr x0)), none, none, some (.inl x3), none, some (.inl x5), none, none, some (.inl x8), some (.inl x9), some (.inl x10), some (.inl x11), some (.inl x12)] [] h (f_L_areParted_254  n x0 x3 x5 x8 x9 x10 x11 x12 h) := by
  intro n
  induction n with
  | zero => intros; exact sim_none
  | succ n hrc254 =>
    intro x0 x3 x5 x8 x9 x10 x11 x12 h
    rw [f_L_areParted_254]
    refine sim_aload_n dL_areParted_254 rfl ?_
    refine sim_iload_n dL_areParted_255 rfl ?_
    refine sim_iload dL_areParted_256 rfl ?_
    refine sim_ao2 (fun a47 e => ?_)
    refine sim_virt (d - 1) e dL_areParted_258 (k_X10_result (d - 1) (by omega) _ _ _ _) q_X10_result rfl rfl wm_RL_138 rfl rfl (by omega) (Nat.le_of_ble_eq_true rfl) am_nI (am_rI fun h45 v46 => ?_) am_eI
    refine sim_if_lt 284 dL_areParted_261 (by decide) (fun c => ?_) (fun c => ?_)
    · refine sim_iload dL_areParted_284 rfl ?_
      refine sim_if_eq 325 dL_areParted_286 (by decide) (fun c => ?_) (fun c => ?_)
      · exact sim_lv (am_leN (am_leN (am_leN (am_leN (am_leN (am_leN (am_leN (am_leN (am_leN (am_leN (am_leN (am_leN (am_leN am_leT))))))))))))) (t_L_areParted_325 d (by omega) _)
      · refine sim_aload_n dL_areParted_289 rfl ?_
        refine sim_ao0 (fun a50 e => ?_)
        refine sim_virt (d - 1) e dL_areParted_290 (k_X10_wipe (d - 1) (by omega) _  _) q_X10_wipe rfl rfl wm_RL_162 rfl rfl (by omega) (Nat.le_of_ble_eq_true rfl) am_nI (am_rI fun h48 v49 => ?_) am_eI
        refine sim_if_le 325 dL_areParted_293 (by decide) (fun c => ?_) (fun c => ?_)
        · exact sim_lv (am_leN (am_leN (am_leN (am_leN (am_leN (am_leN (am_leN (am_leN (am_leN (am_leN (am_leN (am_leN (am_leN am_leT))))))))))))) (t_L_areParted_325 d (by omega) _)
        · refine sim_iload dL_areParted_296 rfl ?_
          refine sim_iload dL_areParted_298 rfl ?_
          refine sim_iand dL_areParted_300 ?_
          refine sim_if_ne 325 dL_areParted_301 (by decide) (fun c => ?_) (fun c => ?_)
          · exact sim_lv (am_leN (am_leN (am_leN (am_leN (am_leN (am_leN (am_leN (am_leN (am_leN (am_leN (am_leN (am_leN (am_leN am_leT))))))))))))) (t_L_areParted_325 d (by omega) _)
          · refine sim_iload dL_areParted_304 rfl ?_
            refine sim_iload dL_areParted_306 rfl ?_
            refine sim_ior dL_areParted_308 ?_
            refine sim_iload dL_areParted_309 rfl ?_
            refine sim_ic_ne 325 dL_areParted_311 (by decide) (fun c => ?_) (fun c => ?_)
            · exact sim_lv (am_leN (am_leN (am_leN (am_leN (am_leN (am_leN (am_leN (am_leN (am_leN (am_leN (am_leN (am_leN (am_leN am_leT))))))))))))) (t_L_areParted_325 d (by omega) _)
            · refine sim_iload dL_areParted_314 rfl ?_
              refine sim_iload dL_areParted_316 rfl ?_
              refine sim_ic_ne 325 dL_areParted_318 (by decide) (fun c => ?_) (fun c => ?_)
              · exact sim_lv (am_leN (am_leN (am_leN (am_leN (am_leN (am_leN (am_leN (am_leN (am_leN (am_leN (am_leN (am_leN (am_leN am_leT))))))))))))) (t_L_areParted_325 d (by omega) _)
              · refine sim_iconst (1) dL_areParted_321 (by decide +kernel) ?_
                refine sim_goto 326 dL_areParted_322 (by decide) ?_
                exact sim_lv (am_leN (am_leN (am_leN (am_leN (am_leN (am_leN (am_leN (am_leN (am_leN (am_leN (am_leN (am_leN (am_leN am_leT))))))))))))) (t_L_areParted_326 d (by omega) _ _)
    · refine sim_iload dL_areParted_264 rfl ?_
      refine sim_iconst (1) dL_areParted_266 (by decide +kernel) ?_
      refine sim_aload_n dL_areParted_267 rfl ?_
      refine sim_iload_n dL_areParted_268 rfl ?_
      refine sim_iload dL_areParted_269 rfl ?_
      refine sim_ao2 (fun a53 e => ?_)
      refine sim_virt (d - 1) e dL_areParted_271 (k_X10_result (d - 1) (by omega) _ _ _ _) q_X10_result rfl rfl wm_RL_138 rfl rfl (by omega) (Nat.le_of_ble_eq_true rfl) am_nI (am_rI fun h51 v52 => ?_) am_eI
      refine sim_ishl dL_areParted_274 ?_
      refine sim_ior dL_areParted_275 ?_
      refine sim_istore dL_areParted_276 (Nat.le_of_ble_eq_true rfl) ?_
      refine sim_iinc (1) dL_areParted_278 rfl (by decide +kernel) (Nat.le_of_ble_eq_true rfl) ?_
      refine sim_goto 254 dL_areParted_281 (by decide) ?_
      exact sim_lv (am_leS (am_leN (am_leN (am_leS (am_leN (am_leS (am_leN (am_leN (am_leS (am_leS (am_leS (am_leS (am_leS am_leT))))))))))))) (hrc254 _ _ _ _ _ _ _ _ _)
def f_L_areParted_246  (x0 : Option (Nat × Nat)) (x3 : Int32) (x8 : Int32) (x9 : Int32) (x10 : Int32) (s0 : Int32) (h : am_H) : am_R := f_L_areParted_254 5000 x0 x3 s0 x8 x9 x10 (0 : Int32) (0 : Int32) h
theorem t_L_areParted_246 (d : Nat) (hd : 13 ≤ d)  (x0 : Option (Nat × Nat)) (x3 : Int32) (x8 : Int32) (x9 : Int32) (x10 : Int32) (s0 : Int32) (h : am_H) : Sim m_L_areParted d 246 [some (.inr (.inr x0)), none, none, some (.inl x3), none, none, none, none, some (.inl x8), some (.inl x9), some (.inl x10), none, none] [.inl s0] h (f_L_areParted_246  x0 x3 x8 x9 x10 s0 h) := by
  unfold f_L_areParted_246
  refine sim_istore dL_areParted_246 (Nat.le_of_ble_eq_true rfl) ?_
  refine sim_iconst (0) dL_areParted_248 (by decide +kernel) ?_
  refine sim_istore dL_areParted_249 (Nat.le_of_ble_eq_true rfl) ?_
  refine sim_iconst (0) dL_areParted_251 (by decide +kernel) ?_
  refine sim_istore dL_areParted_252 (Nat.le_of_ble_eq_true rfl) ?_
  exact sim_lv (am_leS (am_leN (am_leN (am_leS (am_leN (am_leS (am_leN (am_leN (am_leS (am_leS (am_leS (am_leS (am_leS am_leT))))))))))))) (t_L_areParted_254 d (by omega) _ _ _ _ _ _ _ _ _ _)
def f_L_areParted_228   (h : am_H) : am_R := m_rz h (0 : Int32)
theorem t_L_areParted_228 (d : Nat) (hd : 13 ≤ d)   (h : am_H) : Sim m_L_areParted d 228 [none, none, none, none, none, none, none, none, none, none, none, none, none] [] h (f_L_areParted_228   h) := by
  unfold f_L_areParted_228
  refine sim_iconst (0) dL_areParted_228 (by decide +kernel) ?_
  exact sim_zret dL_areParted_229 rfl
def f_L_areParted_204  (x0 : Option (Nat × Nat)) (x3 : Int32) (x6 : Int32) (x7 : Int32) (x8 : Int32) (x9 : Int32) (s0 : Int32) (s1 : Int32) (s2 : Option (Nat × Nat)) (h : am_H) : am_R := m_ao s2 10 fun a36 => m_bI (f_X10_search a36 s1 s0 h) fun h34 v35 => m_bI (f_L_types x0 (5 : Int32) x6 x7 h34) fun h37 v38 => if v38 = 0 then (f_L_areParted_228 h37) else (m_ao x0 10 fun a41 => m_bI (f_X10_fault a41 h37) fun h39 v40 => if v40 < 0 then (m_ao x0 10 fun a44 => m_bI (f_X10_search a44 x3 (0 : Int32) h39) fun h42 v43 => if v43 = x8 then (f_L_areParted_246 x0 x3 x8 x9 v35 (1 : Int32) h42) else (f_L_areParted_246 x0 x3 x8 x9 v35 (0 : Int32) h42)) else (f_L_areParted_228 h39))
theorem t_L_areParted_204 (d : Nat) (hd : 13 ≤ d)  (x0 : Option (Nat × Nat)) (x3 : Int32) (x6 : Int32) (x7 : Int32) (x8 : Int32) (x9 : Int32) (s0 : Int32) (s1 : Int32) (s2 : Option (Nat × Nat)) (h : am_H) : Sim m_L_areParted d 204 [some (.inr (.inr x0)), none, none, some (.inl x3), none, none, some (.inl x6), some (.inl x7), some (.inl x8), some (.inl x9), none, none, none] [.inl s0, .inl s1, .inr (.inr s2)] h (f_L_areParted_204  x0 x3 x6 x7 x8 x9 s0 s1 s2 h) := by
  unfold f_L_areParted_204
  refine sim_ao2 (fun a36 e => ?_)
  refine sim_virt (d - 1) e dL_areParted_204 (k_X10_search (d - 1) (by omega) _ _ _ _) q_X10_search rfl rfl wm_RL_135 rfl rfl (by omega) (Nat.le_of_ble_eq_true rfl) am_nI (am_rI fun h34 v35 => ?_) am_eI
  refine sim_istore dL_areParted_207 (Nat.le_of_ble_eq_true rfl) ?_
  refine sim_aload_n dL_areParted_209 rfl ?_
  refine sim_iconst (5) dL_areParted_210 (by decide +kernel) ?_
  refine sim_iload dL_areParted_211 rfl ?_
  refine sim_iload dL_areParted_213 rfl ?_
  refine sim_static (d - 1) dL_areParted_215 (k_L_types (d - 1) (by omega) _ _ _ _ _) q_L_types wm_RL_158 rfl rfl (by omega) (Nat.le_of_ble_eq_true rfl) am_nI (am_rI fun h37 v38 => ?_) am_eI
  refine sim_if_eq 228 dL_areParted_218 (by decide) (fun c => ?_) (fun c => ?_)
  · exact sim_lv (am_leN (am_leN (am_leN (am_leN (am_leN (am_leN (am_leN (am_leN (am_leN (am_leN (am_leN (am_leN (am_leN am_leT))))))))))))) (t_L_areParted_228 d (by omega) _)
  · refine sim_aload_n dL_areParted_221 rfl ?_
    refine sim_ao0 (fun a41 e => ?_)
    refine sim_virt (d - 1) e dL_areParted_222 (k_X10_fault (d - 1) (by omega) _  _) q_X10_fault rfl rfl wm_RL_169 rfl rfl (by omega) (Nat.le_of_ble_eq_true rfl) am_nI (am_rI fun h39 v40 => ?_) am_eI
    refine sim_if_lt 230 dL_areParted_225 (by decide) (fun c => ?_) (fun c => ?_)
    · refine sim_aload_n dL_areParted_230 rfl ?_
      refine sim_iload_n dL_areParted_231 rfl ?_
      refine sim_iconst (0) dL_areParted_232 (by decide +kernel) ?_
      refine sim_ao2 (fun a44 e => ?_)
      refine sim_virt (d - 1) e dL_areParted_233 (k_X10_search (d - 1) (by omega) _ _ _ _) q_X10_search rfl rfl wm_RL_135 rfl rfl (by omega) (Nat.le_of_ble_eq_true rfl) am_nI (am_rI fun h42 v43 => ?_) am_eI
      refine sim_iload dL_areParted_236 rfl ?_
      refine sim_ic_ne 245 dL_areParted_238 (by decide) (fun c => ?_) (fun c => ?_)
      · refine sim_iconst (0) dL_areParted_245 (by decide +kernel) ?_
        exact sim_lv (am_leS (am_leN (am_leN (am_leS (am_leN (am_leN (am_leN (am_leN (am_leS (am_leS (am_leS (am_leN (am_leN am_leT))))))))))))) (t_L_areParted_246 d (by omega) _ _ _ _ _ _ _)
      · refine sim_iconst (1) dL_areParted_241 (by decide +kernel) ?_
        refine sim_goto 246 dL_areParted_242 (by decide) ?_
        exact sim_lv (am_leS (am_leN (am_leN (am_leS (am_leN (am_leN (am_leN (am_leN (am_leS (am_leS (am_leS (am_leN (am_leN am_leT))))))))))))) (t_L_areParted_246 d (by omega) _ _ _ _ _ _ _)
    · exact sim_lv (am_leN (am_leN (am_leN (am_leN (am_leN (am_leN (am_leN (am_leN (am_leN (am_leN (am_leN (am_leN (am_leN am_leT))))))))))))) (t_L_areParted_228 d (by omega) _)
def f_L_areParted_188   (h : am_H) : am_R := m_rz h (0 : Int32)
theorem t_L_areParted_188 (d : Nat) (hd : 13 ≤ d)   (h : am_H) : Sim m_L_areParted d 188 [none, none, none, none, none, none, none, none, none, none, none, none, none] [] h (f_L_areParted_188   h) := by
  unfold f_L_areParted_188
  refine sim_iconst (0) dL_areParted_188 (by decide +kernel) ?_
  exact sim_zret dL_areParted_189 rfl
def f_L_areParted_157  (x0 : Option (Nat × Nat)) (x2 : Int32) (x3 : Int32) (x6 : Int32) (x7 : Int32) (x8 : Int32) (s0 : Int32) (s1 : Int32) (s2 : Option (Nat × Nat)) (h : am_H) : am_R := m_ao s2 10 fun a25 => m_bI (f_X10_search a25 s1 s0 h) fun h23 v24 => m_ao x0 10 fun a28 => m_bI (f_X10_wipe a28 h23) fun h26 v27 => if v27 = 0 then (f_L_areParted_188 h26) else (m_bI (f_L_types x0 (1 : Int32) x6 x7 h26) fun h29 v30 => if v30 = 0 then (f_L_areParted_188 h29) else (m_ao x0 10 fun a33 => m_bI (f_X10_fault a33 h29) fun h31 v32 => if v32 < 0 then (if (x2 &&& (1 : Int32)) = (1 : Int32) then (f_L_areParted_204 x0 x3 x6 x7 x8 v24 (1 : Int32) x3 x0 h31) else (f_L_areParted_204 x0 x3 x6 x7 x8 v24 (0 : Int32) x3 x0 h31)) else (f_L_areParted_188 h31)))
theorem t_L_areParted_157 (d : Nat) (hd : 13 ≤ d)  (x0 : Option (Nat × Nat)) (x2 : Int32) (x3 : Int32) (x6 : Int32) (x7 : Int32) (x8 : Int32) (s0 : Int32) (s1 : Int32) (s2 : Option (Nat × Nat)) (h : am_H) : Sim m_L_areParted d 157 [some (.inr (.inr x0)), none, some (.inl x2), some (.inl x3), none, none, some (.inl x6), some (.inl x7), some (.inl x8), none, none, none, none] [.inl s0, .inl s1, .inr (.inr s2)] h (f_L_areParted_157  x0 x2 x3 x6 x7 x8 s0 s1 s2 h) := by
  unfold f_L_areParted_157
  refine sim_ao2 (fun a25 e => ?_)
  refine sim_virt (d - 1) e dL_areParted_157 (k_X10_search (d - 1) (by omega) _ _ _ _) q_X10_search rfl rfl wm_RL_135 rfl rfl (by omega) (Nat.le_of_ble_eq_true rfl) am_nI (am_rI fun h23 v24 => ?_) am_eI
  refine sim_istore dL_areParted_160 (Nat.le_of_ble_eq_true rfl) ?_
  refine sim_aload_n dL_areParted_162 rfl ?_
  refine sim_ao0 (fun a28 e => ?_)
  refine sim_virt (d - 1) e dL_areParted_163 (k_X10_wipe (d - 1) (by omega) _  _) q_X10_wipe rfl rfl wm_RL_162 rfl rfl (by omega) (Nat.le_of_ble_eq_true rfl) am_nI (am_rI fun h26 v27 => ?_) am_eI
  refine sim_if_eq 188 dL_areParted_166 (by decide) (fun c => ?_) (fun c => ?_)
  · exact sim_lv (am_leN (am_leN (am_leN (am_leN (am_leN (am_leN (am_leN (am_leN (am_leN (am_leN (am_leN (am_leN (am_leN am_leT))))))))))))) (t_L_areParted_188 d (by omega) _)
  · refine sim_aload_n dL_areParted_169 rfl ?_
    refine sim_iconst (1) dL_areParted_170 (by decide +kernel) ?_
    refine sim_iload dL_areParted_171 rfl ?_
    refine sim_iload dL_areParted_173 rfl ?_
    refine sim_static (d - 1) dL_areParted_175 (k_L_types (d - 1) (by omega) _ _ _ _ _) q_L_types wm_RL_158 rfl rfl (by omega) (Nat.le_of_ble_eq_true rfl) am_nI (am_rI fun h29 v30 => ?_) am_eI
    refine sim_if_eq 188 dL_areParted_178 (by decide) (fun c => ?_) (fun c => ?_)
    · exact sim_lv (am_leN (am_leN (am_leN (am_leN (am_leN (am_leN (am_leN (am_leN (am_leN (am_leN (am_leN (am_leN (am_leN am_leT))))))))))))) (t_L_areParted_188 d (by omega) _)
    · refine sim_aload_n dL_areParted_181 rfl ?_
      refine sim_ao0 (fun a33 e => ?_)
      refine sim_virt (d - 1) e dL_areParted_182 (k_X10_fault (d - 1) (by omega) _  _) q_X10_fault rfl rfl wm_RL_169 rfl rfl (by omega) (Nat.le_of_ble_eq_true rfl) am_nI (am_rI fun h31 v32 => ?_) am_eI
      refine sim_if_lt 190 dL_areParted_185 (by decide) (fun c => ?_) (fun c => ?_)
      · refine sim_aload_n dL_areParted_190 rfl ?_
        refine sim_iload_n dL_areParted_191 rfl ?_
        refine sim_iload_n dL_areParted_192 rfl ?_
        refine sim_iconst (1) dL_areParted_193 (by decide +kernel) ?_
        refine sim_iand dL_areParted_194 ?_
        refine sim_iconst (1) dL_areParted_195 (by decide +kernel) ?_
        refine sim_ic_ne 203 dL_areParted_196 (by decide) (fun c => ?_) (fun c => ?_)
        · refine sim_iconst (0) dL_areParted_203 (by decide +kernel) ?_
          exact sim_lv (am_leS (am_leN (am_leN (am_leS (am_leN (am_leN (am_leS (am_leS (am_leS (am_leS (am_leN (am_leN (am_leN am_leT))))))))))))) (t_L_areParted_204 d (by omega) _ _ _ _ _ _ _ _ _ _)
        · refine sim_iconst (1) dL_areParted_199 (by decide +kernel) ?_
          refine sim_goto 204 dL_areParted_200 (by decide) ?_
          exact sim_lv (am_leS (am_leN (am_leN (am_leS (am_leN (am_leN (am_leS (am_leS (am_leS (am_leS (am_leN (am_leN (am_leN am_leT))))))))))))) (t_L_areParted_204 d (by omega) _ _ _ _ _ _ _ _ _ _)
      · exact sim_lv (am_leN (am_leN (am_leN (am_leN (am_leN (am_leN (am_leN (am_leN (am_leN (am_leN (am_leN (am_leN (am_leN am_leT))))))))))))) (t_L_areParted_188 d (by omega) _)
def f_L_areParted_141   (h : am_H) : am_R := m_rz h (0 : Int32)
theorem t_L_areParted_141 (d : Nat) (hd : 13 ≤ d)   (h : am_H) : Sim m_L_areParted d 141 [none, none, none, none, none, none, none, none, none, none, none, none, none] [] h (f_L_areParted_141   h) := by
  unfold f_L_areParted_141
  refine sim_iconst (0) dL_areParted_141 (by decide +kernel) ?_
  exact sim_zret dL_areParted_142 rfl
def f_L_areParted_108 (rc74 : Option (Nat × Nat) → Int32 → Int32 → Int32 → Int32 → Int32 → Int32 → Int32 → am_H → am_R) (x0 : Option (Nat × Nat)) (x2 : Int32) (x3 : Int32) (x5 : Int32) (x6 : Int32) (x7 : Int32) (x9 : Int32) (s0 : Int32) (s1 : Int32) (h : am_H) : am_R := rc74 x0 x2 x3 x5 x6 x7 (s1 ||| s0) (x9 + 1) h
theorem t_L_areParted_108 (d : Nat) (hd : 13 ≤ d) (rc74 : Option (Nat × Nat) → Int32 → Int32 → Int32 → Int32 → Int32 → Int32 → Int32 → am_H → am_R) (hrc74 : ∀ x0 x2 x3 x5 x6 x7 x8 x9 h, Sim m_L_areParted d 74 [some (.inr (.inr x0)), none, some (.inl x2), some (.inl x3), none, some (.inl x5), some (.inl x6), some (.inl x7), some (.inl x8), some (.inl x9), none, none, none] [] h (rc74 x0 x2 x3 x5 x6 x7 x8 x9 h)) (x0 : Option (Nat × Nat)) (x2 : Int32) (x3 : Int32) (x5 : Int32) (x6 : Int32) (x7 : Int32) (x9 : Int32) (s0 : Int32) (s1 : Int32) (h : am_H) : Sim m_L_areParted d 108 [some (.inr (.inr x0)), none, some (.inl x2), some (.inl x3), none, some (.inl x5), some (.inl x6), some (.inl x7), none, some (.inl x9), none, none, none] [.inl s0, .inl s1] h (f_L_areParted_108 rc74 x0 x2 x3 x5 x6 x7 x9 s0 s1 h) := by
  unfold f_L_areParted_108
  refine sim_ior dL_areParted_108 ?_
  refine sim_istore dL_areParted_109 (Nat.le_of_ble_eq_true rfl) ?_
  refine sim_iinc (1) dL_areParted_111 rfl (by decide +kernel) (Nat.le_of_ble_eq_true rfl) ?_
  refine sim_goto 74 dL_areParted_114 (by decide) ?_
  exact sim_lv (am_leS (am_leN (am_leS (am_leS (am_leN (am_leS (am_leS (am_leS (am_leS (am_leS (am_leN (am_leN (am_leN am_leT))))))))))))) (hrc74 _ _ _ _ _ _ _ _ _)
def f_L_areParted_74  : Nat → Option (Nat × Nat) → Int32 → Int32 → Int32 → Int32 → Int32 → Int32 → Int32 → am_H → am_R
  | 0, _, _, _, _, _, _, _, _, _ => none
  | n + 1, x0, x2, x3, x5, x6, x7, x8, x9, h => m_bI (f_L_does x0 (11 : Int32) x3 x9 (0 : Int32) (0 : Int32) h) fun h13 v14 => if v14 < 0 then (if x5 = 0 then (f_L_areParted_141 h13) else (m_bI (f_L_types x0 (0 : Int32) x6 x7 h13) fun h15 v16 => if v16 = 0 then (f_L_areParted_141 h15) else (m_ao x0 10 fun a19 => m_bI (f_X10_fault a19 h15) fun h17 v18 => if v18 < 0 then (if (x2 &&& (1 : Int32)) = (1 : Int32) then (f_L_areParted_157 x0 x2 x3 x6 x7 x8 (1 : Int32) x3 x0 h17) else (f_L_areParted_157 x0 x2 x3 x6 x7 x8 (0 : Int32) x3 x0 h17)) else (f_L_areParted_141 h17)))) else (m_ao x0 10 fun a22 => m_bI (f_X10_sees a22 x3 x9 h13) fun h20 v21 => if v21 = 0 then (f_L_areParted_108 (f_L_areParted_74  n) x0 x2 x3 x5 x6 x7 x9 (0 : Int32) x8 h20) else (f_L_areParted_108 (f_L_areParted_74  n) x0 x2 x3 x5 x6 x7 x9 ((1 : Int32) <<< (x9 &&& 31)) x8 h20))
theorem t_L_areParted_74 (d : Nat) (hd : 13 ≤ d)  : ∀ (n : Nat) (x0 : Option (Nat × Nat)) (x2 : Int32) (x3 : Int32) (x5 : Int32) (x6 : Int32) (x7 : Int32) (x8 : Int32) (x9 : Int32) (h : am_H), Sim m_L_areParted d 74 [some (.inr (.inr x0)), none, some (.inl x2), some (.inl x3), none, some (.inl x5), some (.inl x6), some (.inl x7), some (.inl x8), some (.inl x9), none, none, none] [] h (f_L_areParted_74  n x0 x2 x3 x5 x6 x7 x8 x9 h) := by
  intro n
  induction n with
  | zero => intros; exact sim_none
  | succ n hrc74 =>
    intro x0 x2 x3 x5 x6 x7 x8 x9 h
    rw [f_L_areParted_74]
    refine sim_aload_n dL_areParted_74 rfl ?_
    refine sim_bipush (11) dL_areParted_75 (by decide +kernel) ?_
    refine sim_iload_n dL_areParted_77 rfl ?_
    refine sim_iload dL_areParted_78 rfl ?_
    refine sim_iconst (0) dL_areParted_80 (by decide +kernel) ?_
    refine sim_iconst (0) dL_areParted_81 (by decide +kernel) ?_
    refine sim_staticX (d - 1) dL_areParted_82 (k_L_does (d - 1) (by omega) _ _ _ _ _ _ _) q_L_does wm_RL_152 rfl rfl (by omega) (Nat.le_of_ble_eq_true rfl) am_nI (am_rI fun h13 v14 => ?_) am_eI
    refine sim_if_lt 117 dL_areParted_85 (by decide) (fun c => ?_) (fun c => ?_)
    · refine sim_iload dL_areParted_117 rfl ?_
      refine sim_if_eq 141 dL_areParted_119 (by decide) (fun c => ?_) (fun c => ?_)
      · exact sim_lv (am_leN (am_leN (am_leN (am_leN (am_leN (am_leN (am_leN (am_leN (am_leN (am_leN (am_leN (am_leN (am_leN am_leT))))))))))))) (t_L_areParted_141 d (by omega) _)
      · refine sim_aload_n dL_areParted_122 rfl ?_
        refine sim_iconst (0) dL_areParted_123 (by decide +kernel) ?_
        refine sim_iload dL_areParted_124 rfl ?_
        refine sim_iload dL_areParted_126 rfl ?_
        refine sim_static (d - 1) dL_areParted_128 (k_L_types (d - 1) (by omega) _ _ _ _ _) q_L_types wm_RL_158 rfl rfl (by omega) (Nat.le_of_ble_eq_true rfl) am_nI (am_rI fun h15 v16 => ?_) am_eI
        refine sim_if_eq 141 dL_areParted_131 (by decide) (fun c => ?_) (fun c => ?_)
        · exact sim_lv (am_leN (am_leN (am_leN (am_leN (am_leN (am_leN (am_leN (am_leN (am_leN (am_leN (am_leN (am_leN (am_leN am_leT))))))))))))) (t_L_areParted_141 d (by omega) _)
        · refine sim_aload_n dL_areParted_134 rfl ?_
          refine sim_ao0 (fun a19 e => ?_)
          refine sim_virt (d - 1) e dL_areParted_135 (k_X10_fault (d - 1) (by omega) _  _) q_X10_fault rfl rfl wm_RL_169 rfl rfl (by omega) (Nat.le_of_ble_eq_true rfl) am_nI (am_rI fun h17 v18 => ?_) am_eI
          refine sim_if_lt 143 dL_areParted_138 (by decide) (fun c => ?_) (fun c => ?_)
          · refine sim_aload_n dL_areParted_143 rfl ?_
            refine sim_iload_n dL_areParted_144 rfl ?_
            refine sim_iload_n dL_areParted_145 rfl ?_
            refine sim_iconst (1) dL_areParted_146 (by decide +kernel) ?_
            refine sim_iand dL_areParted_147 ?_
            refine sim_iconst (1) dL_areParted_148 (by decide +kernel) ?_
            refine sim_ic_ne 156 dL_areParted_149 (by decide) (fun c => ?_) (fun c => ?_)
            · refine sim_iconst (0) dL_areParted_156 (by decide +kernel) ?_
              exact sim_lv (am_leS (am_leN (am_leS (am_leS (am_leN (am_leN (am_leS (am_leS (am_leS (am_leN (am_leN (am_leN (am_leN am_leT))))))))))))) (t_L_areParted_157 d (by omega) _ _ _ _ _ _ _ _ _ _)
            · refine sim_iconst (1) dL_areParted_152 (by decide +kernel) ?_
              refine sim_goto 157 dL_areParted_153 (by decide) ?_
              exact sim_lv (am_leS (am_leN (am_leS (am_leS (am_leN (am_leN (am_leS (am_leS (am_leS (am_leN (am_leN (am_leN (am_leN am_leT))))))))))))) (t_L_areParted_157 d (by omega) _ _ _ _ _ _ _ _ _ _)
          · exact sim_lv (am_leN (am_leN (am_leN (am_leN (am_leN (am_leN (am_leN (am_leN (am_leN (am_leN (am_leN (am_leN (am_leN am_leT))))))))))))) (t_L_areParted_141 d (by omega) _)
    · refine sim_iload dL_areParted_88 rfl ?_
      refine sim_aload_n dL_areParted_90 rfl ?_
      refine sim_iload_n dL_areParted_91 rfl ?_
      refine sim_iload dL_areParted_92 rfl ?_
      refine sim_ao2 (fun a22 e => ?_)
      refine sim_virt (d - 1) e dL_areParted_94 (k_X10_sees (d - 1) (by omega) _ _ _ _) q_X10_sees rfl rfl wm_RL_99 rfl rfl (by omega) (Nat.le_of_ble_eq_true rfl) am_nI (am_rI fun h20 v21 => ?_) am_eI
      refine sim_if_eq 107 dL_areParted_97 (by decide) (fun c => ?_) (fun c => ?_)
      · refine sim_iconst (0) dL_areParted_107 (by decide +kernel) ?_
        exact sim_lv (am_leS (am_leN (am_leS (am_leS (am_leN (am_leS (am_leS (am_leS (am_leN (am_leS (am_leN (am_leN (am_leN am_leT))))))))))))) (t_L_areParted_108 d (by omega) _ hrc74 _ _ _ _ _ _ _ _ _ _)
      · refine sim_iconst (1) dL_areParted_100 (by decide +kernel) ?_
        refine sim_iload dL_areParted_101 rfl ?_
        refine sim_ishl dL_areParted_103 ?_
        refine sim_goto 108 dL_areParted_104 (by decide) ?_
        exact sim_lv (am_leS (am_leN (am_leS (am_leS (am_leN (am_leS (am_leS (am_leS (am_leN (am_leS (am_leN (am_leN (am_leN am_leT))))))))))))) (t_L_areParted_108 d (by omega) _ hrc74 _ _ _ _ _ _ _ _ _ _)
def f_L_areParted_63  (x0 : Option (Nat × Nat)) (x2 : Int32) (x3 : Int32) (x5 : Int32) (x6 : Int32) (s0 : Int32) (s1 : Int32) (h : am_H) : am_R := m_bI (f_L_low s1 s0 h) fun h11 v12 => f_L_areParted_74 5000 x0 x2 x3 x5 x6 v12 (0 : Int32) (0 : Int32) h11
theorem t_L_areParted_63 (d : Nat) (hd : 13 ≤ d)  (x0 : Option (Nat × Nat)) (x2 : Int32) (x3 : Int32) (x5 : Int32) (x6 : Int32) (s0 : Int32) (s1 : Int32) (h : am_H) : Sim m_L_areParted d 63 [some (.inr (.inr x0)), none, some (.inl x2), some (.inl x3), none, some (.inl x5), some (.inl x6), none, none, none, none, none, none] [.inl s0, .inl s1] h (f_L_areParted_63  x0 x2 x3 x5 x6 s0 s1 h) := by
  unfold f_L_areParted_63
  refine sim_static (d - 1) dL_areParted_63 (k_L_low (d - 1) (by omega) _ _ _) q_L_low wm_RL_155 rfl rfl (by omega) (Nat.le_of_ble_eq_true rfl) am_nI (am_rI fun h11 v12 => ?_) am_eI
  refine sim_istore dL_areParted_66 (Nat.le_of_ble_eq_true rfl) ?_
  refine sim_iconst (0) dL_areParted_68 (by decide +kernel) ?_
  refine sim_istore dL_areParted_69 (Nat.le_of_ble_eq_true rfl) ?_
  refine sim_iconst (0) dL_areParted_71 (by decide +kernel) ?_
  refine sim_istore dL_areParted_72 (Nat.le_of_ble_eq_true rfl) ?_
  exact sim_lv (am_leS (am_leN (am_leS (am_leS (am_leN (am_leS (am_leS (am_leS (am_leS (am_leS (am_leN (am_leN (am_leN am_leT))))))))))))) (t_L_areParted_74 d (by omega) _ _ _ _ _ _ _ _ _ _)
def f_L_areParted_27  (x0 : Option (Nat × Nat)) (x2 : Int32) (x3 : Int32) (s0 : Int32) (h : am_H) : am_R := m_bI (f_L_low (x2 >>> ((3 : Int32) &&& 31)) (3 : Int32) h) fun h9 v10 => if v10 = 0 then (f_L_areParted_63 x0 x2 x3 s0 v10 (16 : Int32) (x2 >>> ((4 : Int32) &&& 31)) h9) else (if v10 = (1 : Int32) then (f_L_areParted_63 x0 x2 x3 s0 v10 (12 : Int32) (x2 >>> ((4 : Int32) &&& 31)) h9) else (f_L_areParted_63 x0 x2 x3 s0 v10 (4 : Int32) (x2 >>> ((4 : Int32) &&& 31)) h9))
theorem t_L_areParted_27 (d : Nat) (hd : 13 ≤ d)  (x0 : Option (Nat × Nat)) (x2 : Int32) (x3 : Int32) (s0 : Int32) (h : am_H) : Sim m_L_areParted d 27 [some (.inr (.inr x0)), none, some (.inl x2), some (.inl x3), none, none, none, none, none, none, none, none, none] [.inl s0] h (f_L_areParted_27  x0 x2 x3 s0 h) := by
  unfold f_L_areParted_27
  refine sim_istore dL_areParted_27 (Nat.le_of_ble_eq_true rfl) ?_
  refine sim_iload_n dL_areParted_29 rfl ?_
  refine sim_iconst (3) dL_areParted_30 (by decide +kernel) ?_
  refine sim_ishr dL_areParted_31 ?_
  refine sim_iconst (3) dL_areParted_32 (by decide +kernel) ?_
  refine sim_static (d - 1) dL_areParted_33 (k_L_low (d - 1) (by omega) _ _ _) q_L_low wm_RL_155 rfl rfl (by omega) (Nat.le_of_ble_eq_true rfl) am_nI (am_rI fun h9 v10 => ?_) am_eI
  refine sim_istore dL_areParted_36 (Nat.le_of_ble_eq_true rfl) ?_
  refine sim_iload_n dL_areParted_38 rfl ?_
  refine sim_iconst (4) dL_areParted_39 (by decide +kernel) ?_
  refine sim_ishr dL_areParted_40 ?_
  refine sim_iload dL_areParted_41 rfl ?_
  refine sim_if_ne 51 dL_areParted_43 (by decide) (fun c => ?_) (fun c => ?_)
  · refine sim_iload dL_areParted_51 rfl ?_
    refine sim_iconst (1) dL_areParted_53 (by decide +kernel) ?_
    refine sim_ic_ne 62 dL_areParted_54 (by decide) (fun c => ?_) (fun c => ?_)
    · refine sim_iconst (4) dL_areParted_62 (by decide +kernel) ?_
      exact sim_lv (am_leS (am_leN (am_leS (am_leS (am_leN (am_leS (am_leS (am_leN (am_leN (am_leN (am_leN (am_leN (am_leN am_leT))))))))))))) (t_L_areParted_63 d (by omega) _ _ _ _ _ _ _ _)
    · refine sim_bipush (12) dL_areParted_57 (by decide +kernel) ?_
      refine sim_goto 63 dL_areParted_59 (by decide) ?_
      exact sim_lv (am_leS (am_leN (am_leS (am_leS (am_leN (am_leS (am_leS (am_leN (am_leN (am_leN (am_leN (am_leN (am_leN am_leT))))))))))))) (t_L_areParted_63 d (by omega) _ _ _ _ _ _ _ _)
  · refine sim_bipush (16) dL_areParted_46 (by decide +kernel) ?_
    refine sim_goto 63 dL_areParted_48 (by decide) ?_
    exact sim_lv (am_leS (am_leN (am_leS (am_leS (am_leN (am_leS (am_leS (am_leN (am_leN (am_leN (am_leN (am_leN (am_leN am_leT))))))))))))) (t_L_areParted_63 d (by omega) _ _ _ _ _ _ _ _)
def f_L_areParted (x0 : Option (Nat × Nat)) (x1 : Option (Nat × Nat)) (x2 : Int32) (h : am_H) : am_R := m_bI (f_L_low x2 (32 : Int32) h) fun h1 v2 => m_ao x0 10 fun a5 => m_bI (f_X10_wipe a5 h1) fun h3 v4 => m_ao x1 10 fun a8 => m_bI (f_X10_wipe a8 h3) fun h6 v7 => if v7 = v4 then (f_L_areParted_27 x0 x2 v2 (1 : Int32) h6) else (f_L_areParted_27 x0 x2 v2 (0 : Int32) h6)
theorem k_L_areParted (d : Nat) (hd : 13 ≤ d) (x0 : Option (Nat × Nat)) (x1 : Option (Nat × Nat)) (x2 : Int32) (h : am_H) : am_Con m_L_areParted d [.inr (.inr x0), .inr (.inr x1), .inl x2] h (f_L_areParted x0 x1 x2 h) := am_con (by decide +kernel) (Nat.le_of_ble_eq_true rfl) (by
  unfold f_L_areParted
  refine sim_iload_n dL_areParted_0 rfl ?_
  refine sim_bipush (32) dL_areParted_1 (by decide +kernel) ?_
  refine sim_static (d - 1) dL_areParted_3 (k_L_low (d - 1) (by omega) _ _ _) q_L_low wm_RL_155 rfl rfl (by omega) (Nat.le_of_ble_eq_true rfl) am_nI (am_rI fun h1 v2 => ?_) am_eI
  refine sim_istore_n dL_areParted_6 (Nat.le_of_ble_eq_true rfl) ?_
  refine sim_aload_n dL_areParted_7 rfl ?_
  refine sim_ao0 (fun a5 e => ?_)
  refine sim_virt (d - 1) e dL_areParted_8 (k_X10_wipe (d - 1) (by omega) _  _) q_X10_wipe rfl rfl wm_RL_162 rfl rfl (by omega) (Nat.le_of_ble_eq_true rfl) am_nI (am_rI fun h3 v4 => ?_) am_eI
  refine sim_istore dL_areParted_11 (Nat.le_of_ble_eq_true rfl) ?_
  refine sim_aload_n dL_areParted_13 rfl ?_
  refine sim_ao0 (fun a8 e => ?_)
  refine sim_virt (d - 1) e dL_areParted_14 (k_X10_wipe (d - 1) (by omega) _  _) q_X10_wipe rfl rfl wm_RL_162 rfl rfl (by omega) (Nat.le_of_ble_eq_true rfl) am_nI (am_rI fun h6 v7 => ?_) am_eI
  refine sim_iload dL_areParted_17 rfl ?_
  refine sim_ic_ne 26 dL_areParted_19 (by decide) (fun c => ?_) (fun c => ?_)
  · refine sim_iconst (0) dL_areParted_26 (by decide +kernel) ?_
    exact sim_lv (am_leS (am_leN (am_leS (am_leS (am_leN (am_leN (am_leN (am_leN (am_leN (am_leN (am_leN (am_leN (am_leN am_leT))))))))))))) (t_L_areParted_27 d (by omega) _ _ _ _ _)
  · refine sim_iconst (1) dL_areParted_22 (by decide +kernel) ?_
    refine sim_goto 27 dL_areParted_23 (by decide) ?_
    exact sim_lv (am_leS (am_leN (am_leS (am_leS (am_leN (am_leN (am_leN (am_leN (am_leN (am_leN (am_leN (am_leN (am_leN am_leT))))))))))))) (t_L_areParted_27 d (by omega) _ _ _ _ _))
theorem q_L_areParted : am_Cal m_L_areParted 3 0 := ⟨am_mem 1004 (w := Cond.code yL_areParted cL_areParted 13 (some .boolean)) (by decide +kernel) rfl, am_mem 29 (w := Cond.initialized RL) (by decide +kernel) rfl, fun _ => am_mem 1003 (w := Cond.static yL_areParted) (by decide +kernel) rfl, fun z => absurd rfl z, fun z => absurd z (by decide), fun z => absurd z (by decide), by decide +kernel, by decide +kernel, Nat.le_of_ble_eq_true rfl⟩
abbrev m_L_areTags : am_M := (yL_areTags, cL_areTags, 8, some .boolean, [])
def f_L_areTags_280  (x1 : Int32) (h : am_H) : am_R := m_rz h x1
theorem t_L_areTags_280 (d : Nat) (hd : 12 ≤ d)  (x1 : Int32) (h : am_H) : Sim m_L_areTags d 280 [none, some (.inl x1), none, none, none, none, none, none] [] h (f_L_areTags_280  x1 h) := by
  unfold f_L_areTags_280
  refine sim_iload_n dL_areTags_280 rfl ?_
  exact sim_zret dL_areTags_281 rfl
def f_L_areTags_273 (rc223 : Option (Nat × Nat) → Int32 → Int32 → Int32 → am_H → am_R) (x0 : Option (Nat × Nat)) (x3 : Int32) (x4 : Int32) (s0 : Int32) (h : am_H) : am_R := rc223 x0 s0 x3 (x4 + 1) h
theorem t_L_areTags_273 (d : Nat) (hd : 12 ≤ d) (rc223 : Option (Nat × Nat) → Int32 → Int32 → Int32 → am_H → am_R) (hrc223 : ∀ x0 x1 x3 x4 h, Sim m_L_areTags d 223 [some (.inr (.inr x0)), some (.inl x1), none, some (.inl x3), some (.inl x4), none, none, none] [] h (rc223 x0 x1 x3 x4 h)) (x0 : Option (Nat × Nat)) (x3 : Int32) (x4 : Int32) (s0 : Int32) (h : am_H) : Sim m_L_areTags d 273 [some (.inr (.inr x0)), none, none, some (.inl x3), some (.inl x4), none, none, none] [.inl s0] h (f_L_areTags_273 rc223 x0 x3 x4 s0 h) := by
  unfold f_L_areTags_273
  refine sim_istore_n dL_areTags_273 (Nat.le_of_ble_eq_true rfl) ?_
  refine sim_iinc (1) dL_areTags_274 rfl (by decide +kernel) (Nat.le_of_ble_eq_true rfl) ?_
  refine sim_goto 223 dL_areTags_277 (by decide) ?_
  exact sim_lv (am_leS (am_leS (am_leN (am_leS (am_leS (am_leN (am_leN (am_leN am_leT)))))))) (hrc223 _ _ _ _ _)
def f_L_areTags_268 (rc223 : Option (Nat × Nat) → Int32 → Int32 → Int32 → am_H → am_R) (x0 : Option (Nat × Nat)) (x3 : Int32) (x4 : Int32) (h : am_H) : am_R := f_L_areTags_273 rc223 x0 x3 x4 (1 : Int32) h
theorem t_L_areTags_268 (d : Nat) (hd : 12 ≤ d) (rc223 : Option (Nat × Nat) → Int32 → Int32 → Int32 → am_H → am_R) (hrc223 : ∀ x0 x1 x3 x4 h, Sim m_L_areTags d 223 [some (.inr (.inr x0)), some (.inl x1), none, some (.inl x3), some (.inl x4), none, none, none] [] h (rc223 x0 x1 x3 x4 h)) (x0 : Option (Nat × Nat)) (x3 : Int32) (x4 : Int32) (h : am_H) : Sim m_L_areTags d 268 [some (.inr (.inr x0)), none, none, some (.inl x3), some (.inl x4), none, none, none] [] h (f_L_areTags_268 rc223 x0 x3 x4 h) := by
  unfold f_L_areTags_268
  refine sim_iconst (1) dL_areTags_268 (by decide +kernel) ?_
  refine sim_goto 273 dL_areTags_269 (by decide) ?_
  exact sim_lv (am_leS (am_leN (am_leN (am_leS (am_leS (am_leN (am_leN (am_leN am_leT)))))))) (t_L_areTags_273 d (by omega) _ hrc223 _ _ _ _ _)
def f_L_areTags_223  : Nat → Option (Nat × Nat) → Int32 → Int32 → Int32 → am_H → am_R
  | 0, _, _, _, _, _ => none
  | n + 1, x0, x1, x3, x4, h => m_bI (f_L_does x0 (20 : Int32) x4 (0 : Int32) (0 : Int32) (0 : Int32) h) fun h24 v25 => if v25 < 0 then (f_L_areTags_280 x1 h24) else (if x1 = 0 then (f_L_areTags_280 x1 h24) else (if ((x3 >>> (x4 &&& 31)) &&& (1 : Int32)) = (1 : Int32) then (f_L_areTags_268 (f_L_areTags_223  n) x0 x3 x4 h24) else (m_ao x0 10 fun a28 => m_bI (f_X10_under a28 x4 (0 : Int32) h24) fun h26 v27 => m_ao x0 10 fun a31 => m_bI (f_X10_under a31 x4 (1 : Int32) h26) fun h29 v30 => if v27 = v30 then (f_L_areTags_268 (f_L_areTags_223  n) x0 x3 x4 h29) else (f_L_areTags_273 (f_L_areTags_223  n) x0 x3 x4 (0 : Int32) h29))))
theorem t_L_areTags_223 (d : Nat) (hd : 12 ≤ d)  : ∀ (n : Nat) (x0 : Option (Nat × Nat)) (x1 : Int32) (x3 : Int32) (x4 : Int32) (h : am_H), Sim m_L_areTags d 223 [some (.inr (.inr x0)), some (.inl x1), none, some (.inl x3), some (.inl x4), none, none, none] [] h (f_L_areTags_223  n x0 x1 x3 x4 h) := by
  intro n
  induction n with
  | zero => intros; exact sim_none
  | succ n hrc223 =>
    intro x0 x1 x3 x4 h
    rw [f_L_areTags_223]
    refine sim_aload_n dL_areTags_223 rfl ?_
    refine sim_bipush (20) dL_areTags_224 (by decide +kernel) ?_
    refine sim_iload dL_areTags_226 rfl ?_
    refine sim_iconst (0) dL_areTags_228 (by decide +kernel) ?_
    refine sim_iconst (0) dL_areTags_229 (by decide +kernel) ?_
    refine sim_iconst (0) dL_areTags_230 (by decide +kernel) ?_
    refine sim_staticX (d - 1) dL_areTags_231 (k_L_does (d - 1) (by omega) _ _ _ _ _ _ _) q_L_does wm_RL_152 rfl rfl (by omega) (Nat.le_of_ble_eq_true rfl) am_nI (am_rI fun h24 v25 => ?_) am_eI
    refine sim_if_lt 280 dL_areTags_234 (by decide) (fun c => ?_) (fun c => ?_)
    · exact sim_lv (am_leN (am_leS (am_leN (am_leN (am_leN (am_leN (am_leN (am_leN am_leT)))))))) (t_L_areTags_280 d (by omega) _ _)
    · refine sim_iload_n dL_areTags_237 rfl ?_
      refine sim_if_eq 280 dL_areTags_238 (by decide) (fun c => ?_) (fun c => ?_)
      · exact sim_lv (am_leN (am_leS (am_leN (am_leN (am_leN (am_leN (am_leN (am_leN am_leT)))))))) (t_L_areTags_280 d (by omega) _ _)
      · refine sim_iload_n dL_areTags_241 rfl ?_
        refine sim_iload dL_areTags_242 rfl ?_
        refine sim_ishr dL_areTags_244 ?_
        refine sim_iconst (1) dL_areTags_245 (by decide +kernel) ?_
        refine sim_iand dL_areTags_246 ?_
        refine sim_iconst (1) dL_areTags_247 (by decide +kernel) ?_
        refine sim_ic_eq 268 dL_areTags_248 (by decide) (fun c => ?_) (fun c => ?_)
        · exact sim_lv (am_leS (am_leN (am_leN (am_leS (am_leS (am_leN (am_leN (am_leN am_leT)))))))) (t_L_areTags_268 d (by omega) _ hrc223 _ _ _ _)
        · refine sim_aload_n dL_areTags_251 rfl ?_
          refine sim_iload dL_areTags_252 rfl ?_
          refine sim_iconst (0) dL_areTags_254 (by decide +kernel) ?_
          refine sim_ao2 (fun a28 e => ?_)
          refine sim_virt (d - 1) e dL_areTags_255 (k_X10_under (d - 1) (by omega) _ _ _ _) q_X10_under rfl rfl wm_RL_127 rfl rfl (by omega) (Nat.le_of_ble_eq_true rfl) am_nI (am_rI fun h26 v27 => ?_) am_eI
          refine sim_aload_n dL_areTags_258 rfl ?_
          refine sim_iload dL_areTags_259 rfl ?_
          refine sim_iconst (1) dL_areTags_261 (by decide +kernel) ?_
          refine sim_ao2 (fun a31 e => ?_)
          refine sim_virt (d - 1) e dL_areTags_262 (k_X10_under (d - 1) (by omega) _ _ _ _) q_X10_under rfl rfl wm_RL_127 rfl rfl (by omega) (Nat.le_of_ble_eq_true rfl) am_nI (am_rI fun h29 v30 => ?_) am_eI
          refine sim_ic_ne 272 dL_areTags_265 (by decide) (fun c => ?_) (fun c => ?_)
          · refine sim_iconst (0) dL_areTags_272 (by decide +kernel) ?_
            exact sim_lv (am_leS (am_leN (am_leN (am_leS (am_leS (am_leN (am_leN (am_leN am_leT)))))))) (t_L_areTags_273 d (by omega) _ hrc223 _ _ _ _ _)
          · exact sim_lv (am_leS (am_leN (am_leN (am_leS (am_leS (am_leN (am_leN (am_leN am_leT)))))))) (t_L_areTags_268 d (by omega) _ hrc223 _ _ _ _)
def f_L_areTags_215  (x0 : Option (Nat × Nat)) (x1 : Int32) (h : am_H) : am_R := m_ao x0 10 fun a23 => m_bI (f_X10_waiting a23 h) fun h21 v22 => f_L_areTags_223 5000 x0 x1 v22 (0 : Int32) h21
theorem t_L_areTags_215 (d : Nat) (hd : 12 ≤ d)  (x0 : Option (Nat × Nat)) (x1 : Int32) (h : am_H) : Sim m_L_areTags d 215 [some (.inr (.inr x0)), some (.inl x1), none, none, none, none, none, none] [] h (f_L_areTags_215  x0 x1 h) := by
  unfold f_L_areTags_215
  refine sim_aload_n dL_areTags_215 rfl ?_
  refine sim_ao0 (fun a23 e => ?_)
  refine sim_virt (d - 1) e dL_areTags_216 (k_X10_waiting (d - 1) (by omega) _  _) q_X10_waiting rfl rfl wm_RL_172 rfl rfl (by omega) (Nat.le_of_ble_eq_true rfl) am_nI (am_rI fun h21 v22 => ?_) am_eI
  refine sim_istore_n dL_areTags_219 (Nat.le_of_ble_eq_true rfl) ?_
  refine sim_iconst (0) dL_areTags_220 (by decide +kernel) ?_
  refine sim_istore dL_areTags_221 (Nat.le_of_ble_eq_true rfl) ?_
  exact sim_lv (am_leS (am_leS (am_leN (am_leS (am_leS (am_leN (am_leN (am_leN am_leT)))))))) (t_L_areTags_223 d (by omega) _ _ _ _ _ _)
def f_L_areTags_209 (rc25 : Option (Nat × Nat) → Int32 → Int32 → Int32 → am_H → am_R) (x0 : Option (Nat × Nat)) (x1 : Int32) (x2 : Int32) (x3 : Int32) (h : am_H) : am_R := rc25 x0 x1 x2 (x3 + 1) h
theorem t_L_areTags_209 (d : Nat) (hd : 12 ≤ d) (rc25 : Option (Nat × Nat) → Int32 → Int32 → Int32 → am_H → am_R) (hrc25 : ∀ x0 x1 x2 x3 h, Sim m_L_areTags d 25 [some (.inr (.inr x0)), some (.inl x1), some (.inl x2), some (.inl x3), none, none, none, none] [] h (rc25 x0 x1 x2 x3 h)) (x0 : Option (Nat × Nat)) (x1 : Int32) (x2 : Int32) (x3 : Int32) (h : am_H) : Sim m_L_areTags d 209 [some (.inr (.inr x0)), some (.inl x1), some (.inl x2), some (.inl x3), none, none, none, none] [] h (f_L_areTags_209 rc25 x0 x1 x2 x3 h) := by
  unfold f_L_areTags_209
  refine sim_iinc (1) dL_areTags_209 rfl (by decide +kernel) (Nat.le_of_ble_eq_true rfl) ?_
  refine sim_goto 25 dL_areTags_212 (by decide) ?_
  exact sim_lv (am_leS (am_leS (am_leS (am_leS (am_leN (am_leN (am_leN (am_leN am_leT)))))))) (hrc25 _ _ _ _ _)
def f_L_areTags_202 (rc25 : Option (Nat × Nat) → Int32 → Int32 → Int32 → am_H → am_R) (rc151 : Option (Nat × Nat) → Int32 → Int32 → Int32 → Int32 → Int32 → am_H → am_R) (x0 : Option (Nat × Nat)) (x2 : Int32) (x3 : Int32) (x6 : Int32) (x7 : Int32) (s0 : Int32) (h : am_H) : am_R := rc151 x0 s0 x2 x3 x6 (x7 + 1) h
theorem t_L_areTags_202 (d : Nat) (hd : 12 ≤ d) (rc25 : Option (Nat × Nat) → Int32 → Int32 → Int32 → am_H → am_R) (hrc25 : ∀ x0 x1 x2 x3 h, Sim m_L_areTags d 25 [some (.inr (.inr x0)), some (.inl x1), some (.inl x2), some (.inl x3), none, none, none, none] [] h (rc25 x0 x1 x2 x3 h)) (rc151 : Option (Nat × Nat) → Int32 → Int32 → Int32 → Int32 → Int32 → am_H → am_R) (hrc151 : ∀ x0 x1 x2 x3 x6 x7 h, Sim m_L_areTags d 151 [some (.inr (.inr x0)), some (.inl x1), some (.inl x2), some (.inl x3), none, none, some (.inl x6), some (.inl x7)] [] h (rc151 x0 x1 x2 x3 x6 x7 h)) (x0 : Option (Nat × Nat)) (x2 : Int32) (x3 : Int32) (x6 : Int32) (x7 : Int32) (s0 : Int32) (h : am_H) : Sim m_L_areTags d 202 [some (.inr (.inr x0)), none, some (.inl x2), some (.inl x3), none, none, some (.inl x6), some (.inl x7)] [.inl s0] h (f_L_areTags_202 rc25 rc151 x0 x2 x3 x6 x7 s0 h) := by
  unfold f_L_areTags_202
  refine sim_istore_n dL_areTags_202 (Nat.le_of_ble_eq_true rfl) ?_
  refine sim_iinc (1) dL_areTags_203 rfl (by decide +kernel) (Nat.le_of_ble_eq_true rfl) ?_
  refine sim_goto 151 dL_areTags_206 (by decide) ?_
  exact sim_lv (am_leS (am_leS (am_leS (am_leS (am_leN (am_leN (am_leS (am_leS am_leT)))))))) (hrc151 _ _ _ _ _ _ _)
def f_L_areTags_201 (rc25 : Option (Nat × Nat) → Int32 → Int32 → Int32 → am_H → am_R) (rc151 : Option (Nat × Nat) → Int32 → Int32 → Int32 → Int32 → Int32 → am_H → am_R) (x0 : Option (Nat × Nat)) (x2 : Int32) (x3 : Int32) (x6 : Int32) (x7 : Int32) (h : am_H) : am_R := f_L_areTags_202 rc25 rc151 x0 x2 x3 x6 x7 (0 : Int32) h
theorem t_L_areTags_201 (d : Nat) (hd : 12 ≤ d) (rc25 : Option (Nat × Nat) → Int32 → Int32 → Int32 → am_H → am_R) (hrc25 : ∀ x0 x1 x2 x3 h, Sim m_L_areTags d 25 [some (.inr (.inr x0)), some (.inl x1), some (.inl x2), some (.inl x3), none, none, none, none] [] h (rc25 x0 x1 x2 x3 h)) (rc151 : Option (Nat × Nat) → Int32 → Int32 → Int32 → Int32 → Int32 → am_H → am_R) (hrc151 : ∀ x0 x1 x2 x3 x6 x7 h, Sim m_L_areTags d 151 [some (.inr (.inr x0)), some (.inl x1), some (.inl x2), some (.inl x3), none, none, some (.inl x6), some (.inl x7)] [] h (rc151 x0 x1 x2 x3 x6 x7 h)) (x0 : Option (Nat × Nat)) (x2 : Int32) (x3 : Int32) (x6 : Int32) (x7 : Int32) (h : am_H) : Sim m_L_areTags d 201 [some (.inr (.inr x0)), none, some (.inl x2), some (.inl x3), none, none, some (.inl x6), some (.inl x7)] [] h (f_L_areTags_201 rc25 rc151 x0 x2 x3 x6 x7 h) := by
  unfold f_L_areTags_201
  refine sim_iconst (0) dL_areTags_201 (by decide +kernel) ?_
  exact sim_lv (am_leS (am_leN (am_leS (am_leS (am_leN (am_leN (am_leS (am_leS am_leT)))))))) (t_L_areTags_202 d (by omega) _ hrc25 _ hrc151 _ _ _ _ _ _ _)
def f_L_areTags_197 (rc25 : Option (Nat × Nat) → Int32 → Int32 → Int32 → am_H → am_R) (rc151 : Option (Nat × Nat) → Int32 → Int32 → Int32 → Int32 → Int32 → am_H → am_R) (x0 : Option (Nat × Nat)) (x2 : Int32) (x3 : Int32) (x6 : Int32) (x7 : Int32) (h : am_H) : am_R := f_L_areTags_202 rc25 rc151 x0 x2 x3 x6 x7 (1 : Int32) h
theorem t_L_areTags_197 (d : Nat) (hd : 12 ≤ d) (rc25 : Option (Nat × Nat) → Int32 → Int32 → Int32 → am_H → am_R) (hrc25 : ∀ x0 x1 x2 x3 h, Sim m_L_areTags d 25 [some (.inr (.inr x0)), some (.inl x1), some (.inl x2), some (.inl x3), none, none, none, none] [] h (rc25 x0 x1 x2 x3 h)) (rc151 : Option (Nat × Nat) → Int32 → Int32 → Int32 → Int32 → Int32 → am_H → am_R) (hrc151 : ∀ x0 x1 x2 x3 x6 x7 h, Sim m_L_areTags d 151 [some (.inr (.inr x0)), some (.inl x1), some (.inl x2), some (.inl x3), none, none, some (.inl x6), some (.inl x7)] [] h (rc151 x0 x1 x2 x3 x6 x7 h)) (x0 : Option (Nat × Nat)) (x2 : Int32) (x3 : Int32) (x6 : Int32) (x7 : Int32) (h : am_H) : Sim m_L_areTags d 197 [some (.inr (.inr x0)), none, some (.inl x2), some (.inl x3), none, none, some (.inl x6), some (.inl x7)] [] h (f_L_areTags_197 rc25 rc151 x0 x2 x3 x6 x7 h) := by
  unfold f_L_areTags_197
  refine sim_iconst (1) dL_areTags_197 (by decide +kernel) ?_
  refine sim_goto 202 dL_areTags_198 (by decide) ?_
  exact sim_lv (am_leS (am_leN (am_leS (am_leS (am_leN (am_leN (am_leS (am_leS am_leT)))))))) (t_L_areTags_202 d (by omega) _ hrc25 _ hrc151 _ _ _ _ _ _ _)
def f_L_areTags_151 (rc25 : Option (Nat × Nat) → Int32 → Int32 → Int32 → am_H → am_R) : Nat → Option (Nat × Nat) → Int32 → Int32 → Int32 → Int32 → Int32 → am_H → am_R
  | 0, _, _, _, _, _, _, _ => none
  | n + 1, x0, x1, x2, x3, x6, x7, h => if x2 ≤ x7 then (f_L_areTags_209 rc25 x0 x1 x2 x3 h) else (if x1 = 0 then (f_L_areTags_209 rc25 x0 x1 x2 x3 h) else (if ((x6 >>> (x7 &&& 31)) &&& (1 : Int32)) = 0 then (f_L_areTags_197 rc25 (f_L_areTags_151 rc25 n) x0 x2 x3 x6 x7 h) else (m_ao x0 10 fun a17 => m_bI (f_X10_ofTag a17 x7 (0 : Int32) h) fun h15 v16 => if v16 = (1 : Int32) then (m_ao x0 10 fun a20 => m_bI (f_X10_ofTag a20 x7 (2 : Int32) h15) fun h18 v19 => if (v19 &&& (x6 ^^^ (-1 : Int32))) = 0 then (f_L_areTags_197 rc25 (f_L_areTags_151 rc25 n) x0 x2 x3 x6 x7 h18) else (f_L_areTags_201 rc25 (f_L_areTags_151 rc25 n) x0 x2 x3 x6 x7 h18)) else (f_L_areTags_201 rc25 (f_L_areTags_151 rc25 n) x0 x2 x3 x6 x7 h15))))
theorem t_L_areTags_151 (d : Nat) (hd : 12 ≤ d) (rc25 : Option (Nat × Nat) → Int32 → Int32 → Int32 → am_H → am_R) (hrc25 : ∀ x0 x1 x2 x3 h, Sim m_L_areTags d 25 [some (.inr (.inr x0)), some (.inl x1), some (.inl x2), some (.inl x3), none, none, none, none] [] h (rc25 x0 x1 x2 x3 h)) : ∀ (n : Nat) (x0 : Option (Nat × Nat)) (x1 : Int32) (x2 : Int32) (x3 : Int32) (x6 : Int32) (x7 : Int32) (h : am_H), Sim m_L_areTags d 151 [some (.inr (.inr x0)), some (.inl x1), some (.inl x2), some (.inl x3), none, none, some (.inl x6), some (.inl x7)] [] h (f_L_areTags_151 rc25 n x0 x1 x2 x3 x6 x7 h) := by
  intro n
  induction n with
  | zero => intros; exact sim_none
  | succ n hrc151 =>
    intro x0 x1 x2 x3 x6 x7 h
    rw [f_L_areTags_151]
    refine sim_iload dL_areTags_151 rfl ?_
    refine sim_iload_n dL_areTags_153 rfl ?_
    refine sim_ic_ge 209 dL_areTags_154 (by decide) (fun c => ?_) (fun c => ?_)
    · exact sim_lv (am_leS (am_leS (am_leS (am_leS (am_leN (am_leN (am_leN (am_leN am_leT)))))))) (t_L_areTags_209 d (by omega) _ hrc25 _ _ _ _ _)
    · refine sim_iload_n dL_areTags_157 rfl ?_
      refine sim_if_eq 209 dL_areTags_158 (by decide) (fun c => ?_) (fun c => ?_)
      · exact sim_lv (am_leS (am_leS (am_leS (am_leS (am_leN (am_leN (am_leN (am_leN am_leT)))))))) (t_L_areTags_209 d (by omega) _ hrc25 _ _ _ _ _)
      · refine sim_iload dL_areTags_161 rfl ?_
        refine sim_iload dL_areTags_163 rfl ?_
        refine sim_ishr dL_areTags_165 ?_
        refine sim_iconst (1) dL_areTags_166 (by decide +kernel) ?_
        refine sim_iand dL_areTags_167 ?_
        refine sim_if_eq 197 dL_areTags_168 (by decide) (fun c => ?_) (fun c => ?_)
        · exact sim_lv (am_leS (am_leN (am_leS (am_leS (am_leN (am_leN (am_leS (am_leS am_leT)))))))) (t_L_areTags_197 d (by omega) _ hrc25 _ hrc151 _ _ _ _ _ _)
        · refine sim_aload_n dL_areTags_171 rfl ?_
          refine sim_iload dL_areTags_172 rfl ?_
          refine sim_iconst (0) dL_areTags_174 (by decide +kernel) ?_
          refine sim_ao2 (fun a17 e => ?_)
          refine sim_virt (d - 1) e dL_areTags_175 (k_X10_ofTag (d - 1) (by omega) _ _ _ _) q_X10_ofTag rfl rfl wm_RL_118 rfl rfl (by omega) (Nat.le_of_ble_eq_true rfl) am_nI (am_rI fun h15 v16 => ?_) am_eI
          refine sim_iconst (1) dL_areTags_178 (by decide +kernel) ?_
          refine sim_ic_ne 201 dL_areTags_179 (by decide) (fun c => ?_) (fun c => ?_)
          · exact sim_lv (am_leS (am_leN (am_leS (am_leS (am_leN (am_leN (am_leS (am_leS am_leT)))))))) (t_L_areTags_201 d (by omega) _ hrc25 _ hrc151 _ _ _ _ _ _)
          · refine sim_aload_n dL_areTags_182 rfl ?_
            refine sim_iload dL_areTags_183 rfl ?_
            refine sim_iconst (2) dL_areTags_185 (by decide +kernel) ?_
            refine sim_ao2 (fun a20 e => ?_)
            refine sim_virt (d - 1) e dL_areTags_186 (k_X10_ofTag (d - 1) (by omega) _ _ _ _) q_X10_ofTag rfl rfl wm_RL_118 rfl rfl (by omega) (Nat.le_of_ble_eq_true rfl) am_nI (am_rI fun h18 v19 => ?_) am_eI
            refine sim_iload dL_areTags_189 rfl ?_
            refine sim_iconst (-1) dL_areTags_191 (by decide +kernel) ?_
            refine sim_ixor dL_areTags_192 ?_
            refine sim_iand dL_areTags_193 ?_
            refine sim_if_ne 201 dL_areTags_194 (by decide) (fun c => ?_) (fun c => ?_)
            · exact sim_lv (am_leS (am_leN (am_leS (am_leS (am_leN (am_leN (am_leS (am_leS am_leT)))))))) (t_L_areTags_201 d (by omega) _ hrc25 _ hrc151 _ _ _ _ _ _)
            · exact sim_lv (am_leS (am_leN (am_leS (am_leS (am_leN (am_leN (am_leS (am_leS am_leT)))))))) (t_L_areTags_197 d (by omega) _ hrc25 _ hrc151 _ _ _ _ _ _)
def f_L_areTags_147 (rc25 : Option (Nat × Nat) → Int32 → Int32 → Int32 → am_H → am_R) (x0 : Option (Nat × Nat)) (x2 : Int32) (x3 : Int32) (x6 : Int32) (s0 : Int32) (h : am_H) : am_R := f_L_areTags_151 rc25 5000 x0 s0 x2 x3 x6 (0 : Int32) h
theorem t_L_areTags_147 (d : Nat) (hd : 12 ≤ d) (rc25 : Option (Nat × Nat) → Int32 → Int32 → Int32 → am_H → am_R) (hrc25 : ∀ x0 x1 x2 x3 h, Sim m_L_areTags d 25 [some (.inr (.inr x0)), some (.inl x1), some (.inl x2), some (.inl x3), none, none, none, none] [] h (rc25 x0 x1 x2 x3 h)) (x0 : Option (Nat × Nat)) (x2 : Int32) (x3 : Int32) (x6 : Int32) (s0 : Int32) (h : am_H) : Sim m_L_areTags d 147 [some (.inr (.inr x0)), none, some (.inl x2), some (.inl x3), none, none, some (.inl x6), none] [.inl s0] h (f_L_areTags_147 rc25 x0 x2 x3 x6 s0 h) := by
  unfold f_L_areTags_147
  refine sim_istore_n dL_areTags_147 (Nat.le_of_ble_eq_true rfl) ?_
  refine sim_iconst (0) dL_areTags_148 (by decide +kernel) ?_
  refine sim_istore dL_areTags_149 (Nat.le_of_ble_eq_true rfl) ?_
  exact sim_lv (am_leS (am_leS (am_leS (am_leS (am_leN (am_leN (am_leS (am_leS am_leT)))))))) (t_L_areTags_151 d (by omega) _ hrc25 _ _ _ _ _ _ _ _)
def f_L_areTags_146 (rc25 : Option (Nat × Nat) → Int32 → Int32 → Int32 → am_H → am_R) (x0 : Option (Nat × Nat)) (x2 : Int32) (x3 : Int32) (x6 : Int32) (h : am_H) : am_R := f_L_areTags_147 rc25 x0 x2 x3 x6 (0 : Int32) h
theorem t_L_areTags_146 (d : Nat) (hd : 12 ≤ d) (rc25 : Option (Nat × Nat) → Int32 → Int32 → Int32 → am_H → am_R) (hrc25 : ∀ x0 x1 x2 x3 h, Sim m_L_areTags d 25 [some (.inr (.inr x0)), some (.inl x1), some (.inl x2), some (.inl x3), none, none, none, none] [] h (rc25 x0 x1 x2 x3 h)) (x0 : Option (Nat × Nat)) (x2 : Int32) (x3 : Int32) (x6 : Int32) (h : am_H) : Sim m_L_areTags d 146 [some (.inr (.inr x0)), none, some (.inl x2), some (.inl x3), none, none, some (.inl x6), none] [] h (f_L_areTags_146 rc25 x0 x2 x3 x6 h) := by
  unfold f_L_areTags_146
  refine sim_iconst (0) dL_areTags_146 (by decide +kernel) ?_
  exact sim_lv (am_leS (am_leN (am_leS (am_leS (am_leN (am_leN (am_leS (am_leN am_leT)))))))) (t_L_areTags_147 d (by omega) _ hrc25 _ _ _ _ _ _)
def f_L_areTags_142 (rc25 : Option (Nat × Nat) → Int32 → Int32 → Int32 → am_H → am_R) (x0 : Option (Nat × Nat)) (x2 : Int32) (x3 : Int32) (x6 : Int32) (h : am_H) : am_R := f_L_areTags_147 rc25 x0 x2 x3 x6 (1 : Int32) h
theorem t_L_areTags_142 (d : Nat) (hd : 12 ≤ d) (rc25 : Option (Nat × Nat) → Int32 → Int32 → Int32 → am_H → am_R) (hrc25 : ∀ x0 x1 x2 x3 h, Sim m_L_areTags d 25 [some (.inr (.inr x0)), some (.inl x1), some (.inl x2), some (.inl x3), none, none, none, none] [] h (rc25 x0 x1 x2 x3 h)) (x0 : Option (Nat × Nat)) (x2 : Int32) (x3 : Int32) (x6 : Int32) (h : am_H) : Sim m_L_areTags d 142 [some (.inr (.inr x0)), none, some (.inl x2), some (.inl x3), none, none, some (.inl x6), none] [] h (f_L_areTags_142 rc25 x0 x2 x3 x6 h) := by
  unfold f_L_areTags_142
  refine sim_iconst (1) dL_areTags_142 (by decide +kernel) ?_
  refine sim_goto 147 dL_areTags_143 (by decide) ?_
  exact sim_lv (am_leS (am_leN (am_leS (am_leS (am_leN (am_leN (am_leS (am_leN am_leT)))))))) (t_L_areTags_147 d (by omega) _ hrc25 _ _ _ _ _ _)
def f_L_areTags_122 (rc25 : Option (Nat × Nat) → Int32 → Int32 → Int32 → am_H → am_R) (x0 : Option (Nat × Nat)) (x2 : Int32) (x3 : Int32) (x5 : Int32) (x6 : Int32) (h : am_H) : am_R := if ((x6 >>> (x3 &&& 31)) &&& (1 : Int32)) = 0 then (if x5 = (1 : Int32) then (f_L_areTags_142 rc25 x0 x2 x3 x6 h) else (if x6 = 0 then (f_L_areTags_142 rc25 x0 x2 x3 x6 h) else (f_L_areTags_146 rc25 x0 x2 x3 x6 h))) else (f_L_areTags_146 rc25 x0 x2 x3 x6 h)
theorem t_L_areTags_122 (d : Nat) (hd : 12 ≤ d) (rc25 : Option (Nat × Nat) → Int32 → Int32 → Int32 → am_H → am_R) (hrc25 : ∀ x0 x1 x2 x3 h, Sim m_L_areTags d 25 [some (.inr (.inr x0)), some (.inl x1), some (.inl x2), some (.inl x3), none, none, none, none] [] h (rc25 x0 x1 x2 x3 h)) (x0 : Option (Nat × Nat)) (x2 : Int32) (x3 : Int32) (x5 : Int32) (x6 : Int32) (h : am_H) : Sim m_L_areTags d 122 [some (.inr (.inr x0)), none, some (.inl x2), some (.inl x3), none, some (.inl x5), some (.inl x6), none] [] h (f_L_areTags_122 rc25 x0 x2 x3 x5 x6 h) := by
  unfold f_L_areTags_122
  refine sim_iload dL_areTags_122 rfl ?_
  refine sim_iload_n dL_areTags_124 rfl ?_
  refine sim_ishr dL_areTags_125 ?_
  refine sim_iconst (1) dL_areTags_126 (by decide +kernel) ?_
  refine sim_iand dL_areTags_127 ?_
  refine sim_if_ne 146 dL_areTags_128 (by decide) (fun c => ?_) (fun c => ?_)
  · exact sim_lv (am_leS (am_leN (am_leS (am_leS (am_leN (am_leN (am_leS (am_leN am_leT)))))))) (t_L_areTags_146 d (by omega) _ hrc25 _ _ _ _ _)
  · refine sim_iload dL_areTags_131 rfl ?_
    refine sim_iconst (1) dL_areTags_133 (by decide +kernel) ?_
    refine sim_ic_eq 142 dL_areTags_134 (by decide) (fun c => ?_) (fun c => ?_)
    · exact sim_lv (am_leS (am_leN (am_leS (am_leS (am_leN (am_leN (am_leS (am_leN am_leT)))))))) (t_L_areTags_142 d (by omega) _ hrc25 _ _ _ _ _)
    · refine sim_iload dL_areTags_137 rfl ?_
      refine sim_if_ne 146 dL_areTags_139 (by decide) (fun c => ?_) (fun c => ?_)
      · exact sim_lv (am_leS (am_leN (am_leS (am_leS (am_leN (am_leN (am_leS (am_leN am_leT)))))))) (t_L_areTags_146 d (by omega) _ hrc25 _ _ _ _ _)
      · exact sim_lv (am_leS (am_leN (am_leS (am_leS (am_leN (am_leN (am_leS (am_leN am_leT)))))))) (t_L_areTags_142 d (by omega) _ hrc25 _ _ _ _ _)
def f_L_areTags_103 (rc25 : Option (Nat × Nat) → Int32 → Int32 → Int32 → am_H → am_R) (x0 : Option (Nat × Nat)) (x2 : Int32) (x3 : Int32) (x4 : Int32) (x5 : Int32) (x6 : Int32) (s0 : Int32) (s1 : Int32) (h : am_H) : am_R := if s1 = s0 then (if x4 < 0 then (f_L_areTags_122 rc25 x0 x2 x3 x5 x6 h) else (m_ao x0 10 fun a14 => m_bI (f_X10_ofTag a14 x4 (0 : Int32) h) fun h12 v13 => if v13 = (1 : Int32) then (f_L_areTags_122 rc25 x0 x2 x3 x5 x6 h12) else (f_L_areTags_146 rc25 x0 x2 x3 x6 h12))) else (f_L_areTags_146 rc25 x0 x2 x3 x6 h)
theorem t_L_areTags_103 (d : Nat) (hd : 12 ≤ d) (rc25 : Option (Nat × Nat) → Int32 → Int32 → Int32 → am_H → am_R) (hrc25 : ∀ x0 x1 x2 x3 h, Sim m_L_areTags d 25 [some (.inr (.inr x0)), some (.inl x1), some (.inl x2), some (.inl x3), none, none, none, none] [] h (rc25 x0 x1 x2 x3 h)) (x0 : Option (Nat × Nat)) (x2 : Int32) (x3 : Int32) (x4 : Int32) (x5 : Int32) (x6 : Int32) (s0 : Int32) (s1 : Int32) (h : am_H) : Sim m_L_areTags d 103 [some (.inr (.inr x0)), none, some (.inl x2), some (.inl x3), some (.inl x4), some (.inl x5), some (.inl x6), none] [.inl s0, .inl s1] h (f_L_areTags_103 rc25 x0 x2 x3 x4 x5 x6 s0 s1 h) := by
  unfold f_L_areTags_103
  refine sim_ic_ne 146 dL_areTags_103 (by decide) (fun c => ?_) (fun c => ?_)
  · exact sim_lv (am_leS (am_leN (am_leS (am_leS (am_leN (am_leN (am_leS (am_leN am_leT)))))))) (t_L_areTags_146 d (by omega) _ hrc25 _ _ _ _ _)
  · refine sim_iload dL_areTags_106 rfl ?_
    refine sim_if_lt 122 dL_areTags_108 (by decide) (fun c => ?_) (fun c => ?_)
    · exact sim_lv (am_leS (am_leN (am_leS (am_leS (am_leN (am_leS (am_leS (am_leN am_leT)))))))) (t_L_areTags_122 d (by omega) _ hrc25 _ _ _ _ _ _)
    · refine sim_aload_n dL_areTags_111 rfl ?_
      refine sim_iload dL_areTags_112 rfl ?_
      refine sim_iconst (0) dL_areTags_114 (by decide +kernel) ?_
      refine sim_ao2 (fun a14 e => ?_)
      refine sim_virt (d - 1) e dL_areTags_115 (k_X10_ofTag (d - 1) (by omega) _ _ _ _) q_X10_ofTag rfl rfl wm_RL_118 rfl rfl (by omega) (Nat.le_of_ble_eq_true rfl) am_nI (am_rI fun h12 v13 => ?_) am_eI
      refine sim_iconst (1) dL_areTags_118 (by decide +kernel) ?_
      refine sim_ic_ne 146 dL_areTags_119 (by decide) (fun c => ?_) (fun c => ?_)
      · exact sim_lv (am_leS (am_leN (am_leS (am_leS (am_leN (am_leN (am_leS (am_leN am_leT)))))))) (t_L_areTags_146 d (by omega) _ hrc25 _ _ _ _ _)
      · exact sim_lv (am_leS (am_leN (am_leS (am_leS (am_leN (am_leS (am_leS (am_leN am_leT)))))))) (t_L_areTags_122 d (by omega) _ hrc25 _ _ _ _ _ _)
def f_L_areTags_92 (rc25 : Option (Nat × Nat) → Int32 → Int32 → Int32 → am_H → am_R) (x0 : Option (Nat × Nat)) (x2 : Int32) (x3 : Int32) (x4 : Int32) (x5 : Int32) (x6 : Int32) (s0 : Int32) (h : am_H) : am_R := if x4 = x3 then (f_L_areTags_103 rc25 x0 x2 x3 x4 x5 x6 (1 : Int32) s0 h) else (f_L_areTags_103 rc25 x0 x2 x3 x4 x5 x6 (0 : Int32) s0 h)
theorem t_L_areTags_92 (d : Nat) (hd : 12 ≤ d) (rc25 : Option (Nat × Nat) → Int32 → Int32 → Int32 → am_H → am_R) (hrc25 : ∀ x0 x1 x2 x3 h, Sim m_L_areTags d 25 [some (.inr (.inr x0)), some (.inl x1), some (.inl x2), some (.inl x3), none, none, none, none] [] h (rc25 x0 x1 x2 x3 h)) (x0 : Option (Nat × Nat)) (x2 : Int32) (x3 : Int32) (x4 : Int32) (x5 : Int32) (x6 : Int32) (s0 : Int32) (h : am_H) : Sim m_L_areTags d 92 [some (.inr (.inr x0)), none, some (.inl x2), some (.inl x3), some (.inl x4), some (.inl x5), some (.inl x6), none] [.inl s0] h (f_L_areTags_92 rc25 x0 x2 x3 x4 x5 x6 s0 h) := by
  unfold f_L_areTags_92
  refine sim_iload dL_areTags_92 rfl ?_
  refine sim_iload_n dL_areTags_94 rfl ?_
  refine sim_ic_ne 102 dL_areTags_95 (by decide) (fun c => ?_) (fun c => ?_)
  · refine sim_iconst (0) dL_areTags_102 (by decide +kernel) ?_
    exact sim_lv (am_leS (am_leN (am_leS (am_leS (am_leS (am_leS (am_leS (am_leN am_leT)))))))) (t_L_areTags_103 d (by omega) _ hrc25 _ _ _ _ _ _ _ _ _)
  · refine sim_iconst (1) dL_areTags_98 (by decide +kernel) ?_
    refine sim_goto 103 dL_areTags_99 (by decide) ?_
    exact sim_lv (am_leS (am_leN (am_leS (am_leS (am_leS (am_leS (am_leS (am_leN am_leT)))))))) (t_L_areTags_103 d (by omega) _ hrc25 _ _ _ _ _ _ _ _ _)
def f_L_areTags_78 (rc25 : Option (Nat × Nat) → Int32 → Int32 → Int32 → am_H → am_R) (x0 : Option (Nat × Nat)) (x2 : Int32) (x3 : Int32) (x4 : Int32) (x5 : Int32) (x6 : Int32) (s0 : Int32) (s1 : Int32) (h : am_H) : am_R := if s1 = s0 then (if x5 = (1 : Int32) then (f_L_areTags_92 rc25 x0 x2 x3 x4 x5 x6 (1 : Int32) h) else (f_L_areTags_92 rc25 x0 x2 x3 x4 x5 x6 (0 : Int32) h)) else (f_L_areTags_146 rc25 x0 x2 x3 x6 h)
theorem t_L_areTags_78 (d : Nat) (hd : 12 ≤ d) (rc25 : Option (Nat × Nat) → Int32 → Int32 → Int32 → am_H → am_R) (hrc25 : ∀ x0 x1 x2 x3 h, Sim m_L_areTags d 25 [some (.inr (.inr x0)), some (.inl x1), some (.inl x2), some (.inl x3), none, none, none, none] [] h (rc25 x0 x1 x2 x3 h)) (x0 : Option (Nat × Nat)) (x2 : Int32) (x3 : Int32) (x4 : Int32) (x5 : Int32) (x6 : Int32) (s0 : Int32) (s1 : Int32) (h : am_H) : Sim m_L_areTags d 78 [some (.inr (.inr x0)), none, some (.inl x2), some (.inl x3), some (.inl x4), some (.inl x5), some (.inl x6), none] [.inl s0, .inl s1] h (f_L_areTags_78 rc25 x0 x2 x3 x4 x5 x6 s0 s1 h) := by
  unfold f_L_areTags_78
  refine sim_ic_ne 146 dL_areTags_78 (by decide) (fun c => ?_) (fun c => ?_)
  · exact sim_lv (am_leS (am_leN (am_leS (am_leS (am_leN (am_leN (am_leS (am_leN am_leT)))))))) (t_L_areTags_146 d (by omega) _ hrc25 _ _ _ _ _)
  · refine sim_iload dL_areTags_81 rfl ?_
    refine sim_iconst (1) dL_areTags_83 (by decide +kernel) ?_
    refine sim_ic_ne 91 dL_areTags_84 (by decide) (fun c => ?_) (fun c => ?_)
    · refine sim_iconst (0) dL_areTags_91 (by decide +kernel) ?_
      exact sim_lv (am_leS (am_leN (am_leS (am_leS (am_leS (am_leS (am_leS (am_leN am_leT)))))))) (t_L_areTags_92 d (by omega) _ hrc25 _ _ _ _ _ _ _ _)
    · refine sim_iconst (1) dL_areTags_87 (by decide +kernel) ?_
      refine sim_goto 92 dL_areTags_88 (by decide) ?_
      exact sim_lv (am_leS (am_leN (am_leS (am_leS (am_leS (am_leS (am_leS (am_leN am_leT)))))))) (t_L_areTags_92 d (by omega) _ hrc25 _ _ _ _ _ _ _ _)
def f_L_areTags_68 (rc25 : Option (Nat × Nat) → Int32 → Int32 → Int32 → am_H → am_R) (x0 : Option (Nat × Nat)) (x2 : Int32) (x3 : Int32) (x4 : Int32) (x5 : Int32) (x6 : Int32) (s0 : Int32) (h : am_H) : am_R := if 0 ≤ x4 then (f_L_areTags_78 rc25 x0 x2 x3 x4 x5 x6 (0 : Int32) s0 h) else (f_L_areTags_78 rc25 x0 x2 x3 x4 x5 x6 (1 : Int32) s0 h)
theorem t_L_areTags_68 (d : Nat) (hd : 12 ≤ d) (rc25 : Option (Nat × Nat) → Int32 → Int32 → Int32 → am_H → am_R) (hrc25 : ∀ x0 x1 x2 x3 h, Sim m_L_areTags d 25 [some (.inr (.inr x0)), some (.inl x1), some (.inl x2), some (.inl x3), none, none, none, none] [] h (rc25 x0 x1 x2 x3 h)) (x0 : Option (Nat × Nat)) (x2 : Int32) (x3 : Int32) (x4 : Int32) (x5 : Int32) (x6 : Int32) (s0 : Int32) (h : am_H) : Sim m_L_areTags d 68 [some (.inr (.inr x0)), none, some (.inl x2), some (.inl x3), some (.inl x4), some (.inl x5), some (.inl x6), none] [.inl s0] h (f_L_areTags_68 rc25 x0 x2 x3 x4 x5 x6 s0 h) := by
  unfold f_L_areTags_68
  refine sim_iload dL_areTags_68 rfl ?_
  refine sim_if_ge 77 dL_areTags_70 (by decide) (fun c => ?_) (fun c => ?_)
  · refine sim_iconst (0) dL_areTags_77 (by decide +kernel) ?_
    exact sim_lv (am_leS (am_leN (am_leS (am_leS (am_leS (am_leS (am_leS (am_leN am_leT)))))))) (t_L_areTags_78 d (by omega) _ hrc25 _ _ _ _ _ _ _ _ _)
  · refine sim_iconst (1) dL_areTags_73 (by decide +kernel) ?_
    refine sim_goto 78 dL_areTags_74 (by decide) ?_
    exact sim_lv (am_leS (am_leN (am_leS (am_leS (am_leS (am_leS (am_leS (am_leN am_leT)))))))) (t_L_areTags_78 d (by omega) _ hrc25 _ _ _ _ _ _ _ _ _)
def f_L_areTags_25  : Nat → Option (Nat × Nat) → Int32 → Int32 → Int32 → am_H → am_R
  | 0, _, _, _, _, _ => none
  | n + 1, x0, x1, x2, x3, h => if x2 ≤ x3 then (f_L_areTags_215 x0 x1 h) else (if x1 = 0 then (f_L_areTags_215 x0 x1 h) else (m_ao x0 10 fun a5 => m_bI (f_X10_ofTag a5 x3 (1 : Int32) h) fun h3 v4 => m_ao x0 10 fun a8 => m_bI (f_X10_ofTag a8 x3 (0 : Int32) h3) fun h6 v7 => m_ao x0 10 fun a11 => m_bI (f_X10_ofTag a11 x3 (2 : Int32) h6) fun h9 v10 => if v7 = 0 then (f_L_areTags_68 (f_L_areTags_25  n) x0 x2 x3 v4 v7 v10 (1 : Int32) h9) else (f_L_areTags_68 (f_L_areTags_25  n) x0 x2 x3 v4 v7 v10 (0 : Int32) h9)))
theorem t_L_areTags_25 (d : Nat) (hd : 12 ≤ d)  : ∀ (n : Nat) (x0 : Option (Nat × Nat)) (x1 : Int32) (x2 : Int32) (x3 : Int32) (h : am_H), Sim m_L_areTags d 25 [some (.inr (.inr x0)), some (.inl x1), some (.inl x2), some (.inl x3), none, none, none, none] [] h (f_L_areTags_25  n x0 x1 x2 x3 h) := by
  intro n
  induction n with
  | zero => intros; exact sim_none
  | succ n hrc25 =>
    intro x0 x1 x2 x3 h
    rw [f_L_areTags_25]
    refine sim_iload_n dL_areTags_25 rfl ?_
    refine sim_iload_n dL_areTags_26 rfl ?_
    refine sim_ic_ge 215 dL_areTags_27 (by decide) (fun c => ?_) (fun c => ?_)
    · exact sim_lv (am_leS (am_leS (am_leN (am_leN (am_leN (am_leN (am_leN (am_leN am_leT)))))))) (t_L_areTags_215 d (by omega) _ _ _)
    · refine sim_iload_n dL_areTags_30 rfl ?_
      refine sim_if_eq 215 dL_areTags_31 (by decide) (fun c => ?_) (fun c => ?_)
      · exact sim_lv (am_leS (am_leS (am_leN (am_leN (am_leN (am_leN (am_leN (am_leN am_leT)))))))) (t_L_areTags_215 d (by omega) _ _ _)
      · refine sim_aload_n dL_areTags_34 rfl ?_
        refine sim_iload_n dL_areTags_35 rfl ?_
        refine sim_iconst (1) dL_areTags_36 (by decide +kernel) ?_
        refine sim_ao2 (fun a5 e => ?_)
        refine sim_virt (d - 1) e dL_areTags_37 (k_X10_ofTag (d - 1) (by omega) _ _ _ _) q_X10_ofTag rfl rfl wm_RL_118 rfl rfl (by omega) (Nat.le_of_ble_eq_true rfl) am_nI (am_rI fun h3 v4 => ?_) am_eI
        refine sim_istore dL_areTags_40 (Nat.le_of_ble_eq_true rfl) ?_
        refine sim_aload_n dL_areTags_42 rfl ?_
        refine sim_iload_n dL_areTags_43 rfl ?_
        refine sim_iconst (0) dL_areTags_44 (by decide +kernel) ?_
        refine sim_ao2 (fun a8 e => ?_)
        refine sim_virt (d - 1) e dL_areTags_45 (k_X10_ofTag (d - 1) (by omega) _ _ _ _) q_X10_ofTag rfl rfl wm_RL_118 rfl rfl (by omega) (Nat.le_of_ble_eq_true rfl) am_nI (am_rI fun h6 v7 => ?_) am_eI
        refine sim_istore dL_areTags_48 (Nat.le_of_ble_eq_true rfl) ?_
        refine sim_aload_n dL_areTags_50 rfl ?_
        refine sim_iload_n dL_areTags_51 rfl ?_
        refine sim_iconst (2) dL_areTags_52 (by decide +kernel) ?_
        refine sim_ao2 (fun a11 e => ?_)
        refine sim_virt (d - 1) e dL_areTags_53 (k_X10_ofTag (d - 1) (by omega) _ _ _ _) q_X10_ofTag rfl rfl wm_RL_118 rfl rfl (by omega) (Nat.le_of_ble_eq_true rfl) am_nI (am_rI fun h9 v10 => ?_) am_eI
        refine sim_istore dL_areTags_56 (Nat.le_of_ble_eq_true rfl) ?_
        refine sim_iload dL_areTags_58 rfl ?_
        refine sim_if_ne 67 dL_areTags_60 (by decide) (fun c => ?_) (fun c => ?_)
        · refine sim_iconst (0) dL_areTags_67 (by decide +kernel) ?_
          exact sim_lv (am_leS (am_leN (am_leS (am_leS (am_leS (am_leS (am_leS (am_leN am_leT)))))))) (t_L_areTags_68 d (by omega) _ hrc25 _ _ _ _ _ _ _ _)
        · refine sim_iconst (1) dL_areTags_63 (by decide +kernel) ?_
          refine sim_goto 68 dL_areTags_64 (by decide) ?_
          exact sim_lv (am_leS (am_leN (am_leS (am_leS (am_leS (am_leS (am_leS (am_leN am_leT)))))))) (t_L_areTags_68 d (by omega) _ hrc25 _ _ _ _ _ _ _ _)
def f_L_areTags_4  : Nat → Option (Nat × Nat) → Int32 → Int32 → am_H → am_R
  | 0, _, _, _, _ => none
  | n + 1, x0, x1, x2, h => m_bI (f_L_does x0 (17 : Int32) x2 (0 : Int32) (0 : Int32) (0 : Int32) h) fun h1 v2 => if v2 < 0 then (f_L_areTags_25 5000 x0 x1 x2 (0 : Int32) h1) else ((f_L_areTags_4  n) x0 x1 (x2 + 1) h1)
theorem t_L_areTags_4 (d : Nat) (hd : 12 ≤ d)  : ∀ (n : Nat) (x0 : Option (Nat × Nat)) (x1 : Int32) (x2 : Int32) (h : am_H), Sim m_L_areTags d 4 [some (.inr (.inr x0)), some (.inl x1), some (.inl x2), none, none, none, none, none] [] h (f_L_areTags_4  n x0 x1 x2 h) := by
  intro n
  induction n with
  | zero => intros; exact sim_none
  | succ n hrc4 =>
    intro x0 x1 x2 h
    rw [f_L_areTags_4]
    refine sim_aload_n dL_areTags_4 rfl ?_
    refine sim_bipush (17) dL_areTags_5 (by decide +kernel) ?_
    refine sim_iload_n dL_areTags_7 rfl ?_
    refine sim_iconst (0) dL_areTags_8 (by decide +kernel) ?_
    refine sim_iconst (0) dL_areTags_9 (by decide +kernel) ?_
    refine sim_iconst (0) dL_areTags_10 (by decide +kernel) ?_
    refine sim_staticX (d - 1) dL_areTags_11 (k_L_does (d - 1) (by omega) _ _ _ _ _ _ _) q_L_does wm_RL_152 rfl rfl (by omega) (Nat.le_of_ble_eq_true rfl) am_nI (am_rI fun h1 v2 => ?_) am_eI
    refine sim_if_lt 23 dL_areTags_14 (by decide) (fun c => ?_) (fun c => ?_)
    · refine sim_iconst (0) dL_areTags_23 (by decide +kernel) ?_
      refine sim_istore_n dL_areTags_24 (Nat.le_of_ble_eq_true rfl) ?_
      exact sim_lv (am_leS (am_leS (am_leS (am_leS (am_leN (am_leN (am_leN (am_leN am_leT)))))))) (t_L_areTags_25 d (by omega) _ _ _ _ _ _)
    · refine sim_iinc (1) dL_areTags_17 rfl (by decide +kernel) (Nat.le_of_ble_eq_true rfl) ?_
      refine sim_goto 4 dL_areTags_20 (by decide) ?_
      exact sim_lv (am_leS (am_leS (am_leS (am_leN (am_leN (am_leN (am_leN (am_leN am_leT)))))))) (hrc4 _ _ _ _)
def f_L_areTags (x0 : Option (Nat × Nat)) (h : am_H) : am_R := f_L_areTags_4 5000 x0 (1 : Int32) (0 : Int32) h
theorem k_L_areTags (d : Nat) (hd : 12 ≤ d) (x0 : Option (Nat × Nat)) (h : am_H) : am_Con m_L_areTags d [.inr (.inr x0)] h (f_L_areTags x0 h) := am_con (by decide +kernel) (Nat.le_of_ble_eq_true rfl) (by
  unfold f_L_areTags
  refine sim_iconst (1) dL_areTags_0 (by decide +kernel) ?_
  refine sim_istore_n dL_areTags_1 (Nat.le_of_ble_eq_true rfl) ?_
  refine sim_iconst (0) dL_areTags_2 (by decide +kernel) ?_
  refine sim_istore_n dL_areTags_3 (Nat.le_of_ble_eq_true rfl) ?_
  exact sim_lv (am_leS (am_leS (am_leS (am_leN (am_leN (am_leN (am_leN (am_leN am_leT)))))))) (t_L_areTags_4 d (by omega) _ _ _ _ _))
theorem q_L_areTags : am_Cal m_L_areTags 1 0 := ⟨am_mem 1001 (w := Cond.code yL_areTags cL_areTags 8 (some .boolean)) (by decide +kernel) rfl, am_mem 29 (w := Cond.initialized RL) (by decide +kernel) rfl, fun _ => am_mem 1000 (w := Cond.static yL_areTags) (by decide +kernel) rfl, fun z => absurd rfl z, fun z => absurd z (by decide), fun z => absurd z (by decide), by decide +kernel, by decide +kernel, Nat.le_of_ble_eq_true rfl⟩
abbrev m_L_cell : am_M := (yL_cell, cL_cell, 2, some .int, [])
def f_L_cell_27  (s0 : Int32) (h : am_H) : am_R := m_ri h s0
theorem t_L_cell_27 (d : Nat) (hd : 0 ≤ d)  (s0 : Int32) (h : am_H) : Sim m_L_cell d 27 [none, none] [.inl s0] h (f_L_cell_27  s0 h) := by
  unfold f_L_cell_27
  exact sim_iret dL_cell_27 rfl
def f_L_cell (x1 : Int32) (h : am_H) : am_R := m_sln h fun v1 => if v1 ≤ x1 then (f_L_cell_27 (((7919 : Int32) * (x1 + (1901 : Int32))) * (x1 + (4447 : Int32))) h) else (m_scr x1 h fun v2 => f_L_cell_27 v2 h)
theorem k_L_cell (d : Nat) (hd : 0 ≤ d) (x1 : Int32) (h : am_H) : am_Con m_L_cell d [.inr (.inr (some (1, 0))), .inl x1] h (f_L_cell x1 h) := am_con (by decide +kernel) (Nat.le_of_ble_eq_true rfl) (by
  unfold f_L_cell
  refine sim_iload_n dL_cell_0 rfl ?_
  refine sim_aload_n dL_cell_1 rfl ?_
  refine sim_sln dL_cell_2 (fun v1 => ?_)
  refine sim_ic_ge 12 dL_cell_3 (by decide) (fun c => ?_) (fun c => ?_)
  · refine sim_sipush (7919) dL_cell_12 (by decide +kernel) ?_
    refine sim_iload_n dL_cell_15 rfl ?_
    refine sim_sipush (1901) dL_cell_16 (by decide +kernel) ?_
    refine sim_iadd dL_cell_19 ?_
    refine sim_imul dL_cell_20 ?_
    refine sim_iload_n dL_cell_21 rfl ?_
    refine sim_sipush (4447) dL_cell_22 (by decide +kernel) ?_
    refine sim_iadd dL_cell_25 ?_
    refine sim_imul dL_cell_26 ?_
    exact sim_lv (am_leN (am_leN am_leT)) (t_L_cell_27 d (by omega) _ _)
  · refine sim_aload_n dL_cell_6 rfl ?_
    refine sim_iload_n dL_cell_7 rfl ?_
    refine sim_scr dL_cell_8 (fun v2 => ?_)
    refine sim_goto 27 dL_cell_9 (by decide) ?_
    exact sim_lv (am_leN (am_leN am_leT)) (t_L_cell_27 d (by omega) _ _))
theorem q_L_cell : am_Cal m_L_cell 2 0 := ⟨am_mem 407 (w := Cond.code yL_cell cL_cell 2 (some .int)) (by decide +kernel) rfl, am_mem 29 (w := Cond.initialized RL) (by decide +kernel) rfl, fun _ => am_mem 406 (w := Cond.static yL_cell) (by decide +kernel) rfl, fun z => absurd rfl z, fun z => absurd z (by decide), fun z => absurd z (by decide), by decide +kernel, by decide +kernel, Nat.le_of_ble_eq_true rfl⟩
abbrev m_X2_init : am_M := (yX2_init, cX2_init, 1, none, [])
def f_X2_init (a0 : Nat × Nat) (h : am_H) : am_R := m_new 2 8 h fun a1 h2 => m_pR (some a0) 2 0 (some a1) h2 fun h3 => m_new 3 8 h3 fun a4 h5 => m_pR (some a0) 2 2 (some a4) h5 fun h6 => m_new 4 256 h6 fun a7 h8 => m_pR (some a0) 2 3 (some a7) h8 fun h9 => m_rt h9 none
theorem k_X2_init (d : Nat) (hd : 1 ≤ d) (a0 : Nat × Nat) (h : am_H) : am_Con m_X2_init d [.inr (.inr (some a0))] h (f_X2_init a0 h) := am_con (by decide +kernel) (Nat.le_of_ble_eq_true rfl) (by
  unfold f_X2_init
  refine sim_aload_n dX2_init_0 rfl ?_
  refine sim_obj dX2_init_1 wm_RX2_3 wobj_i wobj_c (by omega) (Nat.le_of_ble_eq_true rfl) ?_
  refine sim_aload_n dX2_init_4 rfl ?_
  refine sim_bipush (8) dX2_init_5 (by decide +kernel) ?_
  refine sim_nwR 2 8 8 dX2_init_7 rfl rfl rfl (by decide +kernel) (Nat.le_of_ble_eq_true rfl) wc_RX2_9 wo_RX6 (fun a1 h2 => ?_)
  refine sim_pR 2 0 dX2_init_10 rfl wf_RX2_11 (Nat.le_of_ble_eq_true rfl) rfl (Or.inr ⟨rfl, rfl, rfl⟩) (fun h3 => ?_)
  refine sim_aload_n dX2_init_13 rfl ?_
  refine sim_bipush (8) dX2_init_14 (by decide +kernel) ?_
  refine sim_nwI 3 0 8 dX2_init_16 rfl rfl rfl (by decide +kernel) (Nat.le_of_ble_eq_true rfl) (fun _ => rfl) rfl (Nat.le_of_ble_eq_true rfl) wa_int (fun a4 h5 => ?_)
  refine sim_pR 2 2 dX2_init_18 rfl wf_RX2_17 (Nat.le_of_ble_eq_true rfl) rfl (Or.inr ⟨rfl, rfl, rfl⟩) (fun h6 => ?_)
  refine sim_aload_n dX2_init_21 rfl ?_
  refine sim_sipush (256) dX2_init_22 (by decide +kernel) ?_
  refine sim_nwI 4 0 256 dX2_init_25 rfl rfl rfl (by decide +kernel) (Nat.le_of_ble_eq_true rfl) (fun _ => rfl) rfl (Nat.le_of_ble_eq_true rfl) wa_int (fun a7 h8 => ?_)
  refine sim_pR 2 3 dX2_init_27 rfl wf_RX2_21 (Nat.le_of_ble_eq_true rfl) rfl (Or.inr ⟨rfl, rfl, rfl⟩) (fun h9 => ?_)
  exact sim_vret dX2_init_30 rfl)
theorem q_X2_init : am_Cal m_X2_init 0 1 := ⟨am_mem 154 (w := Cond.code yX2_init cX2_init 1 none) (by decide +kernel) rfl, am_mem 35 (w := Cond.initialized RX2) (by decide +kernel) rfl, fun z => absurd z (by decide), fun _ => am_mem 153 (w := Cond.instanceMethod yX2_init) (by decide +kernel) rfl, fun _ => rfl, fun z => absurd z (by decide), by decide +kernel, by decide +kernel, Nat.le_of_ble_eq_true rfl⟩
abbrev m_J7_fill_53178 : am_M := (yJ7_fill_53178, cJ7_fill_53178, 4, none, [])
def f_J7_fill_53178_5  : Nat → Option (Nat × Nat) → Int32 → Int32 → Int32 → am_H → am_R
  | 0, _, _, _, _, _ => none
  | n + 1, x0, x1, x2, x3, h => if x3 ≤ x2 then (m_rt h none) else (m_sI x0 x2 x1 h fun h2 => (f_J7_fill_53178_5  n) x0 x1 (x2 + 1) x3 h2)
theorem t_J7_fill_53178_5 (d : Nat) (hd : 0 ≤ d)  : ∀ (n : Nat) (x0 : Option (Nat × Nat)) (x1 : Int32) (x2 : Int32) (x3 : Int32) (h : am_H), Sim m_J7_fill_53178 d 5 [some (.inr (.inr x0)), some (.inl x1), some (.inl x2), some (.inl x3)] [] h (f_J7_fill_53178_5  n x0 x1 x2 x3 h) := by
  intro n
  induction n with
  | zero => intros; exact sim_none
  | succ n hrc5 =>
    intro x0 x1 x2 x3 h
    rw [f_J7_fill_53178_5]
    refine sim_iload_n dJ7_fill_53178_5 rfl ?_
    refine sim_iload_n dJ7_fill_53178_6 rfl ?_
    refine sim_ic_ge 20 dJ7_fill_53178_7 (by decide) (fun c => ?_) (fun c => ?_)
    · exact sim_vret dJ7_fill_53178_20 rfl
    · refine sim_aload_n dJ7_fill_53178_10 rfl ?_
      refine sim_iload_n dJ7_fill_53178_11 rfl ?_
      refine sim_iload_n dJ7_fill_53178_12 rfl ?_
      refine sim_sI dJ7_fill_53178_13 (fun h2 => ?_)
      refine sim_iinc (1) dJ7_fill_53178_14 rfl (by decide +kernel) (Nat.le_of_ble_eq_true rfl) ?_
      refine sim_goto 5 dJ7_fill_53178_17 (by decide) ?_
      exact sim_lv (am_leS (am_leS (am_leS (am_leS am_leT)))) (hrc5 _ _ _ _ _)
def f_J7_fill_53178 (x0 : Option (Nat × Nat)) (x1 : Int32) (h : am_H) : am_R := m_len x0 fun v1 => f_J7_fill_53178_5 5000 x0 x1 (0 : Int32) v1 h
theorem k_J7_fill_53178 (d : Nat) (hd : 0 ≤ d) (x0 : Option (Nat × Nat)) (x1 : Int32) (h : am_H) : am_Con m_J7_fill_53178 d [.inr (.inr x0), .inl x1] h (f_J7_fill_53178 x0 x1 h) := am_con (by decide +kernel) (Nat.le_of_ble_eq_true rfl) (by
  unfold f_J7_fill_53178
  refine sim_iconst (0) dJ7_fill_53178_0 (by decide +kernel) ?_
  refine sim_istore_n dJ7_fill_53178_1 (Nat.le_of_ble_eq_true rfl) ?_
  refine sim_aload_n dJ7_fill_53178_2 rfl ?_
  refine sim_len dJ7_fill_53178_3 (fun v1 => ?_)
  refine sim_istore_n dJ7_fill_53178_4 (Nat.le_of_ble_eq_true rfl) ?_
  exact sim_lv (am_leS (am_leS (am_leS (am_leS am_leT)))) (t_J7_fill_53178_5 d (by omega) _ _ _ _ _ _))
theorem q_J7_fill_53178 : am_Cal m_J7_fill_53178 2 0 := ⟨am_mem 181 (w := Cond.code yJ7_fill_53178 cJ7_fill_53178 4 none) (by decide +kernel) rfl, am_mem 37 (w := Cond.initialized RJ7) (by decide +kernel) rfl, fun _ => am_mem 180 (w := Cond.static yJ7_fill_53178) (by decide +kernel) rfl, fun z => absurd rfl z, fun z => absurd z (by decide), fun z => absurd z (by decide), by decide +kernel, by decide +kernel, Nat.le_of_ble_eq_true rfl⟩
abbrev m_X3_init : am_M := (yX3_init, cX3_init, 1, none, [])
def f_X3_init (a0 : Nat × Nat) (h : am_H) : am_R := m_new 5 20 h fun a1 h2 => m_pR (some a0) 3 1 (some a1) h2 fun h3 => m_new 6 12 h3 fun a4 h5 => m_pR (some a0) 3 2 (some a4) h5 fun h6 => m_new 7 20 h6 fun a7 h8 => m_pR (some a0) 3 3 (some a7) h8 fun h9 => m_gR (some a0) 3 1 h9 fun o10 => m_bV (f_J7_fill_53178 o10 (2001 : Int32) h9) fun h11 => m_gR (some a0) 3 2 h11 fun o13 => m_bV (f_J7_fill_53178 o13 (2001 : Int32) h11) fun h14 => m_rt h14 none
theorem k_X3_init (d : Nat) (hd : 1 ≤ d) (a0 : Nat × Nat) (h : am_H) : am_Con m_X3_init d [.inr (.inr (some a0))] h (f_X3_init a0 h) := am_con (by decide +kernel) (Nat.le_of_ble_eq_true rfl) (by
  unfold f_X3_init
  refine sim_aload_n dX3_init_0 rfl ?_
  refine sim_obj dX3_init_1 wm_RX3_3 wobj_i wobj_c (by omega) (Nat.le_of_ble_eq_true rfl) ?_
  refine sim_aload_n dX3_init_4 rfl ?_
  refine sim_bipush (20) dX3_init_5 (by decide +kernel) ?_
  refine sim_nwI 5 0 20 dX3_init_7 rfl rfl rfl (by decide +kernel) (Nat.le_of_ble_eq_true rfl) (fun _ => rfl) rfl (Nat.le_of_ble_eq_true rfl) wa_int (fun a1 h2 => ?_)
  refine sim_pR 3 1 dX3_init_9 rfl wf_RX3_9 (Nat.le_of_ble_eq_true rfl) rfl (Or.inr ⟨rfl, rfl, rfl⟩) (fun h3 => ?_)
  refine sim_aload_n dX3_init_12 rfl ?_
  refine sim_bipush (12) dX3_init_13 (by decide +kernel) ?_
  refine sim_nwI 6 0 12 dX3_init_15 rfl rfl rfl (by decide +kernel) (Nat.le_of_ble_eq_true rfl) (fun _ => rfl) rfl (Nat.le_of_ble_eq_true rfl) wa_int (fun a4 h5 => ?_)
  refine sim_pR 3 2 dX3_init_17 rfl wf_RX3_15 (Nat.le_of_ble_eq_true rfl) rfl (Or.inr ⟨rfl, rfl, rfl⟩) (fun h6 => ?_)
  refine sim_aload_n dX3_init_20 rfl ?_
  refine sim_bipush (20) dX3_init_21 (by decide +kernel) ?_
  refine sim_nwI 7 0 20 dX3_init_23 rfl rfl rfl (by decide +kernel) (Nat.le_of_ble_eq_true rfl) (fun _ => rfl) rfl (Nat.le_of_ble_eq_true rfl) wa_int (fun a7 h8 => ?_)
  refine sim_pR 3 3 dX3_init_25 rfl wf_RX3_18 (Nat.le_of_ble_eq_true rfl) rfl (Or.inr ⟨rfl, rfl, rfl⟩) (fun h9 => ?_)
  refine sim_aload_n dX3_init_28 rfl ?_
  refine sim_gR 3 1 dX3_init_29 rfl wf_RX3_9 (Nat.le_of_ble_eq_true rfl) rfl (fun o10 => ?_)
  refine sim_sipush (2001) dX3_init_32 (by decide +kernel) ?_
  refine sim_static (d - 1) dX3_init_35 (k_J7_fill_53178 (d - 1) (by omega) _ _ _) q_J7_fill_53178 wm_RX3_21 rfl rfl (by omega) (Nat.le_of_ble_eq_true rfl) am_nV (am_rV fun h11 => ?_) am_eV
  refine sim_aload_n dX3_init_38 rfl ?_
  refine sim_gR 3 2 dX3_init_39 rfl wf_RX3_15 (Nat.le_of_ble_eq_true rfl) rfl (fun o13 => ?_)
  refine sim_sipush (2001) dX3_init_42 (by decide +kernel) ?_
  refine sim_static (d - 1) dX3_init_45 (k_J7_fill_53178 (d - 1) (by omega) _ _ _) q_J7_fill_53178 wm_RX3_21 rfl rfl (by omega) (Nat.le_of_ble_eq_true rfl) am_nV (am_rV fun h14 => ?_) am_eV
  exact sim_vret dX3_init_48 rfl)
theorem q_X3_init : am_Cal m_X3_init 0 1 := ⟨am_mem 177 (w := Cond.code yX3_init cX3_init 1 none) (by decide +kernel) rfl, am_mem 36 (w := Cond.initialized RX3) (by decide +kernel) rfl, fun z => absurd z (by decide), fun _ => am_mem 176 (w := Cond.instanceMethod yX3_init) (by decide +kernel) rfl, fun _ => rfl, fun z => absurd z (by decide), by decide +kernel, by decide +kernel, Nat.le_of_ble_eq_true rfl⟩
abbrev m_X5_init : am_M := (yX5_init, cX5_init, 1, none, [])
def f_X5_init (a0 : Nat × Nat) (h : am_H) : am_R := m_new 8 61 h fun a1 h2 => m_pR (some a0) 5 0 (some a1) h2 fun h3 => m_new 9 61 h3 fun a4 h5 => m_pR (some a0) 5 1 (some a4) h5 fun h6 => m_new 10 61 h6 fun a7 h8 => m_pR (some a0) 5 2 (some a7) h8 fun h9 => m_rt h9 none
theorem k_X5_init (d : Nat) (hd : 1 ≤ d) (a0 : Nat × Nat) (h : am_H) : am_Con m_X5_init d [.inr (.inr (some a0))] h (f_X5_init a0 h) := am_con (by decide +kernel) (Nat.le_of_ble_eq_true rfl) (by
  unfold f_X5_init
  refine sim_aload_n dX5_init_0 rfl ?_
  refine sim_obj dX5_init_1 wm_RX5_3 wobj_i wobj_c (by omega) (Nat.le_of_ble_eq_true rfl) ?_
  refine sim_aload_n dX5_init_4 rfl ?_
  refine sim_bipush (61) dX5_init_5 (by decide +kernel) ?_
  refine sim_nwI 8 0 61 dX5_init_7 rfl rfl rfl (by decide +kernel) (Nat.le_of_ble_eq_true rfl) (fun _ => rfl) rfl (Nat.le_of_ble_eq_true rfl) wa_int (fun a1 h2 => ?_)
  refine sim_pR 5 0 dX5_init_9 rfl wf_RX5_9 (Nat.le_of_ble_eq_true rfl) rfl (Or.inr ⟨rfl, rfl, rfl⟩) (fun h3 => ?_)
  refine sim_aload_n dX5_init_12 rfl ?_
  refine sim_bipush (61) dX5_init_13 (by decide +kernel) ?_
  refine sim_nwI 9 0 61 dX5_init_15 rfl rfl rfl (by decide +kernel) (Nat.le_of_ble_eq_true rfl) (fun _ => rfl) rfl (Nat.le_of_ble_eq_true rfl) wa_int (fun a4 h5 => ?_)
  refine sim_pR 5 1 dX5_init_17 rfl wf_RX5_15 (Nat.le_of_ble_eq_true rfl) rfl (Or.inr ⟨rfl, rfl, rfl⟩) (fun h6 => ?_)
  refine sim_aload_n dX5_init_20 rfl ?_
  refine sim_bipush (61) dX5_init_21 (by decide +kernel) ?_
  refine sim_nwI 10 1 61 dX5_init_23 rfl rfl rfl (by decide +kernel) (Nat.le_of_ble_eq_true rfl) (fun _ => rfl) rfl (Nat.le_of_ble_eq_true rfl) wa_boolean (fun a7 h8 => ?_)
  refine sim_pR 5 2 dX5_init_25 rfl wf_RX5_18 (Nat.le_of_ble_eq_true rfl) rfl (Or.inr ⟨rfl, rfl, rfl⟩) (fun h9 => ?_)
  exact sim_vret dX5_init_28 rfl)
theorem q_X5_init : am_Cal m_X5_init 0 1 := ⟨am_mem 134 (w := Cond.code yX5_init cX5_init 1 none) (by decide +kernel) rfl, am_mem 34 (w := Cond.initialized RX5) (by decide +kernel) rfl, fun z => absurd z (by decide), fun _ => am_mem 133 (w := Cond.instanceMethod yX5_init) (by decide +kernel) rfl, fun _ => rfl, fun z => absurd z (by decide), by decide +kernel, by decide +kernel, Nat.le_of_ble_eq_true rfl⟩
