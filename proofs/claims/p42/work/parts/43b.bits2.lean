/-! ## bits: a set as an int -/
theorem bt_1 (i : Nat) : bt 1 i = decide (i = 0) := by
  rcases Nat.lt_or_ge i 32 with h | h
  · exact (by decide +kernel : ∀ i, i < 32 → bt 1 i = decide (i = 0)) i h
  · rw [b_big h, decide_eq_false (by omega)]
theorem and1_0 (x : Int32) : (x &&& 1 = 0) ↔ bt x 0 = false := by
  constructor
  · intro h
    have := congrArg (fun z => bt z 0) h
    simpa [b_and, bt_1, b_0] using this
  · intro h
    apply b_ext
    intro i hi
    rw [b_and, bt_1, b_0]
    by_cases h0 : i = 0
    · subst h0; simp [h]
    · simp [h0]
theorem and1_1 (x : Int32) : (x &&& 1 = 1) ↔ bt x 0 = true := by
  constructor
  · intro h
    have := congrArg (fun z => bt z 0) h
    simpa [b_and, bt_1] using this
  · intro h
    apply b_ext
    intro i hi
    rw [b_and, bt_1]
    by_cases h0 : i = 0
    · subst h0; simp [h]
    · simp [h0]
theorem bt_ushr (x : Int32) {i : Nat} (hi : i < 32) : bt (m_ushr x (nI i)) 0 = bt x i := b_ushr i hi x 0
theorem bt_sshr (x : Int32) {i : Nat} (hi : i < 32) : bt (x >>> (nI i &&& 31)) 0 = bt x i := by
  rw [b_sshr i hi x (by omega), if_pos (by omega)]; rfl
/-- the set {i} -/
def one (i : Nat) : Int32 := (1 : Int32) <<< (nI i &&& 31)
theorem bt_one {i : Nat} (hi : i < 32) {j : Nat} (hj : j < 32) : bt (one i) j = decide (j = i) := by
  rw [one, b_shl i hi 1 hj, bt_1]
  by_cases h : j = i
  · subst h; simp
  · by_cases h2 : i ≤ j
    · have : ¬ j - i = 0 := by omega
      simp [h, this]
    · simp [h, h2]
theorem bt_not (x : Int32) {j : Nat} (hj : j < 32) : bt (x ^^^ (-1)) j = !bt x j := by
  rw [b_xor, b_m1 j hj]; cases bt x j <;> rfl
/-- a set with i, or without it -/
def wi (s : Int32) (i : Nat) (b : Bool) : Int32 := if b then s ||| one i else s &&& (one i ^^^ (-1))
theorem bt_wi (s : Int32) {i : Nat} (hi : i < 32) (b : Bool) {j : Nat} (hj : j < 32) : bt (wi s i b) j = if j = i then b else bt s j := by
  cases b
  · show bt (s &&& (one i ^^^ (-1))) j = _
    rw [b_and, bt_not _ hj, bt_one hi hj]
    by_cases h : j = i <;> simp [h]
  · show bt (s ||| one i) j = _
    rw [b_or, bt_one hi hj]
    by_cases h : j = i <;> simp [h]
theorem c_has {s : Int32} {i : Nat} (hi : i < 32) {h : am_H} : f_X10_has s (nI i) h = m_ri h (bI (bt s i)) := by
  unfold f_X10_has f_X10_has_13
  have e := and1_0 (m_ushr s (nI i))
  rw [bt_ushr s hi] at e
  cases hb : bt s i
  · rw [if_pos (e.mpr hb)]; rfl
  · rw [if_neg (fun z => by rw [e.mp z] at hb; cases hb)]; rfl
theorem r_has {s : Int32} {i : Nat} (hi : i < 32) {h : am_H} : f_X11_has s (nI i) h = m_ri h (bI (bt s i)) := by
  unfold f_X11_has f_X11_has_14
  have e := and1_1 (s >>> (nI i &&& 31))
  rw [bt_sshr s hi] at e
  cases hb : bt s i
  · rw [if_neg (fun z => by rw [e.mp z] at hb; cases hb)]; rfl
  · rw [if_pos (e.mpr hb)]; rfl
theorem c_with {s : Int32} {i : Nat} {b : Bool} {h : am_H} : f_X10_with s (nI i) (bI b) h = m_ri h (wi s i b) := by
  unfold f_X10_with f_X10_with_19
  cases b <;> rfl
/-- how many of the first n bits -/
def pcn (s : Int32) : Nat → Nat
  | 0 => 0
  | n + 1 => pcn s n + if bt s n then 1 else 0
theorem and1_v (x : Int32) : x &&& 1 = if bt x 0 then 1 else 0 := by
  cases hb : bt x 0
  · exact (and1_0 x).mpr hb
  · exact (and1_1 x).mpr hb
theorem r_bits_loop (s : Int32) {h : am_H} : ∀ (n k : Nat), k ≤ 32 → 32 < k + n → f_X11_bits_4 n s (nI (pcn s k)) (nI k) h = m_ri h (nI (pcn s 32))
  | 0, k, h1, h2 => by omega
  | n + 1, k, h1, h2 => by
    rw [f_X11_bits_4]
    by_cases hk : k = 32
    · subst hk
      rw [if_pos (by decide +kernel)]
    · have hk2 : k < 32 := by omega
      rw [if_neg (show ¬ (32 : Int32) ≤ nI k from nI_ge (b := 32) hk2 (by decide)), and1_v, bt_sshr s hk2, nI_1]
      have e : nI (pcn s k) + (if bt s k = true then 1 else 0) = nI (pcn s (k + 1)) := by
        rw [pcn]
        cases bt s k
        · simp
        · simp [nI_1]
      rw [e]
      exact r_bits_loop s n (k + 1) (by omega) (by omega)
theorem r_bits {s : Int32} {h : am_H} : f_X11_bits s h = m_ri h (nI (pcn s 32)) := by
  unfold f_X11_bits
  exact r_bits_loop s 5000 0 (by omega) (by omega)
def bcf (x0 : Int32) : Int32 := match f_J6_bitCount_0f7a4 x0 (am_h0 0 (fun _ => 0)) with
  | some (_, .inl (some (.inl x))) => x
  | _ => 0
theorem c_bc {s : Int32} {h : am_H} : f_J6_bitCount_0f7a4 s h = m_ri h (bcf s) := rfl
set_option maxRecDepth 100000 in
theorem bcf_lo : ∀ a, a < 64 → ∀ b, b < 64 → bcf (nI (64 * a + b)) = nI (pcn (nI (64 * a + b)) 32) := by decide +kernel
theorem bt_nat (n i : Nat) (hi : i < 32) : bt (nI n) i = n.testBit i := by
  unfold bt nI
  show (BitVec.ofNat 32 n).getLsbD i = _
  rw [BitVec.getLsbD_ofNat]; simp [hi]
theorem small12 {s : Int32} (h : ∀ i, 12 ≤ i → bt s i = false) : ∃ n, n < 4096 ∧ s = nI n := by
  refine ⟨s.toBitVec.toNat % 4096, Nat.mod_lt _ (by decide), ?_⟩
  apply b_ext
  intro i hi
  rw [bt_nat _ _ hi]
  show s.toBitVec.getLsbD i = _
  rw [show (4096 : Nat) = 2 ^ 12 from rfl, Nat.testBit_mod_two_pow]
  by_cases h12 : i < 12
  · simp [h12, BitVec.getLsbD]
  · have := h i (by omega)
    unfold bt at this
    simp [h12, this]
theorem c_bits12 {s : Int32} (hs : ∀ i, 12 ≤ i → bt s i = false) {h : am_H} : f_J6_bitCount_0f7a4 s h = m_ri h (nI (pcn s 32)) := by
  obtain ⟨n, hn, rfl⟩ := small12 hs
  rw [c_bc]
  have := bcf_lo (n / 64) (by omega) (n % 64) (by omega)
  rw [show 64 * (n / 64) + n % 64 = n by omega] at this
  rw [this]
