theorem i2b_any {v : Int} (h : fr_in v) : fr_i2b v = sg (v % 256) := by
  unfold fr_i2b sg
  rw [Int8.toInt_toInt32, Int32.toInt_toInt8, fr_ti h]
  unfold Int.bmod
  simp only [Int8.size] at *
  split <;> split <;> omega
theorem sh_r (a s : Int32) (k : Nat) (hk : (s.toBitVec.smod 32).toNat = k) : (a >>> s).toBitVec = a.toBitVec.sshiftRight k := by
  subst hk
  rfl
theorem sh_l (a s : Int32) (k : Nat) (hk : (s.toBitVec.smod 32).toNat = k) : (a <<< s).toBitVec = a.toBitVec <<< k := by
  subst hk
  rfl
theorem shr_k {v y : Int} (k : Nat) (h : fr_in v) (hk : ((Int32.ofInt y &&& 31).toBitVec.smod 32).toNat = k) : fr_shr v y = v / ((2 ^ k : Nat) : Int) := by
  unfold fr_shr
  show (Int32.ofInt v >>> (Int32.ofInt y &&& 31)).toBitVec.toInt = _
  rw [sh_r _ _ k hk, BitVec.toInt_sshiftRight]
  have e : (Int32.ofInt v).toBitVec.toInt = v := fr_ti h
  rw [e, Int.shiftRight_eq_div_pow]
theorem and_255b {x : Int} (h : -128 ≤ x ∧ x ≤ 127) : fr_and x 255 = x % 256 := by
  unfold fr_and
  have e : (Int32.ofInt x &&& Int32.ofInt 255).toBitVec.toNat = (x % 256).toNat := by
    rw [Int32.toBitVec_and, BitVec.toNat_and]
    have e1 : (Int32.ofInt 255).toBitVec.toNat = 2 ^ 8 - 1 := by decide
    rw [e1, Nat.and_two_pow_sub_one_eq_mod]
    show (BitVec.ofInt 32 x).toNat % 2 ^ 8 = _
    rw [BitVec.toNat_ofInt]
    omega
  show (Int32.ofInt x &&& Int32.ofInt 255).toBitVec.toInt = _
  rw [BitVec.toInt_eq_toNat_of_lt (by rw [e]; omega), e]
  omega
theorem sg_mod {x : Int} (h : 0 ≤ x ∧ x ≤ 255) : sg x % 256 = x ∧ -128 ≤ sg x ∧ sg x ≤ 127 := by
  unfold sg
  split <;> omega
theorem byo_b {v k : Int} : 0 ≤ byo v k ∧ byo v k ≤ 255 := by
  unfold byo
  split
  · omega
  · split
    · omega
    · split <;> omega
theorem bv_word (V : BitVec 32) : (((V &&& 255#32) ||| (((V >>> 8) &&& 255#32) <<< 8)) ||| (((V >>> 16) &&& 255#32) <<< 16)) ||| (((V >>> 24) &&& 255#32) <<< 24) = V := by
  have h255 : ∀ j : Nat, (255#32).getLsbD j = decide (j < 8) := by
    intro j
    by_cases hj : j < 32
    · have : ∀ j : Fin 32, (255#32).getLsbD j.val = decide (j.val < 8) := by decide
      exact this ⟨j, hj⟩
    · rw [BitVec.getLsbD_of_ge _ _ (by omega)]
      have : ¬ j < 8 := by omega
      simp [this]
  apply BitVec.eq_of_getLsbD_eq
  intro j hj
  simp only [BitVec.getLsbD_or, BitVec.getLsbD_and, BitVec.getLsbD_shiftLeft, BitVec.getLsbD_ushiftRight, h255]
  rcases (show j < 8 ∨ (8 ≤ j ∧ j < 16) ∨ (16 ≤ j ∧ j < 24) ∨ (24 ≤ j ∧ j < 32) by omega) with h | h | h | h
  · simp [h, show j < 16 by omega, show j < 24 by omega, hj]
  · simp [hj, show ¬ j < 8 by omega, show j < 16 by omega, show j < 24 by omega, show j - 8 < 8 by omega, show 8 + (j - 8) = j by omega]
  · simp [hj, show ¬ j < 8 by omega, show ¬ j < 16 by omega, show j < 24 by omega, show ¬ j - 8 < 8 by omega, show j - 16 < 8 by omega, show 16 + (j - 16) = j by omega]
  · simp [hj, show ¬ j < 8 by omega, show ¬ j < 16 by omega, show ¬ j < 24 by omega, show ¬ j - 8 < 8 by omega, show ¬ j - 16 < 8 by omega, show j - 24 < 8 by omega, show 24 + (j - 24) = j by omega]
theorem byo_bv {v : Int} (h : fr_in v) (k : Nat) (hk : k = 0 ∨ k = 1 ∨ k = 2 ∨ k = 3) : (Int32.ofInt (byo v (k : Int))).toBitVec = ((Int32.ofInt v).toBitVec >>> (8 * k)) &&& 255#32 := by
  apply BitVec.eq_of_toNat_eq
  have hb := byo_b (v := v) (k := (k : Int))
  have e1 : (Int32.ofInt (byo v (k : Int))).toBitVec.toNat = (byo v (k : Int)).toNat := by
    show (BitVec.ofInt 32 _).toNat = _
    rw [BitVec.toNat_ofInt]
    omega
  have e2 : (Int32.ofInt v).toBitVec.toNat = (v % 4294967296).toNat := by
    show (BitVec.ofInt 32 _).toNat = _
    rw [BitVec.toNat_ofInt]
    omega
  have e3 : (255#32).toNat = 2 ^ 8 - 1 := by decide
  rw [e1, BitVec.toNat_and, e3, Nat.and_two_pow_sub_one_eq_mod, BitVec.toNat_ushiftRight, e2, Nat.shiftRight_eq_div_pow]
  obtain ⟨h1, h2⟩ := h
  rcases hk with rfl | rfl | rfl | rfl
  · show (v % 256).toNat = _
    omega
  · show (v / 256 % 256).toNat = _
    omega
  · show (v / 65536 % 256).toNat = _
    omega
  · show (v / 16777216 % 256).toNat = _
    omega
theorem word_v {v : Int} (h : fr_in v) : fr_or (fr_or (fr_or (byo v 0) (fr_shl (byo v 1) 8)) (fr_shl (byo v 2) 16)) (fr_shl (byo v 3) 24) = v := by
  unfold fr_or fr_shl
  rw [fr_oi, fr_oi, fr_oi, fr_oi, fr_oi]
  have b0 := byo_bv h 0 (by omega)
  have b1 := byo_bv h 1 (by omega)
  have b2 := byo_bv h 2 (by omega)
  have b3 := byo_bv h 3 (by omega)
  have e : (((Int32.ofInt (byo v 0) ||| Int32.ofInt (byo v 1) <<< (Int32.ofInt 8 &&& 31)) ||| Int32.ofInt (byo v 2) <<< (Int32.ofInt 16 &&& 31)) ||| Int32.ofInt (byo v 3) <<< (Int32.ofInt 24 &&& 31)).toBitVec = (Int32.ofInt v).toBitVec := by
    rw [Int32.toBitVec_or, Int32.toBitVec_or, Int32.toBitVec_or, sh_l _ _ 8 (by decide +kernel), sh_l _ _ 16 (by decide +kernel), sh_l _ _ 24 (by decide +kernel)]
    have c0 : (Int32.ofInt (byo v 0)).toBitVec = (Int32.ofInt v).toBitVec &&& 255#32 := by
      have := b0
      simpa using this
    have c1 : (Int32.ofInt (byo v 1)).toBitVec = ((Int32.ofInt v).toBitVec >>> 8) &&& 255#32 := b1
    have c2 : (Int32.ofInt (byo v 2)).toBitVec = ((Int32.ofInt v).toBitVec >>> 16) &&& 255#32 := b2
    have c3 : (Int32.ofInt (byo v 3)).toBitVec = ((Int32.ofInt v).toBitVec >>> 24) &&& 255#32 := b3
    rw [c0, c1, c2, c3]
    exact bv_word _
  have e2 := congrArg BitVec.toInt e
  exact e2.trans (fr_ti h)
