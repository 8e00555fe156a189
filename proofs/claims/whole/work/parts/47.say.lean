theorem bv_b (x : BitVec 64) (s : Nat) (hs : s ≤ 56) : (x >>> s).setWidth 32 &&& 255#32 = (x.sshiftRight s).setWidth 32 &&& 255#32 := by
  apply BitVec.eq_of_getLsbD_eq
  intro j hj
  by_cases h8 : j < 8
  · simp [BitVec.getLsbD_sshiftRight, BitVec.getElem_sshiftRight, hj, show s + j < 64 by omega, show j < 64 by omega]
  · have : (255#32).getLsbD j = false := by
      have : ∀ j : Fin 32, 8 ≤ j.val → (255#32).getLsbD j.val = false := by decide
      exact this ⟨j, hj⟩ (by show 8 ≤ j; omega)
    simp [this]
theorem l_shr (b s : Int64) (k : Nat) (hk : (s.toBitVec.smod 64).toNat = k) : (b >>> s).toBitVec = b.toBitVec.sshiftRight k := by
  subst hk
  rfl
theorem u_shr (b s : UInt64) (k : Nat) (hk : (s.toBitVec % 64).toNat = k) : (b >>> s).toBitVec = b.toBitVec >>> k := by
  subst hk
  rfl
theorem t32 (x : Int64) : (x.toInt32 &&& Int32.ofInt 255).toBitVec = x.toBitVec.setWidth 32 &&& (Int32.ofInt 255).toBitVec := by
  have e : x.toInt32.toBitVec = x.toBitVec.setWidth 32 := by
    first | (rw [Int64.toBitVec_toInt32, BitVec.signExtend_eq_setWidth_of_le _ (by decide)]) | (show x.toBitVec.signExtend 32 = _; rw [BitVec.signExtend_eq_setWidth_of_le _ (by decide)]) | simp
  rw [← e]
  rfl
theorem bit_w (b : Int64) (s1 : UInt64) (s2 : Int64) (k : Nat) (h1 : (s1.toBitVec % 64).toNat = k) (h2 : (s2.toBitVec.smod 64).toNat = k) (hk : k ≤ 56) : ((b.toUInt64 >>> s1).toInt64.toInt32 &&& Int32.ofInt 255).toBitVec = ((b >>> s2).toInt32 &&& Int32.ofInt 255).toBitVec := by
  have e := bv_b b.toBitVec k hk
  have e0 : (b.toUInt64 >>> s1).toInt64.toBitVec = (b.toUInt64 >>> s1).toBitVec := by first | rfl | simp
  have e3 : b.toUInt64.toBitVec = b.toBitVec := by first | rfl | simp
  rw [t32, t32, e0, u_shr _ _ _ h1, l_shr _ _ _ h2, e3]
  exact e
theorem bit_u (b : Int64) (i : Int) (hi : 0 ≤ i ∧ i ≤ 7) : fr_and ((fr_lushr b (8 * i)).toInt32.toInt) 255 = fr_and ((fr_lshr b (8 * i)).toInt32.toInt) 255 := by
  unfold fr_and
  rw [fr_oi, fr_oi]
  congr 1
  apply Int32.toBitVec_inj.mp
  unfold fr_lushr fr_lshr
  rcases (show i = 0 ∨ i = 1 ∨ i = 2 ∨ i = 3 ∨ i = 4 ∨ i = 5 ∨ i = 6 ∨ i = 7 by omega) with rfl | rfl | rfl | rfl | rfl | rfl | rfl | rfl
  · exact bit_w b _ _ 0 (by decide +kernel) (by decide +kernel) (by omega)
  · exact bit_w b _ _ 8 (by decide +kernel) (by decide +kernel) (by omega)
  · exact bit_w b _ _ 16 (by decide +kernel) (by decide +kernel) (by omega)
  · exact bit_w b _ _ 24 (by decide +kernel) (by decide +kernel) (by omega)
  · exact bit_w b _ _ 32 (by decide +kernel) (by decide +kernel) (by omega)
  · exact bit_w b _ _ 40 (by decide +kernel) (by decide +kernel) (by omega)
  · exact bit_w b _ _ 48 (by decide +kernel) (by decide +kernel) (by omega)
  · exact bit_w b _ _ 56 (by decide +kernel) (by decide +kernel) (by omega)
theorem and_255 (x : Int32) : 0 ≤ fr_and x.toInt 255 ∧ fr_and x.toInt 255 ≤ 255 := by
  unfold fr_and
  rw [fr_oi]
  obtain ⟨j, h1, h2⟩ := pk_andE x (m := Int32.ofInt 255) 8 (by decide +kernel)
  rw [h2, nI_toInt (by omega)]
  omega
theorem i2b_255 {v : Int} (h : 0 ≤ v ∧ v ≤ 255) : fr_i2b v = if v < 128 then v else v - 256 := by
  unfold fr_i2b
  rw [Int8.toInt_toInt32, Int32.toInt_toInt8, fr_ti ⟨by omega, by omega⟩]
  unfold Int.bmod
  simp only [Int8.size] at *
  split <;> split <;> omega
set_option maxHeartbeats 4000000 in
set_option maxRecDepth 100000 in
theorem c_append {M : fr_M} {v : Int} {Q : Option fr_V → fr_H → fr_M → Prop} (hl : 0 ≤ M 42 1 ∧ M 42 1 < 200) (hv : 0 ≤ v ∧ v ≤ 255) (h : Q none sh0 (fr_up (fr_up M 43 (M 42 1) (if v < 128 then v else v - 256)) 42 1 (M 42 1 + 1))) : fr_Call 99 [.inr (.inl 42), .inl v] sh0 M Q := by
  have e := i2b_255 hv
  have e2 : -128 ≤ fr_i2b v ∧ fr_i2b v ≤ 127 := by rw [e]; split <;> omega
  rw [← e] at h
  refine fr_cgo k99 [some (.inr (.inl 42)), some (.inl v)] 0 0 [] 400 rfl rfl rfl rfl ?_
  repeat' (first | (refine And.intro (by first | omega | (simp (disch := decide) only [up_n, up_s, cp_n, if_true, if_false, ite_true, ite_false, reduceIte, not_true_eq_false, not_false_eq_true]; omega)) ?_) | (refine And.intro (fun hc => ?_) (fun hc => ?_) <;> (try (simp (disch := decide) only [up_n, up_s, cp_n, if_true, if_false, ite_true, ite_false, reduceIte, not_true_eq_false, not_false_eq_true] at hc)) <;> (try (exfalso; omega))) | (refine fun (hc : ¬ _) => ?_; try (simp (disch := decide) only [up_n, up_s, cp_n, if_true, if_false, ite_true, ite_false, reduceIte, not_true_eq_false, not_false_eq_true] at hc)) | (refine fun (hc : _ = _) => ?_; try (simp (disch := decide) only [up_n, up_s, cp_n, if_true, if_false, ite_true, ite_false, reduceIte, not_true_eq_false, not_false_eq_true] at hc)))
  all_goals first | (exfalso; omega) | exact h
