theorem bv_hi (x m : BitVec 32) (a : Nat) (hm : ∀ j : Fin 32, m.getLsbD j.val = decide (a ≤ j.val)) : (x &&& m) = (x >>> a) <<< a := by
  apply BitVec.eq_of_getLsbD_eq
  intro j hj
  rw [BitVec.getLsbD_and, hm ⟨j, hj⟩, BitVec.getLsbD_shiftLeft, BitVec.getLsbD_ushiftRight]
  by_cases h : a ≤ j
  · have h1 : a + (j - a) = j := by omega
    simp [h, hj, h1]
  · have h2 : j < a := by omega
    simp [h, h2]
theorem and_hi (x : Nat) (hx : x < 2147483648) (y : Int) (a : Nat) (hm : ∀ j : Fin 32, (Int32.ofInt y).toBitVec.getLsbD j.val = decide (a ≤ j.val)) : fr_and (x : Int) y = ((x / 2 ^ a * 2 ^ a : Nat) : Int) := by
  unfold fr_and
  have e : (Int32.ofInt (x : Int) &&& Int32.ofInt y).toBitVec = (Int32.ofInt (x : Int)).toBitVec >>> a <<< a := by
    rw [Int32.toBitVec_and]
    exact bv_hi _ _ a hm
  have ex : (Int32.ofInt (x : Int)).toBitVec.toNat = x := by
    show (BitVec.ofInt 32 (x : Int)).toNat = x
    rw [BitVec.toNat_ofInt]
    omega
  have hq : x / 2 ^ a * 2 ^ a ≤ x := Nat.div_mul_le_self x (2 ^ a)
  have en : ((Int32.ofInt (x : Int)).toBitVec >>> a <<< a).toNat = x / 2 ^ a * 2 ^ a := by
    rw [BitVec.toNat_shiftLeft, BitVec.toNat_ushiftRight, ex, Nat.shiftLeft_eq, Nat.shiftRight_eq_div_pow]
    exact Nat.mod_eq_of_lt (by omega)
  show (Int32.ofInt (x : Int) &&& Int32.ofInt y).toBitVec.toInt = _
  rw [e, BitVec.toInt_eq_toNat_of_lt (by rw [en]; omega), en]
theorem and_al {x a : Int} (hx : 0 ≤ x ∧ x < 2147483648) (ha : a = 1 ∨ a = 2 ∨ a = 4 ∨ a = 8 ∨ a = 16) : fr_and x (-a) = x / a * a := by
  obtain ⟨n, rfl⟩ : ∃ n : Nat, x = (n : Int) := ⟨x.toNat, by omega⟩
  rcases ha with rfl | rfl | rfl | rfl | rfl
  · rw [and_hi n (by omega) (-1) 0 (by decide +kernel)]; omega
  · rw [and_hi n (by omega) (-2) 1 (by decide +kernel)]; omega
  · rw [and_hi n (by omega) (-4) 2 (by decide +kernel)]; omega
  · rw [and_hi n (by omega) (-8) 3 (by decide +kernel)]; omega
  · rw [and_hi n (by omega) (-16) 4 (by decide +kernel)]; omega
theorem al_b {p : fr_M} (hw : WF p) (x : Int) : x ≤ al p x ∧ al p x ≤ x + 15 := by
  unfold al
  rcases hw.1.2.2 with h | h | h | h | h <;> rw [h] <;> omega
theorem tg0_k {p : fr_M} {b : Int} (h : tg0 p b ≠ -1) : p 82 b = 3 := by
  unfold tg0 at h
  split at h
  · assumption
  · exact absurd rfl h
theorem s0_b {p : fr_M} {lg : Int → Int} {b : Int} : (0 ≤ s0 p lg b ∧ s0 p lg b ≤ 6) ∧ (p 82 b ≠ 3 → s0 p lg b = 0) := by
  unfold s0
  refine ⟨?_, fun h => ?_⟩
  · split
    · omega
    · split <;> omega
  · rw [if_pos]
    unfold tg0
    rw [if_neg h]
theorem s1_b {p : fr_M} {lg : Int → Int} {b : Int} : 0 ≤ s1 p lg b ∧ s1 p lg b ≤ 5 := by
  unfold s1
  split
  · omega
  · split <;> omega
theorem ed_b {p : fr_M} (hw : WF p) {lg : Int → Int} {b x : Int} (hb : 0 ≤ b ∧ b < p 75 4) : x ≤ ed p lg b x ∧ ed p lg b x ≤ x + 21 := by
  obtain ⟨a1, a2, a3, a4, a5, a6, a7, a8⟩ := hw.2.2.2.2.2.1 b hb.1 hb.2
  have b0 := s0_b (p := p) (lg := lg) (b := b)
  have b1 := s1_b (p := p) (lg := lg) (b := b)
  unfold ed
  split
  · omega
  · split
    · next h =>
      have := a7 h
      omega
    · have : 0 ≤ c5 p b ∧ c5 p b ≤ 5 := by
        unfold c5
        split <;> omega
      omega
theorem pos_b {p : fr_M} (hw : WF p) {lg : Int → Int} : ∀ {k : Nat}, k ≤ cN p → 0 ≤ pos p lg k ∧ pos p lg k ≤ 236 * (k : Int)
  | 0, _ => by simp [pos]
  | k + 1, h => by
    have ih := pos_b hw (lg := lg) (k := k) (by omega)
    have a := al_b hw (pos p lg k)
    have hr := ln_rng hw (k := k) (by omega)
    have s := (hw.2.2.2.2.2.1 _ hr.1 hr.2).1
    have e := ed_b hw (lg := lg) (b := ln p k) (x := al p (pos p lg k) + p 80 (ln p k)) hr
    rw [pos]
    omega
theorem cN_40 {p : fr_M} (hw : WF p) : cN p ≤ 40 ∧ (cN p : Int) = p 75 4 := by
  have := hw.1.1
  unfold cN
  omega
theorem ad_ln {p : fr_M} (hw : WF p) {lg : Int → Int} {k : Nat} (h : k < cN p) : ad p lg (ln p k) = al p (pos p lg k) := by
  unfold ad
  rw [ix_ln hw h]
theorem be_ln {p : fr_M} (hw : WF p) {lg : Int → Int} {k : Nat} (h : k < cN p) : be p lg (ln p k) = pos p lg (k + 1) := by
  unfold be ea
  rw [ad_ln hw h, pos]
theorem ad_b {p : fr_M} (hw : WF p) {lg : Int → Int} {b : Int} (h : 0 ≤ b ∧ b < p 75 4) : (0 ≤ ad p lg b ∧ ad p lg b ≤ 9300) ∧ ea p lg b = ad p lg b + p 80 b ∧ (ea p lg b ≤ be p lg b ∧ be p lg b ≤ ea p lg b + 21) ∧ be p lg b ≤ 9440 := by
  have hk := ix_lt hw h
  have hc := cN_40 hw
  have a := al_b hw (pos p lg (ix p b))
  have q := pos_b hw (lg := lg) (k := ix p b) (by omega)
  have q2 := pos_b hw (lg := lg) (k := ix p b + 1) (by omega)
  have e := ed_b hw (lg := lg) (b := b) (x := ea p lg b) h
  have e2 := be_ln hw (lg := lg) hk
  rw [ln_ix hw h] at e2
  refine ⟨?_, rfl, e, by rw [e2]; omega⟩
  unfold ad
  omega
theorem tg_even {p : fr_M} {b : Int} : tg p (2 * b) = tg0 p b := by
  unfold tg
  rw [if_pos (by omega), show 2 * b / 2 = b by omega]
theorem tg_odd {p : fr_M} {b : Int} : tg p (2 * b + 1) = tg1 p b := by
  unfold tg
  rw [if_neg (by omega), show (2 * b + 1) / 2 = b by omega]
theorem jb_even {p : fr_M} {lg : Int → Int} {b : Int} : jb p lg (2 * b) = jb0 p lg b := by
  unfold jb
  rw [if_pos (by omega), show 2 * b / 2 = b by omega]
theorem jb_odd {p : fr_M} {lg : Int → Int} {b : Int} : jb p lg (2 * b + 1) = jb1 p lg b := by
  unfold jb
  rw [if_neg (by omega), show (2 * b + 1) / 2 = b by omega]
theorem w_rng {p : fr_M} (hw : WF p) {b : Int} (h : 0 ≤ b ∧ b < p 75 4) : (p 82 b = 2 ∨ p 82 b = 3 ∨ p 82 b = 4 ∨ p 82 b = 5 ∨ p 82 b = 6 → 0 ≤ w0 p b ∧ w0 p b < p 75 4) ∧ (p 82 b = 3 ∨ p 82 b = 6 → 0 ≤ w1 p b ∧ w1 p b < p 75 4) := by
  obtain ⟨a1, a2, a3, a4, a5, a6, a7, a8⟩ := hw.2.2.2.2.2.1 b h.1 h.2
  have z := hw.2.2.2.2.2.2 b
  refine ⟨fun q => ?_, fun q => ?_⟩
  · have := z 0 h.1 h.2 (by omega) (by omega)
    rw [show 4 * b + 0 = 4 * b by omega] at this
    exact this
  · exact z 1 h.1 h.2 (by omega) (by omega)
theorem tg0_rng {p : fr_M} (hw : WF p) {b : Int} (h : 0 ≤ b ∧ b < p 75 4) : tg0 p b = -1 ∨ (0 ≤ tg0 p b ∧ tg0 p b < p 75 4) := by
  have hwr := w_rng hw h
  unfold tg0
  split
  · next q =>
    right
    split
    · exact hwr.2 (by omega)
    · exact hwr.1 (by omega)
  · exact Or.inl rfl
theorem tg1_rng {p : fr_M} (hw : WF p) {b : Int} (h : 0 ≤ b ∧ b < p 75 4) : tg1 p b = -1 ∨ (0 ≤ tg1 p b ∧ tg1 p b < p 75 4) := by
  have hwr := w_rng hw h
  unfold tg1
  split
  · next q =>
    split
    · exact Or.inl rfl
    · exact Or.inr (hwr.1 (by omega))
  · split
    · next q =>
      split
      · exact Or.inl rfl
      · exact Or.inr (hwr.2 (by omega))
    · exact Or.inl rfl
theorem tg_rng {p : fr_M} (hw : WF p) {s : Int} (h : 0 ≤ s ∧ s < 2 * p 75 4) : tg p s = -1 ∨ (0 ≤ tg p s ∧ tg p s < p 75 4) := by
  unfold tg
  split
  · exact tg0_rng hw (by omega)
  · exact tg1_rng hw (by omega)
theorem jb_b {p : fr_M} (hw : WF p) {lg : Int → Int} {s : Int} (h : 0 ≤ s ∧ s < 2 * p 75 4) : 0 ≤ jb p lg s ∧ jb p lg s ≤ 9600 := by
  have a := ad_b hw (lg := lg) (b := s / 2) (by omega)
  have s0' := s0_b (p := p) (lg := lg) (b := s / 2)
  have s1' := s1_b (p := p) (lg := lg) (b := s / 2)
  have sz := (hw.2.2.2.2.2.1 (s / 2) (by omega) (by omega)).1
  have : 0 ≤ c5 p (s / 2) ∧ c5 p (s / 2) ≤ 5 := by
    unfold c5
    split <;> omega
  unfold jb jb0 jb1
  split <;> omega
