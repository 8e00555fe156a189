theorem and_255g {x : Int} (h : fr_in x) : fr_and x 255 = x % 256 := by
  obtain ⟨h1, h2⟩ := h
  unfold fr_and
  have e : (Int32.ofInt x &&& Int32.ofInt 255).toBitVec.toNat = (x % 256).toNat := by
    rw [Int32.toBitVec_and, BitVec.toNat_and]
    have e1 : (Int32.ofInt 255).toBitVec.toNat = 2 ^ 8 - 1 := by decide
    rw [e1, Nat.and_two_pow_sub_one_eq_mod]
    show (BitVec.ofInt 32 x).toNat % 2 ^ 8 = _
    rw [BitVec.toNat_ofInt]
    omega
  show (Int32.ofInt x &&& Int32.ofInt 255).toBitVec.toInt = _
  rw [BitVec.toInt_eq_toNat_of_lt (by rw [e]; omega), e]
  omega
set_option maxHeartbeats 4000000 in
set_option maxRecDepth 100000 in
theorem m_byteOf {M : fr_M} {v k : Int} {Q : Option fr_V → fr_H → fr_M → Prop} (hv : fr_in v) (hk : 0 ≤ k ∧ k ≤ 3) (h : Q (some (.inl (byo v k))) sh0 M) : fr_Call 185 [.inl v, .inl k] sh0 M Q := by
  have key : fr_and (fr_shr v (8 * k)) 255 = byo v k := by
    rcases (show k = 0 ∨ k = 1 ∨ k = 2 ∨ k = 3 by omega) with rfl | rfl | rfl | rfl
    · have e : fr_shr v (8 * 0) = v / 1 := shr_k (v := v) (y := 0) 0 hv (by decide +kernel)
      rw [e, and_255g (by omega)]
      show _ = v % 256
      omega
    · have e : fr_shr v (8 * 1) = v / 256 := shr_k (v := v) (y := 8) 8 hv (by decide +kernel)
      rw [e, and_255g (by omega)]
      rfl
    · have e : fr_shr v (8 * 2) = v / 65536 := shr_k (v := v) (y := 16) 16 hv (by decide +kernel)
      rw [e, and_255g (by omega)]
      rfl
    · have e : fr_shr v (8 * 3) = v / 16777216 := shr_k (v := v) (y := 24) 24 hv (by decide +kernel)
      rw [e, and_255g (by omega)]
      rfl
  rw [← key] at h
  refine fr_cgo k185 [some (.inl v), some (.inl k)] 0 0 [] 400 rfl rfl rfl rfl ?_
  repeat' (first | (refine And.intro (by first | omega | (simp (disch := decide) only [up_n, up_s, cp_n, rw_n, rw_s, up1_, if_true, if_false, ite_true, ite_false, reduceIte, eq_self, Int.reduceEq, true_and, and_true, not_true_eq_false, not_false_eq_true]; omega)) ?_) | (refine And.intro (fun hc => ?_) (fun hc => ?_) <;> (try (simp (disch := decide) only [up_n, up_s, cp_n, rw_n, rw_s, up1_, if_true, if_false, ite_true, ite_false, reduceIte, eq_self, Int.reduceEq, true_and, and_true, not_true_eq_false, not_false_eq_true] at hc)) <;> (try (exfalso; omega))) | (refine fun (hc : ¬ _) => ?_; try (simp (disch := decide) only [up_n, up_s, cp_n, rw_n, rw_s, up1_, if_true, if_false, ite_true, ite_false, reduceIte, eq_self, Int.reduceEq, true_and, and_true, not_true_eq_false, not_false_eq_true] at hc)) | (refine fun (hc : _ = _) => ?_; try (simp (disch := decide) only [up_n, up_s, cp_n, rw_n, rw_s, up1_, if_true, if_false, ite_true, ite_false, reduceIte, eq_self, Int.reduceEq, true_and, and_true, not_true_eq_false, not_false_eq_true] at hc)))
  exact h
set_option maxHeartbeats 4000000 in
set_option maxRecDepth 100000 in
theorem m_jumpByte {M : fr_M} {j k x y c d : Int} {Q : Option fr_V → fr_H → fr_M → Prop} (hj : 0 ≤ j ∧ j < 80) (ht : 0 ≤ M 101 j ∧ M 101 j < 40) (hd : M 98 (M 101 j) - M 104 j = d) (hdi : -20000 ≤ d ∧ d ≤ 20000) (hk : 0 ≤ k ∧ k ≤ c + 3) (hc : 1 ≤ c ∧ c ≤ 2) (h : Q (some (.inl (if k = 0 then x else if k < c then y else byo d (k - c)))) sh0 M) : fr_Call 186 [.inr (.inl 75), .inl j, .inl k, .inl x, .inl y, .inl c] sh0 M Q := by
  by_cases e0 : k = 0
  · rw [if_pos e0] at h
    refine fr_cgo k186 [some (.inr (.inl 75)), some (.inl j), some (.inl k), some (.inl x), some (.inl y), some (.inl c), none] 0 0 [] 400 rfl rfl rfl rfl ?_
    repeat' (first | (refine And.intro (by first | omega | (simp (disch := decide) only [up_n, up_s, cp_n, rw_n, rw_s, up1_, if_true, if_false, ite_true, ite_false, reduceIte, eq_self, Int.reduceEq, true_and, and_true, not_true_eq_false, not_false_eq_true]; omega)) ?_) | (refine And.intro (fun hc => ?_) (fun hc => ?_) <;> (try (simp (disch := decide) only [up_n, up_s, cp_n, rw_n, rw_s, up1_, if_true, if_false, ite_true, ite_false, reduceIte, eq_self, Int.reduceEq, true_and, and_true, not_true_eq_false, not_false_eq_true] at hc)) <;> (try (exfalso; omega))) | (refine fun (hc : ¬ _) => ?_; try (simp (disch := decide) only [up_n, up_s, cp_n, rw_n, rw_s, up1_, if_true, if_false, ite_true, ite_false, reduceIte, eq_self, Int.reduceEq, true_and, and_true, not_true_eq_false, not_false_eq_true] at hc)) | (refine fun (hc : _ = _) => ?_; try (simp (disch := decide) only [up_n, up_s, cp_n, rw_n, rw_s, up1_, if_true, if_false, ite_true, ite_false, reduceIte, eq_self, Int.reduceEq, true_and, and_true, not_true_eq_false, not_false_eq_true] at hc)))
    all_goals first | (exfalso; omega) | exact h
  · rw [if_neg e0] at h
    by_cases e1 : k < c
    · rw [if_pos e1] at h
      refine fr_cgo k186 [some (.inr (.inl 75)), some (.inl j), some (.inl k), some (.inl x), some (.inl y), some (.inl c), none] 0 0 [] 400 rfl rfl rfl rfl ?_
      repeat' (first | (refine And.intro (by first | omega | (simp (disch := decide) only [up_n, up_s, cp_n, rw_n, rw_s, up1_, if_true, if_false, ite_true, ite_false, reduceIte, eq_self, Int.reduceEq, true_and, and_true, not_true_eq_false, not_false_eq_true]; omega)) ?_) | (refine And.intro (fun hc => ?_) (fun hc => ?_) <;> (try (simp (disch := decide) only [up_n, up_s, cp_n, rw_n, rw_s, up1_, if_true, if_false, ite_true, ite_false, reduceIte, eq_self, Int.reduceEq, true_and, and_true, not_true_eq_false, not_false_eq_true] at hc)) <;> (try (exfalso; omega))) | (refine fun (hc : ¬ _) => ?_; try (simp (disch := decide) only [up_n, up_s, cp_n, rw_n, rw_s, up1_, if_true, if_false, ite_true, ite_false, reduceIte, eq_self, Int.reduceEq, true_and, and_true, not_true_eq_false, not_false_eq_true] at hc)) | (refine fun (hc : _ = _) => ?_; try (simp (disch := decide) only [up_n, up_s, cp_n, rw_n, rw_s, up1_, if_true, if_false, ite_true, ite_false, reduceIte, eq_self, Int.reduceEq, true_and, and_true, not_true_eq_false, not_false_eq_true] at hc)))
      all_goals first | (exfalso; omega) | exact h
    · rw [if_neg e1, ← hd] at h
      refine fr_cgo k186 [some (.inr (.inl 75)), some (.inl j), some (.inl k), some (.inl x), some (.inl y), some (.inl c), none] 0 0 [] 400 rfl rfl rfl rfl ?_
      repeat' (first | (refine And.intro (by first | omega | (simp (disch := decide) only [up_n, up_s, cp_n, rw_n, rw_s, up1_, if_true, if_false, ite_true, ite_false, reduceIte, eq_self, Int.reduceEq, true_and, and_true, not_true_eq_false, not_false_eq_true]; omega)) ?_) | (refine m_byteOf (by omega) (by omega) ?_) | (refine And.intro (fun hc => ?_) (fun hc => ?_) <;> (try (simp (disch := decide) only [up_n, up_s, cp_n, rw_n, rw_s, up1_, if_true, if_false, ite_true, ite_false, reduceIte, eq_self, Int.reduceEq, true_and, and_true, not_true_eq_false, not_false_eq_true] at hc)) <;> (try (exfalso; omega))) | (refine fun (hc : ¬ _) => ?_; try (simp (disch := decide) only [up_n, up_s, cp_n, rw_n, rw_s, up1_, if_true, if_false, ite_true, ite_false, reduceIte, eq_self, Int.reduceEq, true_and, and_true, not_true_eq_false, not_false_eq_true] at hc)) | (refine fun (hc : _ = _) => ?_; try (simp (disch := decide) only [up_n, up_s, cp_n, rw_n, rw_s, up1_, if_true, if_false, ite_true, ite_false, reduceIte, eq_self, Int.reduceEq, true_and, and_true, not_true_eq_false, not_false_eq_true] at hc)))
      all_goals first | (exfalso; omega) | exact h
set_option maxHeartbeats 4000000 in
set_option maxRecDepth 100000 in
theorem m_endByte {M p : fr_M} {T : Nat} {b k : Int} {Q : Option fr_V → fr_H → fr_M → Prop} (hp : pg M = p) (hw : WF p) (hP : RefP p T M) (hb : 0 ≤ b ∧ b < p 75 4) (hk : 0 ≤ k ∧ k < be p (lgT p T) b - ea p (lgT p T) b) (h : Q (some (.inl (eb p (lgT p T) b k))) sh0 M) : fr_Call 187 [.inr (.inl 75), .inl b, .inl k] sh0 M Q := by
  have h40 := hw.1.1
  obtain ⟨-, -, -, hbl, hsl⟩ := hP
  have hbl98 := fun b q0 q1 => (hbl b q0 q1).2.1
  obtain ⟨e97, e98, e99, e100⟩ := hbl b hb.1 hb.2
  have ek : p 82 b = M 82 b := by rw [← hp]; rfl
  have en : p 83 b = M 83 b := by rw [← hp]; rfl
  have hab := ad_b hw (lg := lgT p T) hb
  obtain ⟨w1', w2', w3', w4', w5', w6', w7', w8'⟩ := hw.2.2.2.2.2.1 b hb.1 hb.2
  have hbe : be p (lgT p T) b = if p 82 b ≤ 1 then ea p (lgT p T) b + 1 else if p 82 b = 4 then (ea p (lgT p T) b + 5) / 4 * 4 + 4 * p 83 b else ea p (lgT p T) b + c5 p b + s0 p (lgT p T) b + s1 p (lgT p T) b := rfl
  have sl0 := hsl (2 * b) (by omega) (by omega)
  have sl1 := hsl (2 * b + 1) (by omega) (by omega)
  have tr0 := tg0_rng hw hb
  have tr1 := tg1_rng hw hb
  have dd0 : tg0 p b ≠ -1 → M 101 (2 * b) = tg0 p b ∧ M 98 (M 101 (2 * b)) - M 104 (2 * b) = ad p (lgT p T) (tg0 p b) - jb0 p (lgT p T) b ∧ M 104 (2 * b) = jb0 p (lgT p T) b := by
    intro q
    rw [tg_even, jb_even] at sl0
    have e : M 101 (2 * b) = tg0 p b := by
      rw [sl0.1]
      unfold nn
      rw [if_neg q]
    rw [e, sl0.2.2.2 q, hbl98 _ (tr0.resolve_left q).1 (tr0.resolve_left q).2]
    exact ⟨rfl, rfl, rfl⟩
  have dd1 : tg1 p b ≠ -1 → M 101 (2 * b + 1) = tg1 p b ∧ M 98 (M 101 (2 * b + 1)) - M 104 (2 * b + 1) = ad p (lgT p T) (tg1 p b) - jb1 p (lgT p T) b ∧ M 104 (2 * b + 1) = jb1 p (lgT p T) b := by
    intro q
    rw [tg_odd, jb_odd] at sl1
    have e : M 101 (2 * b + 1) = tg1 p b := by
      rw [sl1.1]
      unfold nn
      rw [if_neg q]
    rw [e, sl1.2.2.2 q, hbl98 _ (tr1.resolve_left q).1 (tr1.resolve_left q).2]
    exact ⟨rfl, rfl, rfl⟩
  have di0 : tg0 p b ≠ -1 → -20000 ≤ ad p (lgT p T) (tg0 p b) - jb0 p (lgT p T) b ∧ ad p (lgT p T) (tg0 p b) - jb0 p (lgT p T) b ≤ 20000 := by
    intro q
    have := jb_d hw (lg := lgT p T) (s := 2 * b) (by omega) (by rw [tg_even]; exact q)
    rw [tg_even, jb_even] at this
    exact this
  have di1 : tg1 p b ≠ -1 → -20000 ≤ ad p (lgT p T) (tg1 p b) - jb1 p (lgT p T) b ∧ ad p (lgT p T) (tg1 p b) - jb1 p (lgT p T) b ≤ 20000 := by
    intro q
    have := jb_d hw (lg := lgT p T) (s := 2 * b + 1) (by omega) (by rw [tg_odd]; exact q)
    rw [tg_odd, jb_odd] at this
    exact this
  have m0 : tg0 p b = -1 → M 101 (2 * b) = -9 := by
    intro q
    rw [tg_even] at sl0
    rw [sl0.1, q]
    rfl
  have l0 := sl0.2.1
  have l1 := sl1.2.1
  have l01 := lg_01 (p := p) (t := T) (s := 2 * b)
  have l11 := lg_01 (p := p) (t := T) (s := 2 * b + 1)
  have hj0 : jb0 p (lgT p T) b = ea p (lgT p T) b + c5 p b + s0 p (lgT p T) b := rfl
  have hj1 : jb1 p (lgT p T) b = ea p (lgT p T) b + c5 p b + s0 p (lgT p T) b + s1 p (lgT p T) b := rfl
  have z1 := s1_b (p := p) (lg := lgT p T) (b := b)
  have z0 := s0_b (p := p) (lg := lgT p T) (b := b)
  have hz1 := s1_e (p := p) (lg := lgT p T) (b := b)
  have hz0 := s0_e (p := p) (lg := lgT p T) (b := b)
  have zc : (c5 p b = 0 ∨ c5 p b = 5) ∧ (p 82 b = 5 → c5 p b = 5) ∧ (p 82 b ≠ 5 → c5 p b = 0) := by
    unfold c5
    split <;> omega
  have hwy := fun w => hw.2.2.2.2.2.2 b w hb.1 hb.2
  have e84 : ∀ j, p 84 j = M 84 j := fun j => by rw [← hp]; rfl
  have e77 : ∀ j, p 77 j = M 77 j := fun j => by rw [← hp]; rfl
  have e86 : p 86 b = M 86 b := by rw [← hp]; rfl
  rcases (show p 82 b = 0 ∨ p 82 b = 1 ∨ p 82 b = 4 ∨ (p 82 b = 5 ∧ k < 5) ∨ ((p 82 b = 2 ∨ p 82 b = 3 ∨ p 82 b = 5 ∨ p 82 b = 6) ∧ (p 82 b = 5 → 5 ≤ k)) by omega) with hk' | hk' | hk' | hk' | hk'
  · unfold eb at h
    rw [if_pos hk'] at h
    clear hbl hsl hbl98 dd0 dd1 di0 di1 hwy
    refine fr_cgo k187 [some (.inr (.inl 75)), some (.inl b), some (.inl k), none, none, none, none] 0 0 [] 400 rfl rfl rfl rfl ?_
    repeat' (first | (refine And.intro (by first | omega | (simp (disch := decide) only [up_n, up_s, cp_n, rw_n, rw_s, up1_, if_true, if_false, ite_true, ite_false, reduceIte, eq_self, Int.reduceEq, true_and, and_true, not_true_eq_false, not_false_eq_true]; omega)) ?_) | (refine And.intro (fun hc => ?_) (fun hc => ?_) <;> (try (simp (disch := decide) only [up_n, up_s, cp_n, rw_n, rw_s, up1_, if_true, if_false, ite_true, ite_false, reduceIte, eq_self, Int.reduceEq, true_and, and_true, not_true_eq_false, not_false_eq_true] at hc)) <;> (try (exfalso; omega))) | (refine fun (hc : ¬ _) => ?_; try (simp (disch := decide) only [up_n, up_s, cp_n, rw_n, rw_s, up1_, if_true, if_false, ite_true, ite_false, reduceIte, eq_self, Int.reduceEq, true_and, and_true, not_true_eq_false, not_false_eq_true] at hc)) | (refine fun (hc : _ = _) => ?_; try (simp (disch := decide) only [up_n, up_s, cp_n, rw_n, rw_s, up1_, if_true, if_false, ite_true, ite_false, reduceIte, eq_self, Int.reduceEq, true_and, and_true, not_true_eq_false, not_false_eq_true] at hc)))
    all_goals first | (exfalso; omega) | exact h
  · unfold eb at h
    rw [if_neg (by omega), if_pos hk'] at h
    clear hbl hsl hbl98 dd0 dd1 di0 di1 hwy
    refine fr_cgo k187 [some (.inr (.inl 75)), some (.inl b), some (.inl k), none, none, none, none] 0 0 [] 400 rfl rfl rfl rfl ?_
    repeat' (first | (refine And.intro (by first | omega | (simp (disch := decide) only [up_n, up_s, cp_n, rw_n, rw_s, up1_, if_true, if_false, ite_true, ite_false, reduceIte, eq_self, Int.reduceEq, true_and, and_true, not_true_eq_false, not_false_eq_true]; omega)) ?_) | (refine And.intro (fun hc => ?_) (fun hc => ?_) <;> (try (simp (disch := decide) only [up_n, up_s, cp_n, rw_n, rw_s, up1_, if_true, if_false, ite_true, ite_false, reduceIte, eq_self, Int.reduceEq, true_and, and_true, not_true_eq_false, not_false_eq_true] at hc)) <;> (try (exfalso; omega))) | (refine fun (hc : ¬ _) => ?_; try (simp (disch := decide) only [up_n, up_s, cp_n, rw_n, rw_s, up1_, if_true, if_false, ite_true, ite_false, reduceIte, eq_self, Int.reduceEq, true_and, and_true, not_true_eq_false, not_false_eq_true] at hc)) | (refine fun (hc : _ = _) => ?_; try (simp (disch := decide) only [up_n, up_s, cp_n, rw_n, rw_s, up1_, if_true, if_false, ite_true, ite_false, reduceIte, eq_self, Int.reduceEq, true_and, and_true, not_true_eq_false, not_false_eq_true] at hc)))
    all_goals first | (exfalso; omega) | exact h
  · unfold eb at h
    rw [if_neg (by omega), if_neg (by omega), if_pos hk'] at h
    rw [if_neg (by omega), if_pos hk'] at hbe
    by_cases k0 : k = 0
    · rw [if_pos k0] at h
      clear hbl hsl hbl98 dd0 dd1 di0 di1 hwy
      refine fr_cgo k187 [some (.inr (.inl 75)), some (.inl b), some (.inl k), none, none, none, none] 0 0 [] 400 rfl rfl rfl rfl ?_
      repeat' (first | (refine And.intro (by first | omega | (simp (disch := decide) only [up_n, up_s, cp_n, rw_n, rw_s, up1_, if_true, if_false, ite_true, ite_false, reduceIte, eq_self, Int.reduceEq, true_and, and_true, not_true_eq_false, not_false_eq_true]; omega)) ?_) | (refine And.intro (fun hc => ?_) (fun hc => ?_) <;> (try (simp (disch := decide) only [up_n, up_s, cp_n, rw_n, rw_s, up1_, if_true, if_false, ite_true, ite_false, reduceIte, eq_self, Int.reduceEq, true_and, and_true, not_true_eq_false, not_false_eq_true] at hc)) <;> (try (exfalso; omega))) | (refine fun (hc : ¬ _) => ?_; try (simp (disch := decide) only [up_n, up_s, cp_n, rw_n, rw_s, up1_, if_true, if_false, ite_true, ite_false, reduceIte, eq_self, Int.reduceEq, true_and, and_true, not_true_eq_false, not_false_eq_true] at hc)) | (refine fun (hc : _ = _) => ?_; try (simp (disch := decide) only [up_n, up_s, cp_n, rw_n, rw_s, up1_, if_true, if_false, ite_true, ite_false, reduceIte, eq_self, Int.reduceEq, true_and, and_true, not_true_eq_false, not_false_eq_true] at hc)))
      all_goals first | (exfalso; omega) | exact h
    · rw [if_neg k0] at h
      by_cases k1 : k = 1
      · rw [if_pos k1] at h
        clear hbl hsl hbl98 dd0 dd1 di0 di1 hwy
        refine fr_cgo k187 [some (.inr (.inl 75)), some (.inl b), some (.inl k), none, none, none, none] 0 0 [] 400 rfl rfl rfl rfl ?_
        repeat' (first | (refine And.intro (by first | omega | (simp (disch := decide) only [up_n, up_s, cp_n, rw_n, rw_s, up1_, if_true, if_false, ite_true, ite_false, reduceIte, eq_self, Int.reduceEq, true_and, and_true, not_true_eq_false, not_false_eq_true]; omega)) ?_) | (refine And.intro (fun hc => ?_) (fun hc => ?_) <;> (try (simp (disch := decide) only [up_n, up_s, cp_n, rw_n, rw_s, up1_, if_true, if_false, ite_true, ite_false, reduceIte, eq_self, Int.reduceEq, true_and, and_true, not_true_eq_false, not_false_eq_true] at hc)) <;> (try (exfalso; omega))) | (refine fun (hc : ¬ _) => ?_; try (simp (disch := decide) only [up_n, up_s, cp_n, rw_n, rw_s, up1_, if_true, if_false, ite_true, ite_false, reduceIte, eq_self, Int.reduceEq, true_and, and_true, not_true_eq_false, not_false_eq_true] at hc)) | (refine fun (hc : _ = _) => ?_; try (simp (disch := decide) only [up_n, up_s, cp_n, rw_n, rw_s, up1_, if_true, if_false, ite_true, ite_false, reduceIte, eq_self, Int.reduceEq, true_and, and_true, not_true_eq_false, not_false_eq_true] at hc)))
        all_goals first | (exfalso; omega) | exact h
      · rw [if_neg k1] at h
        by_cases k2 : k < be p (lgT p T) b - 4 * p 83 b - ea p (lgT p T) b
        · rw [if_pos k2] at h
          clear hbl hsl hbl98 dd0 dd1 di0 di1 hwy
          refine fr_cgo k187 [some (.inr (.inl 75)), some (.inl b), some (.inl k), none, none, none, none] 0 0 [] 400 rfl rfl rfl rfl ?_
          repeat' (first | (refine And.intro (by first | omega | (simp (disch := decide) only [up_n, up_s, cp_n, rw_n, rw_s, up1_, if_true, if_false, ite_true, ite_false, reduceIte, eq_self, Int.reduceEq, true_and, and_true, not_true_eq_false, not_false_eq_true]; omega)) ?_) | (refine And.intro (fun hc => ?_) (fun hc => ?_) <;> (try (simp (disch := decide) only [up_n, up_s, cp_n, rw_n, rw_s, up1_, if_true, if_false, ite_true, ite_false, reduceIte, eq_self, Int.reduceEq, true_and, and_true, not_true_eq_false, not_false_eq_true] at hc)) <;> (try (exfalso; omega))) | (refine fun (hc : ¬ _) => ?_; try (simp (disch := decide) only [up_n, up_s, cp_n, rw_n, rw_s, up1_, if_true, if_false, ite_true, ite_false, reduceIte, eq_self, Int.reduceEq, true_and, and_true, not_true_eq_false, not_false_eq_true] at hc)) | (refine fun (hc : _ = _) => ?_; try (simp (disch := decide) only [up_n, up_s, cp_n, rw_n, rw_s, up1_, if_true, if_false, ite_true, ite_false, reduceIte, eq_self, Int.reduceEq, true_and, and_true, not_true_eq_false, not_false_eq_true] at hc)))
          all_goals first | (exfalso; omega) | exact h
        · rw [if_neg k2] at h
          have hq := hwy ((k - (be p (lgT p T) b - 4 * p 83 b - ea p (lgT p T) b)) / 4) (by omega) (by omega)
          have hq2 := hbl98 _ hq.1 hq.2
          have hq3 := (ad_b hw (lg := lgT p T) hq).1
          have ei : M 100 b - 4 * M 83 b - M 99 b = be p (lgT p T) b - 4 * p 83 b - ea p (lgT p T) b := by rw [e100, e99, en]
          rw [← hq2, e84, ← ei] at h
          rw [← hq2] at hq3
          rw [e84, ← ei] at hq hq3
          clear hbl hsl hbl98 dd0 dd1 di0 di1 hwy hq2
          refine fr_cgo k187 [some (.inr (.inl 75)), some (.inl b), some (.inl k), none, none, none, none] 0 0 [] 400 rfl rfl rfl rfl ?_
          repeat' (first | (refine And.intro (by first | omega | (simp (disch := decide) only [up_n, up_s, cp_n, rw_n, rw_s, up1_, if_true, if_false, ite_true, ite_false, reduceIte, eq_self, Int.reduceEq, true_and, and_true, not_true_eq_false, not_false_eq_true]; omega)) ?_) | (refine m_byteOf (by omega) (by omega) ?_) | (refine And.intro (fun hc => ?_) (fun hc => ?_) <;> (try (simp (disch := decide) only [up_n, up_s, cp_n, rw_n, rw_s, up1_, if_true, if_false, ite_true, ite_false, reduceIte, eq_self, Int.reduceEq, true_and, and_true, not_true_eq_false, not_false_eq_true] at hc)) <;> (try (exfalso; omega))) | (refine fun (hc : ¬ _) => ?_; try (simp (disch := decide) only [up_n, up_s, cp_n, rw_n, rw_s, up1_, if_true, if_false, ite_true, ite_false, reduceIte, eq_self, Int.reduceEq, true_and, and_true, not_true_eq_false, not_false_eq_true] at hc)) | (refine fun (hc : _ = _) => ?_; try (simp (disch := decide) only [up_n, up_s, cp_n, rw_n, rw_s, up1_, if_true, if_false, ite_true, ite_false, reduceIte, eq_self, Int.reduceEq, true_and, and_true, not_true_eq_false, not_false_eq_true] at hc)))
          all_goals first | (exfalso; omega) | exact h
  · unfold eb at h
    rw [if_neg (by omega), if_neg (by omega), if_neg (by omega), if_pos hk'] at h
    have hcal := w8' hk'.1
    have hq2 := hbl98 _ hcal.2.2.1 hcal.2.2.2
    have hq3 := (ad_b hw (lg := lgT p T) ⟨hcal.2.2.1, hcal.2.2.2⟩).1
    rw [← hq2] at hq3
    rw [← hq2, e77, e86] at h
    rw [e77, e86] at hq3
    rw [e86, e77] at hcal
    rw [← e99] at h
    by_cases k0 : k = 0
    · rw [if_pos k0] at h
      clear hbl hsl hbl98 dd0 dd1 di0 di1 hwy hq2
      refine fr_cgo k187 [some (.inr (.inl 75)), some (.inl b), some (.inl k), none, none, none, none] 0 0 [] 400 rfl rfl rfl rfl ?_
      repeat' (first | (refine And.intro (by first | omega | (simp (disch := decide) only [up_n, up_s, cp_n, rw_n, rw_s, up1_, if_true, if_false, ite_true, ite_false, reduceIte, eq_self, Int.reduceEq, true_and, and_true, not_true_eq_false, not_false_eq_true]; omega)) ?_) | (refine And.intro (fun hc => ?_) (fun hc => ?_) <;> (try (simp (disch := decide) only [up_n, up_s, cp_n, rw_n, rw_s, up1_, if_true, if_false, ite_true, ite_false, reduceIte, eq_self, Int.reduceEq, true_and, and_true, not_true_eq_false, not_false_eq_true] at hc)) <;> (try (exfalso; omega))) | (refine fun (hc : ¬ _) => ?_; try (simp (disch := decide) only [up_n, up_s, cp_n, rw_n, rw_s, up1_, if_true, if_false, ite_true, ite_false, reduceIte, eq_self, Int.reduceEq, true_and, and_true, not_true_eq_false, not_false_eq_true] at hc)) | (refine fun (hc : _ = _) => ?_; try (simp (disch := decide) only [up_n, up_s, cp_n, rw_n, rw_s, up1_, if_true, if_false, ite_true, ite_false, reduceIte, eq_self, Int.reduceEq, true_and, and_true, not_true_eq_false, not_false_eq_true] at hc)))
      all_goals first | (exfalso; omega) | exact h
    · rw [if_neg k0] at h
      clear hbl hsl hbl98 dd0 dd1 di0 di1 hwy hq2
      refine fr_cgo k187 [some (.inr (.inl 75)), some (.inl b), some (.inl k), none, none, none, none] 0 0 [] 400 rfl rfl rfl rfl ?_
      repeat' (first | (refine And.intro (by first | omega | (simp (disch := decide) only [up_n, up_s, cp_n, rw_n, rw_s, up1_, if_true, if_false, ite_true, ite_false, reduceIte, eq_self, Int.reduceEq, true_and, and_true, not_true_eq_false, not_false_eq_true]; omega)) ?_) | (refine m_byteOf (by omega) (by omega) ?_) | (refine And.intro (fun hc => ?_) (fun hc => ?_) <;> (try (simp (disch := decide) only [up_n, up_s, cp_n, rw_n, rw_s, up1_, if_true, if_false, ite_true, ite_false, reduceIte, eq_self, Int.reduceEq, true_and, and_true, not_true_eq_false, not_false_eq_true] at hc)) <;> (try (exfalso; omega))) | (refine fun (hc : ¬ _) => ?_; try (simp (disch := decide) only [up_n, up_s, cp_n, rw_n, rw_s, up1_, if_true, if_false, ite_true, ite_false, reduceIte, eq_self, Int.reduceEq, true_and, and_true, not_true_eq_false, not_false_eq_true] at hc)) | (refine fun (hc : _ = _) => ?_; try (simp (disch := decide) only [up_n, up_s, cp_n, rw_n, rw_s, up1_, if_true, if_false, ite_true, ite_false, reduceIte, eq_self, Int.reduceEq, true_and, and_true, not_true_eq_false, not_false_eq_true] at hc)))
      all_goals first | (exfalso; omega) | exact h
  · rw [if_neg (by omega), if_neg (by omega)] at hbe
    by_cases ht : tg0 p b ≠ -1 ∧ ea p (lgT p T) b + k < jb0 p (lgT p T) b
    · have hk3 := tg0_k ht.1
      have etu : tu p b = 0 ∨ tu p b = 1 := by
        unfold tu
        split
        · exact Or.inr rfl
        · exact Or.inl rfl
      rw [eb_t hk3 ht.1 ht.2] at h
      have dd0 := dd0 ht.1
      have di0 := di0 ht.1
      have tr0 := tr0.resolve_left ht.1
      rw [if_neg ht.1] at hz0
      clear hbl hsl hbl98 dd1 di1 hwy m0 sl0 sl1
      rcases l01 with l01 | l01
      · rw [if_neg (by omega)] at h hz0
        rcases etu with etu | etu
        · rw [etu] at h
          refine fr_cgo k187 [some (.inr (.inl 75)), some (.inl b), some (.inl k), none, none, none, none] 0 0 [] 400 rfl rfl rfl rfl ?_
          repeat' (first | (refine And.intro (by first | omega | (simp (disch := decide) only [up_n, up_s, cp_n, rw_n, rw_s, up1_, if_true, if_false, ite_true, ite_false, reduceIte, eq_self, Int.reduceEq, true_and, and_true, not_true_eq_false, not_false_eq_true]; omega)) ?_) | (refine m_isTurned (p := p) hp hw hb e97 ?_) | (refine m_jumpByte (d := ad p (lgT p T) (tg0 p b) - jb0 p (lgT p T) b) (by omega) (by omega) dd0.2.1 di0 (by omega) (by omega) ?_) | (refine And.intro (fun hc => ?_) (fun hc => ?_) <;> (try (simp (disch := decide) only [up_n, up_s, cp_n, rw_n, rw_s, up1_, if_true, if_false, ite_true, ite_false, reduceIte, eq_self, Int.reduceEq, true_and, and_true, not_true_eq_false, not_false_eq_true] at hc)) <;> (try (exfalso; omega))) | (refine fun (hc : ¬ _) => ?_; try (simp (disch := decide) only [up_n, up_s, cp_n, rw_n, rw_s, up1_, if_true, if_false, ite_true, ite_false, reduceIte, eq_self, Int.reduceEq, true_and, and_true, not_true_eq_false, not_false_eq_true] at hc)) | (refine fun (hc : _ = _) => ?_; try (simp (disch := decide) only [up_n, up_s, cp_n, rw_n, rw_s, up1_, if_true, if_false, ite_true, ite_false, reduceIte, eq_self, Int.reduceEq, true_and, and_true, not_true_eq_false, not_false_eq_true] at hc)))
          all_goals first | (exfalso; omega) | skip
          rw [show (if k = 0 then (112 : Int) + 0 else if k < 1 then 0 else byo (ad p (lgT p T) (tg0 p b) - jb0 p (lgT p T) b) (k - 1)) = (if k = 0 then 112 + 0 else byo (ad p (lgT p T) (tg0 p b) - jb0 p (lgT p T) b) (k - 1)) by (split; rfl; rw [if_neg (by omega)])]
          repeat' (first | (refine And.intro (by first | omega | (simp (disch := decide) only [up_n, up_s, cp_n, rw_n, rw_s, up1_, if_true, if_false, ite_true, ite_false, reduceIte, eq_self, Int.reduceEq, true_and, and_true, not_true_eq_false, not_false_eq_true]; omega)) ?_) | (refine And.intro (fun hc => ?_) (fun hc => ?_) <;> (try (simp (disch := decide) only [up_n, up_s, cp_n, rw_n, rw_s, up1_, if_true, if_false, ite_true, ite_false, reduceIte, eq_self, Int.reduceEq, true_and, and_true, not_true_eq_false, not_false_eq_true] at hc)) <;> (try (exfalso; omega))) | (refine fun (hc : ¬ _) => ?_; try (simp (disch := decide) only [up_n, up_s, cp_n, rw_n, rw_s, up1_, if_true, if_false, ite_true, ite_false, reduceIte, eq_self, Int.reduceEq, true_and, and_true, not_true_eq_false, not_false_eq_true] at hc)) | (refine fun (hc : _ = _) => ?_; try (simp (disch := decide) only [up_n, up_s, cp_n, rw_n, rw_s, up1_, if_true, if_false, ite_true, ite_false, reduceIte, eq_self, Int.reduceEq, true_and, and_true, not_true_eq_false, not_false_eq_true] at hc)))
          exact h
        · rw [etu] at h
          refine fr_cgo k187 [some (.inr (.inl 75)), some (.inl b), some (.inl k), none, none, none, none] 0 0 [] 400 rfl rfl rfl rfl ?_
          repeat' (first | (refine And.intro (by first | omega | (simp (disch := decide) only [up_n, up_s, cp_n, rw_n, rw_s, up1_, if_true, if_false, ite_true, ite_false, reduceIte, eq_self, Int.reduceEq, true_and, and_true, not_true_eq_false, not_false_eq_true]; omega)) ?_) | (refine m_isTurned (p := p) hp hw hb e97 ?_) | (refine m_jumpByte (d := ad p (lgT p T) (tg0 p b) - jb0 p (lgT p T) b) (by omega) (by omega) dd0.2.1 di0 (by omega) (by omega) ?_) | (refine And.intro (fun hc => ?_) (fun hc => ?_) <;> (try (simp (disch := decide) only [up_n, up_s, cp_n, rw_n, rw_s, up1_, if_true, if_false, ite_true, ite_false, reduceIte, eq_self, Int.reduceEq, true_and, and_true, not_true_eq_false, not_false_eq_true] at hc)) <;> (try (exfalso; omega))) | (refine fun (hc : ¬ _) => ?_; try (simp (disch := decide) only [up_n, up_s, cp_n, rw_n, rw_s, up1_, if_true, if_false, ite_true, ite_false, reduceIte, eq_self, Int.reduceEq, true_and, and_true, not_true_eq_false, not_false_eq_true] at hc)) | (refine fun (hc : _ = _) => ?_; try (simp (disch := decide) only [up_n, up_s, cp_n, rw_n, rw_s, up1_, if_true, if_false, ite_true, ite_false, reduceIte, eq_self, Int.reduceEq, true_and, and_true, not_true_eq_false, not_false_eq_true] at hc)))
          all_goals first | (exfalso; omega) | skip
          rw [show (if k = 0 then (112 : Int) + 1 else if k < 1 then 0 else byo (ad p (lgT p T) (tg0 p b) - jb0 p (lgT p T) b) (k - 1)) = (if k = 0 then 112 + 1 else byo (ad p (lgT p T) (tg0 p b) - jb0 p (lgT p T) b) (k - 1)) by (split; rfl; rw [if_neg (by omega)])]
          repeat' (first | (refine And.intro (by first | omega | (simp (disch := decide) only [up_n, up_s, cp_n, rw_n, rw_s, up1_, if_true, if_false, ite_true, ite_false, reduceIte, eq_self, Int.reduceEq, true_and, and_true, not_true_eq_false, not_false_eq_true]; omega)) ?_) | (refine And.intro (fun hc => ?_) (fun hc => ?_) <;> (try (simp (disch := decide) only [up_n, up_s, cp_n, rw_n, rw_s, up1_, if_true, if_false, ite_true, ite_false, reduceIte, eq_self, Int.reduceEq, true_and, and_true, not_true_eq_false, not_false_eq_true] at hc)) <;> (try (exfalso; omega))) | (refine fun (hc : ¬ _) => ?_; try (simp (disch := decide) only [up_n, up_s, cp_n, rw_n, rw_s, up1_, if_true, if_false, ite_true, ite_false, reduceIte, eq_self, Int.reduceEq, true_and, and_true, not_true_eq_false, not_false_eq_true] at hc)) | (refine fun (hc : _ = _) => ?_; try (simp (disch := decide) only [up_n, up_s, cp_n, rw_n, rw_s, up1_, if_true, if_false, ite_true, ite_false, reduceIte, eq_self, Int.reduceEq, true_and, and_true, not_true_eq_false, not_false_eq_true] at hc)))
          exact h
      · rw [if_pos (by omega)] at h hz0
        have hx : ∀ u : Int, (if k = 0 then (15 : Int) else if k = 1 then 128 + u else byo (ad p (lgT p T) (tg0 p b) - jb0 p (lgT p T) b) (k - 2)) = (if k = 0 then 15 else if k < 2 then 128 + u else byo (ad p (lgT p T) (tg0 p b) - jb0 p (lgT p T) b) (k - 2)) := by
          intro u
          by_cases q0 : k = 0
          · rw [if_pos q0, if_pos q0]
          · rw [if_neg q0, if_neg q0]
            by_cases q1 : k = 1
            · rw [if_pos q1, if_pos (by omega)]
            · rw [if_neg q1, if_neg (by omega)]
        rw [hx] at h
        rcases etu with etu | etu
        · rw [etu] at h
          refine fr_cgo k187 [some (.inr (.inl 75)), some (.inl b), some (.inl k), none, none, none, none] 0 0 [] 400 rfl rfl rfl rfl ?_
          repeat' (first | (refine And.intro (by first | omega | (simp (disch := decide) only [up_n, up_s, cp_n, rw_n, rw_s, up1_, if_true, if_false, ite_true, ite_false, reduceIte, eq_self, Int.reduceEq, true_and, and_true, not_true_eq_false, not_false_eq_true]; omega)) ?_) | (refine m_isTurned (p := p) hp hw hb e97 ?_) | (refine m_jumpByte (d := ad p (lgT p T) (tg0 p b) - jb0 p (lgT p T) b) (by omega) (by omega) dd0.2.1 di0 (by omega) (by omega) ?_) | (refine And.intro (fun hc => ?_) (fun hc => ?_) <;> (try (simp (disch := decide) only [up_n, up_s, cp_n, rw_n, rw_s, up1_, if_true, if_false, ite_true, ite_false, reduceIte, eq_self, Int.reduceEq, true_and, and_true, not_true_eq_false, not_false_eq_true] at hc)) <;> (try (exfalso; omega))) | (refine fun (hc : ¬ _) => ?_; try (simp (disch := decide) only [up_n, up_s, cp_n, rw_n, rw_s, up1_, if_true, if_false, ite_true, ite_false, reduceIte, eq_self, Int.reduceEq, true_and, and_true, not_true_eq_false, not_false_eq_true] at hc)) | (refine fun (hc : _ = _) => ?_; try (simp (disch := decide) only [up_n, up_s, cp_n, rw_n, rw_s, up1_, if_true, if_false, ite_true, ite_false, reduceIte, eq_self, Int.reduceEq, true_and, and_true, not_true_eq_false, not_false_eq_true] at hc)))
          all_goals first | (exfalso; omega) | exact h
        · rw [etu] at h
          refine fr_cgo k187 [some (.inr (.inl 75)), some (.inl b), some (.inl k), none, none, none, none] 0 0 [] 400 rfl rfl rfl rfl ?_
          repeat' (first | (refine And.intro (by first | omega | (simp (disch := decide) only [up_n, up_s, cp_n, rw_n, rw_s, up1_, if_true, if_false, ite_true, ite_false, reduceIte, eq_self, Int.reduceEq, true_and, and_true, not_true_eq_false, not_false_eq_true]; omega)) ?_) | (refine m_isTurned (p := p) hp hw hb e97 ?_) | (refine m_jumpByte (d := ad p (lgT p T) (tg0 p b) - jb0 p (lgT p T) b) (by omega) (by omega) dd0.2.1 di0 (by omega) (by omega) ?_) | (refine And.intro (fun hc => ?_) (fun hc => ?_) <;> (try (simp (disch := decide) only [up_n, up_s, cp_n, rw_n, rw_s, up1_, if_true, if_false, ite_true, ite_false, reduceIte, eq_self, Int.reduceEq, true_and, and_true, not_true_eq_false, not_false_eq_true] at hc)) <;> (try (exfalso; omega))) | (refine fun (hc : ¬ _) => ?_; try (simp (disch := decide) only [up_n, up_s, cp_n, rw_n, rw_s, up1_, if_true, if_false, ite_true, ite_false, reduceIte, eq_self, Int.reduceEq, true_and, and_true, not_true_eq_false, not_false_eq_true] at hc)) | (refine fun (hc : _ = _) => ?_; try (simp (disch := decide) only [up_n, up_s, cp_n, rw_n, rw_s, up1_, if_true, if_false, ite_true, ite_false, reduceIte, eq_self, Int.reduceEq, true_and, and_true, not_true_eq_false, not_false_eq_true] at hc)))
          all_goals first | (exfalso; omega) | exact h
    · have ht' : jb0 p (lgT p T) b - ea p (lgT p T) b ≤ k := by
        by_cases q : tg0 p b = -1
        · rw [if_pos q] at hz0
          omega
        · by_cases q2 : ea p (lgT p T) b + k < jb0 p (lgT p T) b
          · exact absurd ⟨q, q2⟩ ht
          · omega
      have ht1 : tg1 p b ≠ -1 := by
        intro q
        rw [if_pos q] at hz1
        omega
      rw [eb_j (by omega) (by omega) (by omega) hk'.2 ht'] at h
      have dd1 := dd1 ht1
      have di1 := di1 ht1
      have tr1 := tr1.resolve_left ht1
      rw [if_neg ht1] at hz1
      have hcs : tg0 p b = -1 ∨ (tg0 p b ≠ -1 ∧ M 104 (2 * b) = jb0 p (lgT p T) b) := by
        by_cases q : tg0 p b = -1
        · exact Or.inl q
        · exact Or.inr ⟨q, (dd0 q).2.2⟩
      clear hbl hsl hbl98 dd0 di0 hwy sl0 sl1 ht
      have hx : ∀ u : Int, (if ea p (lgT p T) b + k = jb0 p (lgT p T) b then u else byo (ad p (lgT p T) (tg1 p b) - jb1 p (lgT p T) b) (ea p (lgT p T) b + k - jb0 p (lgT p T) b - 1)) = (if ea p (lgT p T) b + k - jb0 p (lgT p T) b = 0 then u else if ea p (lgT p T) b + k - jb0 p (lgT p T) b < 1 then 0 else byo (ad p (lgT p T) (tg1 p b) - jb1 p (lgT p T) b) (ea p (lgT p T) b + k - jb0 p (lgT p T) b - 1)) := by
        intro u
        by_cases q0 : ea p (lgT p T) b + k = jb0 p (lgT p T) b
        · rw [if_pos q0, if_pos (by omega)]
        · rw [if_neg q0, if_neg (by omega), if_neg (by omega)]
      rw [hx] at h
      rcases l11 with l11 | l11
      · rw [if_neg (show ¬ lgT p T (2 * b + 1) = 1 by omega)] at h hz1
        have ev : M 99 b + k - (M 104 (2 * b + 1) - 2) = ea p (lgT p T) b + k - jb0 p (lgT p T) b := by omega
        rw [← ev] at h
        rcases hcs with hcs | hcs
        · have m0 := m0 hcs
          refine fr_cgo k187 [some (.inr (.inl 75)), some (.inl b), some (.inl k), none, none, none, none] 0 0 [] 400 rfl rfl rfl rfl ?_
          repeat' (first | (refine And.intro (by first | omega | (simp (disch := decide) only [up_n, up_s, cp_n, rw_n, rw_s, up1_, if_true, if_false, ite_true, ite_false, reduceIte, eq_self, Int.reduceEq, true_and, and_true, not_true_eq_false, not_false_eq_true]; omega)) ?_) | (refine m_jumpByte (d := ad p (lgT p T) (tg1 p b) - jb1 p (lgT p T) b) (by omega) (by omega) dd1.2.1 di1 (by omega) (by omega) ?_) | (refine And.intro (fun hc => ?_) (fun hc => ?_) <;> (try (simp (disch := decide) only [up_n, up_s, cp_n, rw_n, rw_s, up1_, if_true, if_false, ite_true, ite_false, reduceIte, eq_self, Int.reduceEq, true_and, and_true, not_true_eq_false, not_false_eq_true] at hc)) <;> (try (exfalso; omega))) | (refine fun (hc : ¬ _) => ?_; try (simp (disch := decide) only [up_n, up_s, cp_n, rw_n, rw_s, up1_, if_true, if_false, ite_true, ite_false, reduceIte, eq_self, Int.reduceEq, true_and, and_true, not_true_eq_false, not_false_eq_true] at hc)) | (refine fun (hc : _ = _) => ?_; try (simp (disch := decide) only [up_n, up_s, cp_n, rw_n, rw_s, up1_, if_true, if_false, ite_true, ite_false, reduceIte, eq_self, Int.reduceEq, true_and, and_true, not_true_eq_false, not_false_eq_true] at hc)))
          all_goals first | (exfalso; omega) | exact h
        · refine fr_cgo k187 [some (.inr (.inl 75)), some (.inl b), some (.inl k), none, none, none, none] 0 0 [] 400 rfl rfl rfl rfl ?_
          repeat' (first | (refine And.intro (by first | omega | (simp (disch := decide) only [up_n, up_s, cp_n, rw_n, rw_s, up1_, if_true, if_false, ite_true, ite_false, reduceIte, eq_self, Int.reduceEq, true_and, and_true, not_true_eq_false, not_false_eq_true]; omega)) ?_) | (refine m_jumpByte (d := ad p (lgT p T) (tg1 p b) - jb1 p (lgT p T) b) (by omega) (by omega) dd1.2.1 di1 (by omega) (by omega) ?_) | (refine And.intro (fun hc => ?_) (fun hc => ?_) <;> (try (simp (disch := decide) only [up_n, up_s, cp_n, rw_n, rw_s, up1_, if_true, if_false, ite_true, ite_false, reduceIte, eq_self, Int.reduceEq, true_and, and_true, not_true_eq_false, not_false_eq_true] at hc)) <;> (try (exfalso; omega))) | (refine fun (hc : ¬ _) => ?_; try (simp (disch := decide) only [up_n, up_s, cp_n, rw_n, rw_s, up1_, if_true, if_false, ite_true, ite_false, reduceIte, eq_self, Int.reduceEq, true_and, and_true, not_true_eq_false, not_false_eq_true] at hc)) | (refine fun (hc : _ = _) => ?_; try (simp (disch := decide) only [up_n, up_s, cp_n, rw_n, rw_s, up1_, if_true, if_false, ite_true, ite_false, reduceIte, eq_self, Int.reduceEq, true_and, and_true, not_true_eq_false, not_false_eq_true] at hc)))
          all_goals first | (exfalso; omega) | exact h
      · rw [if_pos (show lgT p T (2 * b + 1) = 1 from l11)] at h hz1
        have ev : M 99 b + k - (M 104 (2 * b + 1) - 5) = ea p (lgT p T) b + k - jb0 p (lgT p T) b := by omega
        rw [← ev] at h
        rcases hcs with hcs | hcs
        · have m0 := m0 hcs
          refine fr_cgo k187 [some (.inr (.inl 75)), some (.inl b), some (.inl k), none, none, none, none] 0 0 [] 400 rfl rfl rfl rfl ?_
          repeat' (first | (refine And.intro (by first | omega | (simp (disch := decide) only [up_n, up_s, cp_n, rw_n, rw_s, up1_, if_true, if_false, ite_true, ite_false, reduceIte, eq_self, Int.reduceEq, true_and, and_true, not_true_eq_false, not_false_eq_true]; omega)) ?_) | (refine m_jumpByte (d := ad p (lgT p T) (tg1 p b) - jb1 p (lgT p T) b) (by omega) (by omega) dd1.2.1 di1 (by omega) (by omega) ?_) | (refine And.intro (fun hc => ?_) (fun hc => ?_) <;> (try (simp (disch := decide) only [up_n, up_s, cp_n, rw_n, rw_s, up1_, if_true, if_false, ite_true, ite_false, reduceIte, eq_self, Int.reduceEq, true_and, and_true, not_true_eq_false, not_false_eq_true] at hc)) <;> (try (exfalso; omega))) | (refine fun (hc : ¬ _) => ?_; try (simp (disch := decide) only [up_n, up_s, cp_n, rw_n, rw_s, up1_, if_true, if_false, ite_true, ite_false, reduceIte, eq_self, Int.reduceEq, true_and, and_true, not_true_eq_false, not_false_eq_true] at hc)) | (refine fun (hc : _ = _) => ?_; try (simp (disch := decide) only [up_n, up_s, cp_n, rw_n, rw_s, up1_, if_true, if_false, ite_true, ite_false, reduceIte, eq_self, Int.reduceEq, true_and, and_true, not_true_eq_false, not_false_eq_true] at hc)))
          all_goals first | (exfalso; omega) | exact h
        · refine fr_cgo k187 [some (.inr (.inl 75)), some (.inl b), some (.inl k), none, none, none, none] 0 0 [] 400 rfl rfl rfl rfl ?_
          repeat' (first | (refine And.intro (by first | omega | (simp (disch := decide) only [up_n, up_s, cp_n, rw_n, rw_s, up1_, if_true, if_false, ite_true, ite_false, reduceIte, eq_self, Int.reduceEq, true_and, and_true, not_true_eq_false, not_false_eq_true]; omega)) ?_) | (refine m_jumpByte (d := ad p (lgT p T) (tg1 p b) - jb1 p (lgT p T) b) (by omega) (by omega) dd1.2.1 di1 (by omega) (by omega) ?_) | (refine And.intro (fun hc => ?_) (fun hc => ?_) <;> (try (simp (disch := decide) only [up_n, up_s, cp_n, rw_n, rw_s, up1_, if_true, if_false, ite_true, ite_false, reduceIte, eq_self, Int.reduceEq, true_and, and_true, not_true_eq_false, not_false_eq_true] at hc)) <;> (try (exfalso; omega))) | (refine fun (hc : ¬ _) => ?_; try (simp (disch := decide) only [up_n, up_s, cp_n, rw_n, rw_s, up1_, if_true, if_false, ite_true, ite_false, reduceIte, eq_self, Int.reduceEq, true_and, and_true, not_true_eq_false, not_false_eq_true] at hc)) | (refine fun (hc : _ = _) => ?_; try (simp (disch := decide) only [up_n, up_s, cp_n, rw_n, rw_s, up1_, if_true, if_false, ite_true, ite_false, reduceIte, eq_self, Int.reduceEq, true_and, and_true, not_true_eq_false, not_false_eq_true] at hc)))
          all_goals first | (exfalso; omega) | exact h
