theorem eb_b {p : fr_M} {lg : Int → Int} {b m : Int} : 0 ≤ eb p lg b m ∧ eb p lg b m ≤ 255 := by
  have etu : tu p b = 0 ∨ tu p b = 1 := by
    unfold tu
    split
    · exact Or.inr rfl
    · exact Or.inl rfl
  have hb : ∀ v k, 0 ≤ byo v k ∧ byo v k ≤ 255 := fun v k => byo_b
  unfold eb
  split
  · omega
  · split
    · omega
    · split
      · split
        · omega
        · split
          · omega
          · split
            · omega
            · exact hb _ _
      · split
        · split
          · omega
          · exact hb _ _
        · split
          · split
            · split
              · omega
              · split
                · omega
                · exact hb _ _
            · split
              · omega
              · exact hb _ _
          · split
            · split <;> omega
            · exact hb _ _
/-- byte i of what is laid -/
def IV (p : fr_M) (lg : Int → Int) (i v : Int) : Prop := (∃ k : Nat, (k : Int) < p 75 4 ∧ pos p lg k ≤ i ∧ i < al p (pos p lg k) ∧ v = 144) ∨ (∃ b, (0 ≤ b ∧ b < p 75 4) ∧ ad p lg b ≤ i ∧ i < ea p lg b ∧ v = b) ∨ (∃ b, (0 ≤ b ∧ b < p 75 4) ∧ ea p lg b ≤ i ∧ i < be p lg b ∧ v = eb p lg b (i - ea p lg b)) ∨ (∃ k : Nat, (k : Int) < p 75 4 ∧ p 82 (ln p k) = 6 ∧ ∃ j, 0 ≤ j ∧ j < 8 ∧ i = pos p lg (cN p) + 8 * gd p k + j ∧ v = if j < 4 then byo (ad p lg (ln p k)) j else byo (ad p lg (w1 p (ln p k))) (j - 4))
theorem IV.byte {p : fr_M} (hw : WF p) {lg : Int → Int} {N : fr_M} {i v : Int} (hP : PicP p lg N) (h : IV p lg i v) : N 40 i = sg v ∧ 0 ≤ v ∧ v ≤ 255 := by
  have h40 := hw.1.1
  obtain ⟨a1, a2, a3, a4, a5⟩ := hP
  rcases h with ⟨k, x1, x2, x3, rfl⟩ | ⟨b, x1, x2, x3, rfl⟩ | ⟨b, x1, x2, x3, rfl⟩ | ⟨k, x1, x2, j, x3, x4, x5, rfl⟩
  · rw [a1 k x1 i x2 x3]
    exact ⟨rfl, by omega, by omega⟩
  · rw [a2 v x1.1 x1.2 i x2 x3]
    refine ⟨?_, by omega, by omega⟩
    unfold sg
    rw [if_pos (by omega)]
  · have := a3 b x1.1 x1.2 (i - ea p lg b) (by omega) (by omega)
    rw [show ea p lg b + (i - ea p lg b) = i by omega] at this
    exact ⟨this, eb_b⟩
  · rw [x5, a4 k x1 x2 j x3 x4]
    refine ⟨rfl, ?_⟩
    split
    · exact byo_b
    · exact byo_b
theorem and_255a (x : Int) : fr_and x 255 = x % 256 := by
  unfold fr_and
  have e : (Int32.ofInt x &&& Int32.ofInt 255).toBitVec.toNat = (x % 256).toNat := by
    rw [Int32.toBitVec_and, BitVec.toNat_and]
    have e1 : (Int32.ofInt 255).toBitVec.toNat = 2 ^ 8 - 1 := by decide
    rw [e1, Nat.and_two_pow_sub_one_eq_mod]
    show (BitVec.ofInt 32 x).toNat % 2 ^ 8 = _
    rw [BitVec.toNat_ofInt]
    omega
  show (Int32.ofInt x &&& Int32.ofInt 255).toBitVec.toInt = _
  rw [BitVec.toInt_eq_toNat_of_lt (by rw [e]; omega), e]
  omega
set_option maxHeartbeats 4000000 in
set_option maxRecDepth 100000 in
theorem c_byteAt {N : fr_M} {i : Int} {Q : Option fr_V → fr_H → fr_M → Prop} (hi : 0 ≤ i ∧ i < 9760) (h : Q (some (.inl (N 40 i % 256))) sh0 N) : fr_Call 58 [.inr (.inl 39), .inl i] sh0 N Q := by
  rw [← and_255a] at h
  refine fr_cgo k58 [some (.inr (.inl 39)), some (.inl i)] 0 0 [] 400 rfl rfl rfl rfl ?_
  repeat' (first | (refine And.intro (by first | omega | (simp (disch := decide) only [up_n, up_s, cp_n, rw_n, rw_s, up1_, if_true, if_false, ite_true, ite_false, reduceIte, eq_self, Int.reduceEq, true_and, and_true, not_true_eq_false, not_false_eq_true]; omega)) ?_) | (refine And.intro (fun hc => ?_) (fun hc => ?_) <;> (try (simp (disch := decide) only [up_n, up_s, cp_n, rw_n, rw_s, up1_, if_true, if_false, ite_true, ite_false, reduceIte, eq_self, Int.reduceEq, true_and, and_true, not_true_eq_false, not_false_eq_true] at hc)) <;> (try (exfalso; omega))) | (refine fun (hc : ¬ _) => ?_; try (simp (disch := decide) only [up_n, up_s, cp_n, rw_n, rw_s, up1_, if_true, if_false, ite_true, ite_false, reduceIte, eq_self, Int.reduceEq, true_and, and_true, not_true_eq_false, not_false_eq_true] at hc)) | (refine fun (hc : _ = _) => ?_; try (simp (disch := decide) only [up_n, up_s, cp_n, rw_n, rw_s, up1_, if_true, if_false, ite_true, ite_false, reduceIte, eq_self, Int.reduceEq, true_and, and_true, not_true_eq_false, not_false_eq_true] at hc)))
  all_goals first | (exfalso; omega) | exact h
theorem pos_find {p : fr_M} {lg : Int → Int} {i : Int} (h0 : 0 ≤ i) : ∀ n : Nat, i < pos p lg n → ∃ k, k < n ∧ pos p lg k ≤ i ∧ i < pos p lg (k + 1)
  | 0, h => by
    have h : i < 0 := h
    omega
  | n + 1, h => by
    by_cases e : i < pos p lg n
    · obtain ⟨k, a, b⟩ := pos_find h0 n e
      exact ⟨k, by omega, b⟩
    · exact ⟨n, by omega, by omega, h⟩
set_option maxHeartbeats 4000000 in
set_option maxRecDepth 100000 in
theorem m_im_2 {M p : fr_M} {T : Nat} {i : Int} {x4 x5 : Option fr_V} {Q : Option fr_V → fr_H → fr_M → Prop} (hp : pg M = p) (hw : WF p) (hP : RefP p T M) (hi : 0 ≤ i ∧ i < pos p (lgT p T) (cN p)) (h : ∀ v, IV p (lgT p T) i v → Q (some (.inl v)) sh0 M) : ∀ (t k : Nat) (x3 : Option fr_V), k + t = cN p → (∀ j : Nat, j < k → ¬ (ad p (lgT p T) (ln p j) ≤ i ∧ i < be p (lgT p T) (ln p j))) → fr_Run 188 none 78 [some (.inr (.inl 75)), some (.inl i), some (.inl (k : Int)), x3, x4, x5] [] sh0 M 0 0 Q := by
  have hcN := cN_40 hw
  obtain ⟨e28, -, -, -⟩ := hP.2.1
  have h96 := hP.2.2.1
  have hbl := hP.2.2.2.1
  intro t
  induction t with
  | zero =>
    intro k x3 q0 q1
    have e : k = cN p := by omega
    subst e
    obtain ⟨k, a1, a2, a3⟩ := pos_find hi.1 _ hi.2
    have hn := q1 k a1
    rw [ad_ln hw a1, be_ln hw a1] at hn
    have hh := h 144 (Or.inl ⟨k, by omega, a2, by omega, rfl⟩)
    clear h hP h96 hbl q1
    refine fr_go k188 [78] 400 rfl ?_
    repeat' (first | (refine And.intro (by first | omega | (simp (disch := decide) only [up_n, up_s, cp_n, rw_n, rw_s, up1_, if_true, if_false, ite_true, ite_false, reduceIte, eq_self, Int.reduceEq, true_and, and_true, not_true_eq_false, not_false_eq_true]; omega)) ?_) | (refine And.intro (fun hc => ?_) (fun hc => ?_) <;> (try (simp (disch := decide) only [up_n, up_s, cp_n, rw_n, rw_s, up1_, if_true, if_false, ite_true, ite_false, reduceIte, eq_self, Int.reduceEq, true_and, and_true, not_true_eq_false, not_false_eq_true] at hc)) <;> (try (exfalso; omega))) | (refine fun (hc : ¬ _) => ?_; try (simp (disch := decide) only [up_n, up_s, cp_n, rw_n, rw_s, up1_, if_true, if_false, ite_true, ite_false, reduceIte, eq_self, Int.reduceEq, true_and, and_true, not_true_eq_false, not_false_eq_true] at hc)) | (refine fun (hc : _ = _) => ?_; try (simp (disch := decide) only [up_n, up_s, cp_n, rw_n, rw_s, up1_, if_true, if_false, ite_true, ite_false, reduceIte, eq_self, Int.reduceEq, true_and, and_true, not_true_eq_false, not_false_eq_true] at hc)))
    all_goals first | (exfalso; omega) | exact hh
  | succ t ih =>
    intro k x3 q0 q1
    have hk : k < cN p := by omega
    have hr := ln_rng hw hk
    have e1 := h96 k (by omega)
    obtain ⟨e97, e98, e99, e100⟩ := hbl _ hr.1 hr.2
    have hab := ad_b hw (lg := lgT p T) hr
    refine fr_go k188 [78, 87] 400 rfl ?_
    repeat' (first | (refine And.intro (by first | omega | (simp (disch := decide) only [up_n, up_s, cp_n, rw_n, rw_s, up1_, if_true, if_false, ite_true, ite_false, reduceIte, eq_self, Int.reduceEq, true_and, and_true, not_true_eq_false, not_false_eq_true]; omega)) ?_) | (refine And.intro (fun hc => ?_) (fun hc => ?_) <;> (try (simp (disch := decide) only [up_n, up_s, cp_n, rw_n, rw_s, up1_, if_true, if_false, ite_true, ite_false, reduceIte, eq_self, Int.reduceEq, true_and, and_true, not_true_eq_false, not_false_eq_true] at hc)) <;> (try (exfalso; omega))) | (refine fun (hc : ¬ _) => ?_; try (simp (disch := decide) only [up_n, up_s, cp_n, rw_n, rw_s, up1_, if_true, if_false, ite_true, ite_false, reduceIte, eq_self, Int.reduceEq, true_and, and_true, not_true_eq_false, not_false_eq_true] at hc)) | (refine fun (hc : _ = _) => ?_; try (simp (disch := decide) only [up_n, up_s, cp_n, rw_n, rw_s, up1_, if_true, if_false, ite_true, ite_false, reduceIte, eq_self, Int.reduceEq, true_and, and_true, not_true_eq_false, not_false_eq_true] at hc)))
    all_goals first | (exfalso; omega) | skip
    all_goals (show fr_Run 188 none 87 _ _ _ _ 0 0 Q)
    rw [e1]
    by_cases hin : ad p (lgT p T) (ln p k) ≤ i ∧ i < be p (lgT p T) (ln p k)
    · by_cases hea : i < ea p (lgT p T) (ln p k)
      · have hh := h _ (Or.inr (Or.inl ⟨_, hr, hin.1, hea, rfl⟩))
        clear h hP h96 hbl q1 ih
        refine fr_go k188 [78] 400 rfl ?_
        repeat' (first | (refine And.intro (by first | omega | (simp (disch := decide) only [up_n, up_s, cp_n, rw_n, rw_s, up1_, if_true, if_false, ite_true, ite_false, reduceIte, eq_self, Int.reduceEq, true_and, and_true, not_true_eq_false, not_false_eq_true]; omega)) ?_) | (refine And.intro (fun hc => ?_) (fun hc => ?_) <;> (try (simp (disch := decide) only [up_n, up_s, cp_n, rw_n, rw_s, up1_, if_true, if_false, ite_true, ite_false, reduceIte, eq_self, Int.reduceEq, true_and, and_true, not_true_eq_false, not_false_eq_true] at hc)) <;> (try (exfalso; omega))) | (refine fun (hc : ¬ _) => ?_; try (simp (disch := decide) only [up_n, up_s, cp_n, rw_n, rw_s, up1_, if_true, if_false, ite_true, ite_false, reduceIte, eq_self, Int.reduceEq, true_and, and_true, not_true_eq_false, not_false_eq_true] at hc)) | (refine fun (hc : _ = _) => ?_; try (simp (disch := decide) only [up_n, up_s, cp_n, rw_n, rw_s, up1_, if_true, if_false, ite_true, ite_false, reduceIte, eq_self, Int.reduceEq, true_and, and_true, not_true_eq_false, not_false_eq_true] at hc)))
        all_goals first | (exfalso; omega) | exact hh
      · have hh := h _ (Or.inr (Or.inr (Or.inl ⟨_, hr, by omega, hin.2, rfl⟩)))
        have hend := m_endByte (M := M) (p := p) (T := T) (b := ln p k) (k := i - ea p (lgT p T) (ln p k)) (Q := fun r sh M' => r = some (.inl (eb p (lgT p T) (ln p k) (i - ea p (lgT p T) (ln p k)))) ∧ sh = sh0 ∧ M' = M) hp hw hP hr (by omega) ⟨rfl, rfl, rfl⟩
        rw [← e99] at hend
        clear h h96 hbl q1 ih
        refine fr_go k188 [78] 400 rfl ?_
        repeat' (first | (refine And.intro (by first | omega | (simp (disch := decide) only [up_n, up_s, cp_n, rw_n, rw_s, up1_, if_true, if_false, ite_true, ite_false, reduceIte, eq_self, Int.reduceEq, true_and, and_true, not_true_eq_false, not_false_eq_true]; omega)) ?_) | (refine And.intro (fun hc => ?_) (fun hc => ?_) <;> (try (simp (disch := decide) only [up_n, up_s, cp_n, rw_n, rw_s, up1_, if_true, if_false, ite_true, ite_false, reduceIte, eq_self, Int.reduceEq, true_and, and_true, not_true_eq_false, not_false_eq_true] at hc)) <;> (try (exfalso; omega))) | (refine fun (hc : ¬ _) => ?_; try (simp (disch := decide) only [up_n, up_s, cp_n, rw_n, rw_s, up1_, if_true, if_false, ite_true, ite_false, reduceIte, eq_self, Int.reduceEq, true_and, and_true, not_true_eq_false, not_false_eq_true] at hc)) | (refine fun (hc : _ = _) => ?_; try (simp (disch := decide) only [up_n, up_s, cp_n, rw_n, rw_s, up1_, if_true, if_false, ite_true, ite_false, reduceIte, eq_self, Int.reduceEq, true_and, and_true, not_true_eq_false, not_false_eq_true] at hc)))
        all_goals first | (exfalso; omega) | skip
        refine fr_Call.mono hend ?_
        rintro r sh M' ⟨rfl, rfl, rfl⟩
        rw [e99]
        exact hh
    · have hh := ih (k + 1) (some (.inl (ln p k))) (by omega) (fun j hj => by
        by_cases e : j = k
        · rw [e]; exact hin
        · exact q1 j (by omega))
      clear h hP h96 hbl q1 ih
      refine fr_go k188 [78] 400 rfl ?_
      repeat' (first | (refine And.intro (by first | omega | (simp (disch := decide) only [up_n, up_s, cp_n, rw_n, rw_s, up1_, if_true, if_false, ite_true, ite_false, reduceIte, eq_self, Int.reduceEq, true_and, and_true, not_true_eq_false, not_false_eq_true]; omega)) ?_) | (refine And.intro (fun hc => ?_) (fun hc => ?_) <;> (try (simp (disch := decide) only [up_n, up_s, cp_n, rw_n, rw_s, up1_, if_true, if_false, ite_true, ite_false, reduceIte, eq_self, Int.reduceEq, true_and, and_true, not_true_eq_false, not_false_eq_true] at hc)) <;> (try (exfalso; omega))) | (refine fun (hc : ¬ _) => ?_; try (simp (disch := decide) only [up_n, up_s, cp_n, rw_n, rw_s, up1_, if_true, if_false, ite_true, ite_false, reduceIte, eq_self, Int.reduceEq, true_and, and_true, not_true_eq_false, not_false_eq_true] at hc)) | (refine fun (hc : _ = _) => ?_; try (simp (disch := decide) only [up_n, up_s, cp_n, rw_n, rw_s, up1_, if_true, if_false, ite_true, ite_false, reduceIte, eq_self, Int.reduceEq, true_and, and_true, not_true_eq_false, not_false_eq_true] at hc)))
      all_goals first | (exfalso; omega) | exact hh
set_option maxHeartbeats 4000000 in
set_option maxRecDepth 100000 in
theorem m_im_1 {M p : fr_M} {T : Nat} {i : Int} {Q : Option fr_V → fr_H → fr_M → Prop} (hp : pg M = p) (hw : WF p) (hP : RefP p T M) (hi : pos p (lgT p T) (cN p) ≤ i ∧ i < pos p (lgT p T) (cN p) + 8 * gd p (cN p)) (h : ∀ v, IV p (lgT p T) i v → Q (some (.inl v)) sh0 M) : ∀ (t k : Nat) (x4 : Option fr_V), k + t = cN p → gd p k ≤ (i - pos p (lgT p T) (cN p)) / 8 → fr_Run 188 none 25 [some (.inr (.inl 75)), some (.inl i), some (.inl ((i - pos p (lgT p T) (cN p)) / 8 - gd p k)), some (.inl (k : Int)), x4, none] [] sh0 M 0 0 Q := by
  have hcN := cN_40 hw
  obtain ⟨e28, e37, e38, e39⟩ := hP.2.1
  have h96 := hP.2.2.1
  have hbl := hP.2.2.2.1
  have bp := pos_b hw (lg := lgT p T) (k := cN p) (Nat.le_refl _)
  have bg := gd_b (p := p) (k := cN p)
  intro t
  induction t with
  | zero =>
    intro k x4 q0 q1
    exfalso
    have e : k = cN p := by omega
    subst e
    omega
  | succ t ih =>
    intro k x4 q0 q1
    have hk : k < cN p := by omega
    have hr := ln_rng hw hk
    have e1 := h96 k (by omega)
    have bgk := gd_b (p := p) (k := k)
    have e98 := (hbl _ hr.1 hr.2).2.1
    have hab := (ad_b hw (lg := lgT p T) hr).1
    have ek : p 82 (ln p k) = M 82 (ln p k) := by rw [← hp]; rfl
    have egd : gd p (k + 1) = gd p k + (if p 82 (ln p k) = 6 then 1 else 0) := rfl
    refine fr_go k188 [25, 34] 400 rfl ?_
    repeat' (first | (refine And.intro (by first | omega | (simp (disch := decide) only [up_n, up_s, cp_n, rw_n, rw_s, up1_, if_true, if_false, ite_true, ite_false, reduceIte, eq_self, Int.reduceEq, true_and, and_true, not_true_eq_false, not_false_eq_true]; omega)) ?_) | (refine And.intro (fun hc => ?_) (fun hc => ?_) <;> (try (simp (disch := decide) only [up_n, up_s, cp_n, rw_n, rw_s, up1_, if_true, if_false, ite_true, ite_false, reduceIte, eq_self, Int.reduceEq, true_and, and_true, not_true_eq_false, not_false_eq_true] at hc)) <;> (try (exfalso; omega))) | (refine fun (hc : ¬ _) => ?_; try (simp (disch := decide) only [up_n, up_s, cp_n, rw_n, rw_s, up1_, if_true, if_false, ite_true, ite_false, reduceIte, eq_self, Int.reduceEq, true_and, and_true, not_true_eq_false, not_false_eq_true] at hc)) | (refine fun (hc : _ = _) => ?_; try (simp (disch := decide) only [up_n, up_s, cp_n, rw_n, rw_s, up1_, if_true, if_false, ite_true, ite_false, reduceIte, eq_self, Int.reduceEq, true_and, and_true, not_true_eq_false, not_false_eq_true] at hc)))
    all_goals first | (exfalso; omega) | skip
    all_goals (show fr_Run 188 none 34 _ _ _ _ 0 0 Q)
    rw [e1]
    by_cases h6 : p 82 (ln p k) = 6
    · rw [if_pos h6] at egd
      by_cases hl : gd p k = (i - pos p (lgT p T) (cN p)) / 8
      · have hwr := (w_rng hw hr).2 (by omega)
        have e98w := (hbl _ hwr.1 hwr.2).2.1
        have habw := (ad_b hw (lg := lgT p T) hwr).1
        have ew : w1 p (ln p k) = M 84 (4 * ln p k + 1) := by rw [← hp]; rfl
        have hh := h _ (Or.inr (Or.inr (Or.inr ⟨k, by omega, h6, (i - pos p (lgT p T) (cN p)) % 8, by omega, by omega, by omega, rfl⟩)))
        rw [ew] at hwr e98w habw hh
        clear h hP h96 hbl ih
        by_cases h4 : (i - pos p (lgT p T) (cN p)) % 8 < 4
        · rw [if_pos h4, ← e98, show (i - pos p (lgT p T) (cN p)) % 8 = (i - M 75 38) % 8 % 4 by omega] at hh
          refine fr_go k188 [] 400 rfl ?_
          repeat' (first | (refine And.intro (by first | omega | (simp (disch := decide) only [up_n, up_s, cp_n, rw_n, rw_s, up1_, if_true, if_false, ite_true, ite_false, reduceIte, eq_self, Int.reduceEq, true_and, and_true, not_true_eq_false, not_false_eq_true]; omega)) ?_) | (refine m_byteOf (by omega) (by omega) ?_) | (refine And.intro (fun hc => ?_) (fun hc => ?_) <;> (try (simp (disch := decide) only [up_n, up_s, cp_n, rw_n, rw_s, up1_, if_true, if_false, ite_true, ite_false, reduceIte, eq_self, Int.reduceEq, true_and, and_true, not_true_eq_false, not_false_eq_true] at hc)) <;> (try (exfalso; omega))) | (refine fun (hc : ¬ _) => ?_; try (simp (disch := decide) only [up_n, up_s, cp_n, rw_n, rw_s, up1_, if_true, if_false, ite_true, ite_false, reduceIte, eq_self, Int.reduceEq, true_and, and_true, not_true_eq_false, not_false_eq_true] at hc)) | (refine fun (hc : _ = _) => ?_; try (simp (disch := decide) only [up_n, up_s, cp_n, rw_n, rw_s, up1_, if_true, if_false, ite_true, ite_false, reduceIte, eq_self, Int.reduceEq, true_and, and_true, not_true_eq_false, not_false_eq_true] at hc)))
          all_goals first | (exfalso; omega) | exact hh
        · rw [if_neg h4, ← e98w, show (i - pos p (lgT p T) (cN p)) % 8 - 4 = (i - M 75 38) % 8 % 4 by omega] at hh
          refine fr_go k188 [] 400 rfl ?_
          repeat' (first | (refine And.intro (by first | omega | (simp (disch := decide) only [up_n, up_s, cp_n, rw_n, rw_s, up1_, if_true, if_false, ite_true, ite_false, reduceIte, eq_self, Int.reduceEq, true_and, and_true, not_true_eq_false, not_false_eq_true]; omega)) ?_) | (refine m_byteOf (by omega) (by omega) ?_) | (refine And.intro (fun hc => ?_) (fun hc => ?_) <;> (try (simp (disch := decide) only [up_n, up_s, cp_n, rw_n, rw_s, up1_, if_true, if_false, ite_true, ite_false, reduceIte, eq_self, Int.reduceEq, true_and, and_true, not_true_eq_false, not_false_eq_true] at hc)) <;> (try (exfalso; omega))) | (refine fun (hc : ¬ _) => ?_; try (simp (disch := decide) only [up_n, up_s, cp_n, rw_n, rw_s, up1_, if_true, if_false, ite_true, ite_false, reduceIte, eq_self, Int.reduceEq, true_and, and_true, not_true_eq_false, not_false_eq_true] at hc)) | (refine fun (hc : _ = _) => ?_; try (simp (disch := decide) only [up_n, up_s, cp_n, rw_n, rw_s, up1_, if_true, if_false, ite_true, ite_false, reduceIte, eq_self, Int.reduceEq, true_and, and_true, not_true_eq_false, not_false_eq_true] at hc)))
          all_goals first | (exfalso; omega) | exact hh
      · have hh := ih (k + 1) (some (.inl (ln p k))) (by omega) (by omega)
        rw [egd, show (i - pos p (lgT p T) (cN p)) / 8 - (gd p k + 1) = (i - pos p (lgT p T) (cN p)) / 8 - gd p k + -1 by omega] at hh
        clear h hP h96 hbl ih
        refine fr_go k188 [25] 400 rfl ?_
        repeat' (first | (refine And.intro (by first | omega | (simp (disch := decide) only [up_n, up_s, cp_n, rw_n, rw_s, up1_, if_true, if_false, ite_true, ite_false, reduceIte, eq_self, Int.reduceEq, true_and, and_true, not_true_eq_false, not_false_eq_true]; omega)) ?_) | (refine And.intro (fun hc => ?_) (fun hc => ?_) <;> (try (simp (disch := decide) only [up_n, up_s, cp_n, rw_n, rw_s, up1_, if_true, if_false, ite_true, ite_false, reduceIte, eq_self, Int.reduceEq, true_and, and_true, not_true_eq_false, not_false_eq_true] at hc)) <;> (try (exfalso; omega))) | (refine fun (hc : ¬ _) => ?_; try (simp (disch := decide) only [up_n, up_s, cp_n, rw_n, rw_s, up1_, if_true, if_false, ite_true, ite_false, reduceIte, eq_self, Int.reduceEq, true_and, and_true, not_true_eq_false, not_false_eq_true] at hc)) | (refine fun (hc : _ = _) => ?_; try (simp (disch := decide) only [up_n, up_s, cp_n, rw_n, rw_s, up1_, if_true, if_false, ite_true, ite_false, reduceIte, eq_self, Int.reduceEq, true_and, and_true, not_true_eq_false, not_false_eq_true] at hc)))
        all_goals first | (exfalso; omega) | exact hh
    · rw [if_neg h6, show gd p k + 0 = gd p k by omega] at egd
      have hh := ih (k + 1) (some (.inl (ln p k))) (by omega) (by omega)
      rw [egd] at hh
      clear h hP h96 hbl ih
      refine fr_go k188 [25] 400 rfl ?_
      repeat' (first | (refine And.intro (by first | omega | (simp (disch := decide) only [up_n, up_s, cp_n, rw_n, rw_s, up1_, if_true, if_false, ite_true, ite_false, reduceIte, eq_self, Int.reduceEq, true_and, and_true, not_true_eq_false, not_false_eq_true]; omega)) ?_) | (refine And.intro (fun hc => ?_) (fun hc => ?_) <;> (try (simp (disch := decide) only [up_n, up_s, cp_n, rw_n, rw_s, up1_, if_true, if_false, ite_true, ite_false, reduceIte, eq_self, Int.reduceEq, true_and, and_true, not_true_eq_false, not_false_eq_true] at hc)) <;> (try (exfalso; omega))) | (refine fun (hc : ¬ _) => ?_; try (simp (disch := decide) only [up_n, up_s, cp_n, rw_n, rw_s, up1_, if_true, if_false, ite_true, ite_false, reduceIte, eq_self, Int.reduceEq, true_and, and_true, not_true_eq_false, not_false_eq_true] at hc)) | (refine fun (hc : _ = _) => ?_; try (simp (disch := decide) only [up_n, up_s, cp_n, rw_n, rw_s, up1_, if_true, if_false, ite_true, ite_false, reduceIte, eq_self, Int.reduceEq, true_and, and_true, not_true_eq_false, not_false_eq_true] at hc)))
      all_goals first | (exfalso; omega) | exact hh
set_option maxHeartbeats 4000000 in
set_option maxRecDepth 100000 in
theorem op_image {n : Int} {M : fr_M} (hR : Rel n M) (hn : n ≤ 512) (a0 : Int) (g0 : fr_in a0) : Two 126 188 [.inl a0] M (Rel (n + 1)) := by
  refine Two.of ?_
  refine fr_cgo k126 [some (.inr (.inl 0)), some (.inl a0)] 0 0 [] 400 rfl rfl rfl rfl ?_
  refine op_refresh hR hn (fun M1 hf hR1 e18 e39 => ?_)
  have hl1 : RL (n + 1) M1 := hR1.2.2.2.2.2.2.2.2.2.2.2.2.2.2.2.2.2.2.2.2.2.2.2.2.2.2
  obtain ⟨T, hT, hPic⟩ := hl1.in_.2.2.2.2.2.2 e18 e39
  have hw := hR1.wf
  have hcN := cN_40 hw
  have bp := pos_b hw (lg := lgT (pg M1) T) (k := cN (pg M1)) (Nat.le_refl _)
  have bg := gd_b (p := pg M1) (k := cN (pg M1))
  obtain ⟨e13, e14, e15, e16⟩ := id hT.2.1
  have href : ∀ v, (∀ v', (0 ≤ a0 ∧ a0 < M1 29 16) → IV (pg M1) (lgT (pg M1) T) a0 v' → v' = v) → (¬ (0 ≤ a0 ∧ a0 < M1 29 16) → v = -9) → fr_Call 188 [.inr (.inl 75), .inl a0] sh0 M1 (fun r2 sh2 M2 => sh2 = sh0 ∧ r2 = some (.inl v) ∧ Rel (n + 1) M2) := by
    intro v hv hno
    obtain ⟨h0, h1, h2, h3, h4, h5, h6, h7, h8, o1, o2, o3, k1, k2, k3, k4, k5, t1, t2, s1, r1, r1', r2, r2', r3, r4, l⟩ := id hR1
    refine fr_cgo k188 [some (.inr (.inl 75)), some (.inl a0), none, none, none, none] 0 0 [25, 78] 400 rfl rfl rfl rfl ?_
    refine m_lays hw h1 h2 h4 o1 s1 (fun M2 T2 hf2 hP => ?_)
    have hR2 := hR1.ref hf2
    have eT : T2 = T := T_uniq hP.1 hT.1
    subst eT
    have hp2 := pg_rc hf2
    obtain ⟨f28, f37, f38, f39⟩ := id hP.2.1
    by_cases hin : 0 ≤ a0 ∧ a0 < M1 29 16
    · have hfin : ∀ v', IV (pg M1) (lgT (pg M1) T2) a0 v' → (sh0 = sh0 ∧ (some (.inl v') : Option fr_V) = some (.inl v) ∧ Rel (n + 1) M2) := fun v' hq => ⟨rfl, by rw [hv v' hin hq], hR2⟩
      by_cases hcode : a0 < pos (pg M1) (lgT (pg M1) T2) (cN (pg M1))
      · have hh := m_im_2 (M := M2) (p := pg M1) (T := T2) (i := a0) (x4 := none) (x5 := none) (Q := fun r2 sh2 M2 => sh2 = sh0 ∧ r2 = some (.inl v) ∧ Rel (n + 1) M2) hp2 hw hP ⟨hin.1, hcode⟩ hfin (cN (pg M1)) 0 none (by omega) (fun j hj => absurd hj (by omega))
        clear hfin hv hno hP hT hPic
        repeat' (first | (refine And.intro (by first | omega | (simp (disch := decide) only [up_n, up_s, cp_n, rw_n, rw_s, up1_, if_true, if_false, ite_true, ite_false, reduceIte, eq_self, Int.reduceEq, true_and, and_true, not_true_eq_false, not_false_eq_true]; omega)) ?_) | (refine m_in (fun hc => ?_) (fun hc => ?_) <;> (try (simp (disch := decide) only [up_n, up_s, cp_n, rw_n, rw_s, up1_, if_true, if_false, ite_true, ite_false, reduceIte, eq_self, Int.reduceEq, true_and, and_true, not_true_eq_false, not_false_eq_true] at hc))) | (refine And.intro (fun hc => ?_) (fun hc => ?_) <;> (try (simp (disch := decide) only [up_n, up_s, cp_n, rw_n, rw_s, up1_, if_true, if_false, ite_true, ite_false, reduceIte, eq_self, Int.reduceEq, true_and, and_true, not_true_eq_false, not_false_eq_true] at hc)) <;> (try (exfalso; omega))) | (refine fun (hc : ¬ _) => ?_; try (simp (disch := decide) only [up_n, up_s, cp_n, rw_n, rw_s, up1_, if_true, if_false, ite_true, ite_false, reduceIte, eq_self, Int.reduceEq, true_and, and_true, not_true_eq_false, not_false_eq_true] at hc)) | (refine fun (hc : _ = _) => ?_; try (simp (disch := decide) only [up_n, up_s, cp_n, rw_n, rw_s, up1_, if_true, if_false, ite_true, ite_false, reduceIte, eq_self, Int.reduceEq, true_and, and_true, not_true_eq_false, not_false_eq_true] at hc)))
        all_goals first | (exfalso; omega) | exact hh
      · have hh := m_im_1 (M := M2) (p := pg M1) (T := T2) (i := a0) (Q := fun r2 sh2 M2 => sh2 = sh0 ∧ r2 = some (.inl v) ∧ Rel (n + 1) M2) hp2 hw hP ⟨by omega, by omega⟩ hfin (cN (pg M1)) 0 none (by omega) (by show 0 ≤ _; omega)
        rw [show gd (pg M1) 0 = 0 from rfl, show (a0 - pos (pg M1) (lgT (pg M1) T2) (cN (pg M1))) / 8 - 0 = (a0 - pos (pg M1) (lgT (pg M1) T2) (cN (pg M1))) / 8 by omega, ← f38] at hh
        clear hfin hv hno hP hT hPic
        repeat' (first | (refine And.intro (by first | omega | (simp (disch := decide) only [up_n, up_s, cp_n, rw_n, rw_s, up1_, if_true, if_false, ite_true, ite_false, reduceIte, eq_self, Int.reduceEq, true_and, and_true, not_true_eq_false, not_false_eq_true]; omega)) ?_) | (refine m_in (fun hc => ?_) (fun hc => ?_) <;> (try (simp (disch := decide) only [up_n, up_s, cp_n, rw_n, rw_s, up1_, if_true, if_false, ite_true, ite_false, reduceIte, eq_self, Int.reduceEq, true_and, and_true, not_true_eq_false, not_false_eq_true] at hc))) | (refine And.intro (fun hc => ?_) (fun hc => ?_) <;> (try (simp (disch := decide) only [up_n, up_s, cp_n, rw_n, rw_s, up1_, if_true, if_false, ite_true, ite_false, reduceIte, eq_self, Int.reduceEq, true_and, and_true, not_true_eq_false, not_false_eq_true] at hc)) <;> (try (exfalso; omega))) | (refine fun (hc : ¬ _) => ?_; try (simp (disch := decide) only [up_n, up_s, cp_n, rw_n, rw_s, up1_, if_true, if_false, ite_true, ite_false, reduceIte, eq_self, Int.reduceEq, true_and, and_true, not_true_eq_false, not_false_eq_true] at hc)) | (refine fun (hc : _ = _) => ?_; try (simp (disch := decide) only [up_n, up_s, cp_n, rw_n, rw_s, up1_, if_true, if_false, ite_true, ite_false, reduceIte, eq_self, Int.reduceEq, true_and, and_true, not_true_eq_false, not_false_eq_true] at hc)))
        all_goals first | (exfalso; omega) | exact hh
    · have hv := hno hin
      subst hv
      clear hP hT hPic
      repeat' (first | (refine And.intro (by first | omega | (simp (disch := decide) only [up_n, up_s, cp_n, rw_n, rw_s, up1_, if_true, if_false, ite_true, ite_false, reduceIte, eq_self, Int.reduceEq, true_and, and_true, not_true_eq_false, not_false_eq_true]; omega)) ?_) | (refine m_in (fun hc => ?_) (fun hc => ?_) <;> (try (simp (disch := decide) only [up_n, up_s, cp_n, rw_n, rw_s, up1_, if_true, if_false, ite_true, ite_false, reduceIte, eq_self, Int.reduceEq, true_and, and_true, not_true_eq_false, not_false_eq_true] at hc))) | (refine And.intro (fun hc => ?_) (fun hc => ?_) <;> (try (simp (disch := decide) only [up_n, up_s, cp_n, rw_n, rw_s, up1_, if_true, if_false, ite_true, ite_false, reduceIte, eq_self, Int.reduceEq, true_and, and_true, not_true_eq_false, not_false_eq_true] at hc)) <;> (try (exfalso; omega))) | (refine fun (hc : ¬ _) => ?_; try (simp (disch := decide) only [up_n, up_s, cp_n, rw_n, rw_s, up1_, if_true, if_false, ite_true, ite_false, reduceIte, eq_self, Int.reduceEq, true_and, and_true, not_true_eq_false, not_false_eq_true] at hc)) | (refine fun (hc : _ = _) => ?_; try (simp (disch := decide) only [up_n, up_s, cp_n, rw_n, rw_s, up1_, if_true, if_false, ite_true, ite_false, reduceIte, eq_self, Int.reduceEq, true_and, and_true, not_true_eq_false, not_false_eq_true] at hc)))
      all_goals first | (exfalso; omega) | exact ⟨rfl, rfl, hR2⟩
  by_cases hin : 0 ≤ a0 ∧ a0 < M1 29 16
  · have hh := href (M1 40 a0 % 256) (fun v' _ hq => by
      have a := hq.byte hw hPic
      have c := sg_mod (x := v') a.2
      rw [a.1, c.1]) (fun q => absurd hin q)
    clear href hT hPic
    repeat' (first | (refine And.intro (by first | omega | (simp (disch := decide) only [up_n, up_s, cp_n, rw_n, rw_s, up1_, if_true, if_false, ite_true, ite_false, reduceIte, eq_self, Int.reduceEq, true_and, and_true, not_true_eq_false, not_false_eq_true]; omega)) ?_) | (refine c_byteAt (by omega) ?_) | (refine And.intro (fun hc => ?_) (fun hc => ?_) <;> (try (simp (disch := decide) only [up_n, up_s, cp_n, rw_n, rw_s, up1_, if_true, if_false, ite_true, ite_false, reduceIte, eq_self, Int.reduceEq, true_and, and_true, not_true_eq_false, not_false_eq_true] at hc)) <;> (try (exfalso; omega))) | (refine fun (hc : ¬ _) => ?_; try (simp (disch := decide) only [up_n, up_s, cp_n, rw_n, rw_s, up1_, if_true, if_false, ite_true, ite_false, reduceIte, eq_self, Int.reduceEq, true_and, and_true, not_true_eq_false, not_false_eq_true] at hc)) | (refine fun (hc : _ = _) => ?_; try (simp (disch := decide) only [up_n, up_s, cp_n, rw_n, rw_s, up1_, if_true, if_false, ite_true, ite_false, reduceIte, eq_self, Int.reduceEq, true_and, and_true, not_true_eq_false, not_false_eq_true] at hc)))
    all_goals first | (exfalso; omega) | exact ⟨rfl, _, rfl, hh⟩
  · have hh := href (-9) (fun v' q _ => absurd q hin) (fun _ => rfl)
    clear href hT hPic
    repeat' (first | (refine And.intro (by first | omega | (simp (disch := decide) only [up_n, up_s, cp_n, rw_n, rw_s, up1_, if_true, if_false, ite_true, ite_false, reduceIte, eq_self, Int.reduceEq, true_and, and_true, not_true_eq_false, not_false_eq_true]; omega)) ?_) | (refine And.intro (fun hc => ?_) (fun hc => ?_) <;> (try (simp (disch := decide) only [up_n, up_s, cp_n, rw_n, rw_s, up1_, if_true, if_false, ite_true, ite_false, reduceIte, eq_self, Int.reduceEq, true_and, and_true, not_true_eq_false, not_false_eq_true] at hc)) <;> (try (exfalso; omega))) | (refine fun (hc : ¬ _) => ?_; try (simp (disch := decide) only [up_n, up_s, cp_n, rw_n, rw_s, up1_, if_true, if_false, ite_true, ite_false, reduceIte, eq_self, Int.reduceEq, true_and, and_true, not_true_eq_false, not_false_eq_true] at hc)) | (refine fun (hc : _ = _) => ?_; try (simp (disch := decide) only [up_n, up_s, cp_n, rw_n, rw_s, up1_, if_true, if_false, ite_true, ite_false, reduceIte, eq_self, Int.reduceEq, true_and, and_true, not_true_eq_false, not_false_eq_true] at hc)))
    all_goals first | (exfalso; omega) | exact ⟨rfl, _, rfl, hh⟩
