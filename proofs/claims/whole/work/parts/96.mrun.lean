/-- the program and THE TAPE as the reference's runs read them -/
def QN (p : fr_M) (tp : Int → Int) (N : fr_M) : Prop := pg N = p ∧ (0 ≤ N 75 17 ∧ N 75 17 ≤ 200) ∧ (∀ i, 0 ≤ i → tp i = (if i < N 75 17 then N 87 i else 0) ∧ 0 ≤ tp i ∧ tp i ≤ 255)
/-- and, if it is laid, the layout -/
def QL (p : fr_M) (z : Int) (N : fr_M) : Prop := (z = 0 ∨ z = 1) ∧ (z = 1 → (∀ b, 0 ≤ b → b < p 75 4 → N 97 b = nn (nx p b)) ∧ (∀ s, 0 ≤ s → s < 2 * p 75 4 → N 101 s = nn (tg p s)))
def MR (z : Int) (o : Int) (g gc gt : Int → Int) (s : RS) : Prop := g 2 = s.2.1 ∧ o = (s.2.2.1.length : Int) ∧ g 3 = s.2.2.2.1 ∧ (∀ i, 0 ≤ i → i < 160 → gt i = s.2.2.2.2.1 i) ∧ (∀ (j : Nat) (x : Int), s.2.2.1[j]? = some x → gc ((s.2.2.1.length : Int) - 1 - (j : Int)) = x) ∧ (z = 0 → g 4 = 0 ∧ g 5 = 0 ∧ g 6 = 0 ∧ g 7 = 0) ∧ (z = 1 → g 5 = s.2.2.2.2.2.1 ∧ g 6 = s.2.2.2.2.2.2.1 ∧ g 7 = s.2.2.2.2.2.2.2 ∧ g 4 = 2 * g 5 + 3 * g 6 + g 7 + 50 * g 8)
set_option maxHeartbeats 4000000 in
set_option maxRecDepth 100000 in
theorem m_choice {N : fr_M} {o : Int} {g gc gt : Int → Int} {Q : Option fr_V → fr_H → fr_M → Prop} (hi : 0 ≤ g 2 ∧ g 2 ≤ 1000) (hl : 0 ≤ N 75 17 ∧ N 75 17 ≤ 200) (h : Q (some (.inl (if g 2 < N 75 17 then N 87 (g 2) else 0))) sh0 (rw_ (rw_ (rw_ (fr_up N 75 50 o) 111 (up1 g 2 (g 2 + 1))) 113 gc) 115 gt)) : fr_Call 192 [.inr (.inl 75)] sh0 (rw_ (rw_ (rw_ (fr_up N 75 50 o) 111 g) 113 gc) 115 gt) Q := by
  by_cases e : g 2 < N 75 17
  · rw [if_pos e] at h
    refine fr_cgo k192 [some (.inr (.inl 75)), none] 0 0 [] 400 rfl rfl rfl rfl ?_
    repeat' (first | (refine And.intro (by first | omega | (simp (disch := decide) only [up_n, up_s, cp_n, rw_n, rw_s, up1_, if_true, if_false, ite_true, ite_false, reduceIte, eq_self, Int.reduceEq, true_and, and_true, not_true_eq_false, not_false_eq_true]; omega)) ?_) | (refine And.intro (fun hc => ?_) (fun hc => ?_) <;> (try (simp (disch := decide) only [up_n, up_s, cp_n, rw_n, rw_s, up1_, if_true, if_false, ite_true, ite_false, reduceIte, eq_self, Int.reduceEq, true_and, and_true, not_true_eq_false, not_false_eq_true] at hc)) <;> (try (exfalso; omega))) | (refine fun (hc : ¬ _) => ?_; try (simp (disch := decide) only [up_n, up_s, cp_n, rw_n, rw_s, up1_, if_true, if_false, ite_true, ite_false, reduceIte, eq_self, Int.reduceEq, true_and, and_true, not_true_eq_false, not_false_eq_true] at hc)) | (refine fun (hc : _ = _) => ?_; try (simp (disch := decide) only [up_n, up_s, cp_n, rw_n, rw_s, up1_, if_true, if_false, ite_true, ite_false, reduceIte, eq_self, Int.reduceEq, true_and, and_true, not_true_eq_false, not_false_eq_true] at hc)))
    all_goals first | (exfalso; omega) | (exfalso; simp (disch := decide) only [up_n, up_s, cp_n, rw_n, rw_s, up1_, if_true, if_false, ite_true, ite_false, reduceIte, eq_self, Int.reduceEq, true_and, and_true, not_true_eq_false, not_false_eq_true] at *; omega) | skip
    show Q (some (.inl _)) sh0 _
    simp (disch := decide) only [up_n, up_s, cp_n, rw_n, rw_s, up1_, if_true, if_false, ite_true, ite_false, reduceIte, eq_self, Int.reduceEq, true_and, and_true, not_true_eq_false, not_false_eq_true]
    simp (disch := decide) only [up_rw, rw_u, up_up, rw_rw, rw_cm]
    exact h
  · rw [if_neg e] at h
    refine fr_cgo k192 [some (.inr (.inl 75)), none] 0 0 [] 400 rfl rfl rfl rfl ?_
    repeat' (first | (refine And.intro (by first | omega | (simp (disch := decide) only [up_n, up_s, cp_n, rw_n, rw_s, up1_, if_true, if_false, ite_true, ite_false, reduceIte, eq_self, Int.reduceEq, true_and, and_true, not_true_eq_false, not_false_eq_true]; omega)) ?_) | (refine And.intro (fun hc => ?_) (fun hc => ?_) <;> (try (simp (disch := decide) only [up_n, up_s, cp_n, rw_n, rw_s, up1_, if_true, if_false, ite_true, ite_false, reduceIte, eq_self, Int.reduceEq, true_and, and_true, not_true_eq_false, not_false_eq_true] at hc)) <;> (try (exfalso; omega))) | (refine fun (hc : ¬ _) => ?_; try (simp (disch := decide) only [up_n, up_s, cp_n, rw_n, rw_s, up1_, if_true, if_false, ite_true, ite_false, reduceIte, eq_self, Int.reduceEq, true_and, and_true, not_true_eq_false, not_false_eq_true] at hc)) | (refine fun (hc : _ = _) => ?_; try (simp (disch := decide) only [up_n, up_s, cp_n, rw_n, rw_s, up1_, if_true, if_false, ite_true, ite_false, reduceIte, eq_self, Int.reduceEq, true_and, and_true, not_true_eq_false, not_false_eq_true] at hc)))
    all_goals first | (exfalso; omega) | (exfalso; simp (disch := decide) only [up_n, up_s, cp_n, rw_n, rw_s, up1_, if_true, if_false, ite_true, ite_false, reduceIte, eq_self, Int.reduceEq, true_and, and_true, not_true_eq_false, not_false_eq_true] at *; omega) | skip
    show Q (some (.inl _)) sh0 _
    simp (disch := decide) only [up_n, up_s, cp_n, rw_n, rw_s, up1_, if_true, if_false, ite_true, ite_false, reduceIte, eq_self, Int.reduceEq, true_and, and_true, not_true_eq_false, not_false_eq_true]
    simp (disch := decide) only [up_rw, rw_u, up_up, rw_rw, rw_cm]
    exact h
set_option maxHeartbeats 4000000 in
set_option maxRecDepth 100000 in
theorem m_wayFor {N p : fr_M} {tp : Int → Int} {o b : Int} {g gc gt : Int → Int} {Q : Option fr_V → fr_H → fr_M → Prop} (hw : WF p) (hN : QN p tp N) (hb : 0 ≤ b ∧ b < p 75 4) (hi : 0 ≤ g 2 ∧ g 2 ≤ 1000) (h : Q (some (.inl (wy p tp b (g 2)))) sh0 (rw_ (rw_ (rw_ (fr_up N 75 50 o) 111 (if p 82 b = 3 ∨ p 82 b = 4 ∨ p 82 b = 6 then up1 g 2 (g 2 + 1) else g)) 113 gc) 115 gt)) : fr_Call 196 [.inr (.inl 75), .inl b] sh0 (rw_ (rw_ (rw_ (fr_up N 75 50 o) 111 g) 113 gc) 115 gt) Q := by
  obtain ⟨hp, n4, n5⟩ := hN
  have h40 := hw.1.1
  have ek : p 82 b = N 82 b := by rw [← hp]; rfl
  have en : p 83 b = N 83 b := by rw [← hp]; rfl
  have ht := n5 (g 2) hi.1
  obtain ⟨w1', w2', w3', w4', w5', w6', w7', w8'⟩ := hw.2.2.2.2.2.1 b hb.1 hb.2
  clear n5
  rcases (show p 82 b = 3 ∨ p 82 b = 4 ∨ p 82 b = 6 ∨ ¬ (p 82 b = 3 ∨ p 82 b = 4 ∨ p 82 b = 6) by omega) with kk | kk | kk | kk
  · have ew : wy p tp b (g 2) = tp (g 2) % 2 := by
      unfold wy
      rw [if_pos kk]
    rw [if_pos (by omega), ew, ht.1] at h
    have h2 := ht.2
    rw [ht.1] at h2
    refine fr_cgo k196 [some (.inr (.inl 75)), some (.inl b)] 0 0 [] 400 rfl rfl rfl rfl ?_
    repeat' (first | (refine And.intro (by first | omega | (simp (disch := decide) only [up_n, up_s, cp_n, rw_n, rw_s, up1_, if_true, if_false, ite_true, ite_false, reduceIte, eq_self, Int.reduceEq, true_and, and_true, not_true_eq_false, not_false_eq_true]; omega)) ?_) | (refine m_choice hi n4 ?_) | (refine And.intro (fun hc => ?_) (fun hc => ?_) <;> (try (simp (disch := decide) only [up_n, up_s, cp_n, rw_n, rw_s, up1_, if_true, if_false, ite_true, ite_false, reduceIte, eq_self, Int.reduceEq, true_and, and_true, not_true_eq_false, not_false_eq_true] at hc)) <;> (try (exfalso; omega))) | (refine fun (hc : ¬ _) => ?_; try (simp (disch := decide) only [up_n, up_s, cp_n, rw_n, rw_s, up1_, if_true, if_false, ite_true, ite_false, reduceIte, eq_self, Int.reduceEq, true_and, and_true, not_true_eq_false, not_false_eq_true] at hc)) | (refine fun (hc : _ = _) => ?_; try (simp (disch := decide) only [up_n, up_s, cp_n, rw_n, rw_s, up1_, if_true, if_false, ite_true, ite_false, reduceIte, eq_self, Int.reduceEq, true_and, and_true, not_true_eq_false, not_false_eq_true] at hc)))
    all_goals first | (exfalso; omega) | (exfalso; simp (disch := decide) only [up_n, up_s, cp_n, rw_n, rw_s, up1_, if_true, if_false, ite_true, ite_false, reduceIte, eq_self, Int.reduceEq, true_and, and_true, not_true_eq_false, not_false_eq_true] at *; omega) | exact h
  · have hn4 := w7' kk
    have ew : wy p tp b (g 2) = tp (g 2) % N 83 b := by
      unfold wy
      rw [if_neg (by omega), if_pos kk, en]
    rw [if_pos (by omega), ew, ht.1] at h
    have h2 := ht.2
    rw [ht.1] at h2
    refine fr_cgo k196 [some (.inr (.inl 75)), some (.inl b)] 0 0 [] 400 rfl rfl rfl rfl ?_
    repeat' (first | (refine And.intro (by first | omega | (simp (disch := decide) only [up_n, up_s, cp_n, rw_n, rw_s, up1_, if_true, if_false, ite_true, ite_false, reduceIte, eq_self, Int.reduceEq, true_and, and_true, not_true_eq_false, not_false_eq_true]; omega)) ?_) | (refine m_choice hi n4 ?_) | (refine And.intro (fun hc => ?_) (fun hc => ?_) <;> (try (simp (disch := decide) only [up_n, up_s, cp_n, rw_n, rw_s, up1_, if_true, if_false, ite_true, ite_false, reduceIte, eq_self, Int.reduceEq, true_and, and_true, not_true_eq_false, not_false_eq_true] at hc)) <;> (try (exfalso; omega))) | (refine fun (hc : ¬ _) => ?_; try (simp (disch := decide) only [up_n, up_s, cp_n, rw_n, rw_s, up1_, if_true, if_false, ite_true, ite_false, reduceIte, eq_self, Int.reduceEq, true_and, and_true, not_true_eq_false, not_false_eq_true] at hc)) | (refine fun (hc : _ = _) => ?_; try (simp (disch := decide) only [up_n, up_s, cp_n, rw_n, rw_s, up1_, if_true, if_false, ite_true, ite_false, reduceIte, eq_self, Int.reduceEq, true_and, and_true, not_true_eq_false, not_false_eq_true] at hc)))
    all_goals first | (exfalso; omega) | (exfalso; simp (disch := decide) only [up_n, up_s, cp_n, rw_n, rw_s, up1_, if_true, if_false, ite_true, ite_false, reduceIte, eq_self, Int.reduceEq, true_and, and_true, not_true_eq_false, not_false_eq_true] at *; omega) | exact h
  · rw [if_pos (by omega)] at h
    by_cases k255 : tp (g 2) = 255
    · have ew : wy p tp b (g 2) = 1 := by
        unfold wy
        rw [if_neg (by omega), if_neg (by omega), if_pos kk, if_pos k255]
      rw [ew] at h
      rw [ht.1] at k255
      refine fr_cgo k196 [some (.inr (.inl 75)), some (.inl b)] 0 0 [] 400 rfl rfl rfl rfl ?_
      repeat' (first | (refine And.intro (by first | omega | (simp (disch := decide) only [up_n, up_s, cp_n, rw_n, rw_s, up1_, if_true, if_false, ite_true, ite_false, reduceIte, eq_self, Int.reduceEq, true_and, and_true, not_true_eq_false, not_false_eq_true]; omega)) ?_) | (refine m_choice hi n4 ?_) | (refine And.intro (fun hc => ?_) (fun hc => ?_) <;> (try (simp (disch := decide) only [up_n, up_s, cp_n, rw_n, rw_s, up1_, if_true, if_false, ite_true, ite_false, reduceIte, eq_self, Int.reduceEq, true_and, and_true, not_true_eq_false, not_false_eq_true] at hc)) <;> (try (exfalso; omega))) | (refine fun (hc : ¬ _) => ?_; try (simp (disch := decide) only [up_n, up_s, cp_n, rw_n, rw_s, up1_, if_true, if_false, ite_true, ite_false, reduceIte, eq_self, Int.reduceEq, true_and, and_true, not_true_eq_false, not_false_eq_true] at hc)) | (refine fun (hc : _ = _) => ?_; try (simp (disch := decide) only [up_n, up_s, cp_n, rw_n, rw_s, up1_, if_true, if_false, ite_true, ite_false, reduceIte, eq_self, Int.reduceEq, true_and, and_true, not_true_eq_false, not_false_eq_true] at hc)))
      all_goals first | (exfalso; omega) | (exfalso; simp (disch := decide) only [up_n, up_s, cp_n, rw_n, rw_s, up1_, if_true, if_false, ite_true, ite_false, reduceIte, eq_self, Int.reduceEq, true_and, and_true, not_true_eq_false, not_false_eq_true] at *; omega) | exact h
    · have ew : wy p tp b (g 2) = 0 := by
        unfold wy
        rw [if_neg (by omega), if_neg (by omega), if_pos kk, if_neg k255]
      rw [ew] at h
      rw [ht.1] at k255
      refine fr_cgo k196 [some (.inr (.inl 75)), some (.inl b)] 0 0 [] 400 rfl rfl rfl rfl ?_
      repeat' (first | (refine And.intro (by first | omega | (simp (disch := decide) only [up_n, up_s, cp_n, rw_n, rw_s, up1_, if_true, if_false, ite_true, ite_false, reduceIte, eq_self, Int.reduceEq, true_and, and_true, not_true_eq_false, not_false_eq_true]; omega)) ?_) | (refine m_choice hi n4 ?_) | (refine And.intro (fun hc => ?_) (fun hc => ?_) <;> (try (simp (disch := decide) only [up_n, up_s, cp_n, rw_n, rw_s, up1_, if_true, if_false, ite_true, ite_false, reduceIte, eq_self, Int.reduceEq, true_and, and_true, not_true_eq_false, not_false_eq_true] at hc)) <;> (try (exfalso; omega))) | (refine fun (hc : ¬ _) => ?_; try (simp (disch := decide) only [up_n, up_s, cp_n, rw_n, rw_s, up1_, if_true, if_false, ite_true, ite_false, reduceIte, eq_self, Int.reduceEq, true_and, and_true, not_true_eq_false, not_false_eq_true] at hc)) | (refine fun (hc : _ = _) => ?_; try (simp (disch := decide) only [up_n, up_s, cp_n, rw_n, rw_s, up1_, if_true, if_false, ite_true, ite_false, reduceIte, eq_self, Int.reduceEq, true_and, and_true, not_true_eq_false, not_false_eq_true] at hc)))
      all_goals first | (exfalso; omega) | (exfalso; simp (disch := decide) only [up_n, up_s, cp_n, rw_n, rw_s, up1_, if_true, if_false, ite_true, ite_false, reduceIte, eq_self, Int.reduceEq, true_and, and_true, not_true_eq_false, not_false_eq_true] at *; omega) | exact h
  · have ew : wy p tp b (g 2) = 0 := by
      unfold wy
      rw [if_neg (by omega), if_neg (by omega), if_neg (by omega)]
    rw [if_neg kk, ew] at h
    refine fr_cgo k196 [some (.inr (.inl 75)), some (.inl b)] 0 0 [] 400 rfl rfl rfl rfl ?_
    repeat' (first | (refine And.intro (by first | omega | (simp (disch := decide) only [up_n, up_s, cp_n, rw_n, rw_s, up1_, if_true, if_false, ite_true, ite_false, reduceIte, eq_self, Int.reduceEq, true_and, and_true, not_true_eq_false, not_false_eq_true]; omega)) ?_) | (refine And.intro (fun hc => ?_) (fun hc => ?_) <;> (try (simp (disch := decide) only [up_n, up_s, cp_n, rw_n, rw_s, up1_, if_true, if_false, ite_true, ite_false, reduceIte, eq_self, Int.reduceEq, true_and, and_true, not_true_eq_false, not_false_eq_true] at hc)) <;> (try (exfalso; omega))) | (refine fun (hc : ¬ _) => ?_; try (simp (disch := decide) only [up_n, up_s, cp_n, rw_n, rw_s, up1_, if_true, if_false, ite_true, ite_false, reduceIte, eq_self, Int.reduceEq, true_and, and_true, not_true_eq_false, not_false_eq_true] at hc)) | (refine fun (hc : _ = _) => ?_; try (simp (disch := decide) only [up_n, up_s, cp_n, rw_n, rw_s, up1_, if_true, if_false, ite_true, ite_false, reduceIte, eq_self, Int.reduceEq, true_and, and_true, not_true_eq_false, not_false_eq_true] at hc)))
    all_goals first | (exfalso; omega) | (exfalso; simp (disch := decide) only [up_n, up_s, cp_n, rw_n, rw_s, up1_, if_true, if_false, ite_true, ite_false, reduceIte, eq_self, Int.reduceEq, true_and, and_true, not_true_eq_false, not_false_eq_true] at *; omega) | exact h
set_option maxHeartbeats 4000000 in
set_option maxRecDepth 100000 in
theorem m_jumps {N p : fr_M} {o b : Int} {g gc gt : Int → Int} {Q : Option fr_V → fr_H → fr_M → Prop} (hw : WF p) (hb : 0 ≤ b ∧ b < p 75 4) (h101 : N 101 (2 * b + 1) = nn (tg1 p b)) (hi : 0 ≤ g 5 ∧ g 5 ≤ 1000) (hi4 : 0 ≤ g 4 ∧ g 4 ≤ 100000) (h : Q none sh0 (rw_ (rw_ (rw_ (fr_up N 75 50 o) 111 (if tg1 p b ≠ -1 then up1 (up1 g 5 (g 5 + 1)) 4 (g 4 + 2) else g)) 113 gc) 115 gt)) : fr_Call 194 [.inr (.inl 75), .inl b, .inl 1] sh0 (rw_ (rw_ (rw_ (fr_up N 75 50 o) 111 g) 113 gc) 115 gt) Q := by
  have h40 := hw.1.1
  have tr := tg1_rng hw hb
  unfold nn at h101
  by_cases e : tg1 p b = -1
  · rw [if_pos e] at h101
    rw [if_neg (fun q => q e)] at h
    refine fr_cgo k194 [some (.inr (.inl 75)), some (.inl b), some (.inl 1)] 0 0 [] 400 rfl rfl rfl rfl ?_
    repeat' (first | (refine And.intro (by first | omega | (simp (disch := decide) only [up_n, up_s, cp_n, rw_n, rw_s, up1_, if_true, if_false, ite_true, ite_false, reduceIte, eq_self, Int.reduceEq, true_and, and_true, not_true_eq_false, not_false_eq_true]; omega)) ?_) | (refine And.intro (fun hc => ?_) (fun hc => ?_) <;> (try (simp (disch := decide) only [up_n, up_s, cp_n, rw_n, rw_s, up1_, if_true, if_false, ite_true, ite_false, reduceIte, eq_self, Int.reduceEq, true_and, and_true, not_true_eq_false, not_false_eq_true] at hc)) <;> (try (exfalso; omega))) | (refine fun (hc : ¬ _) => ?_; try (simp (disch := decide) only [up_n, up_s, cp_n, rw_n, rw_s, up1_, if_true, if_false, ite_true, ite_false, reduceIte, eq_self, Int.reduceEq, true_and, and_true, not_true_eq_false, not_false_eq_true] at hc)) | (refine fun (hc : _ = _) => ?_; try (simp (disch := decide) only [up_n, up_s, cp_n, rw_n, rw_s, up1_, if_true, if_false, ite_true, ite_false, reduceIte, eq_self, Int.reduceEq, true_and, and_true, not_true_eq_false, not_false_eq_true] at hc)))
    all_goals first | (exfalso; omega) | (exfalso; simp (disch := decide) only [up_n, up_s, cp_n, rw_n, rw_s, up1_, if_true, if_false, ite_true, ite_false, reduceIte, eq_self, Int.reduceEq, true_and, and_true, not_true_eq_false, not_false_eq_true] at *; omega) | exact h
  · rw [if_neg e] at h101
    rw [if_pos e] at h
    refine fr_cgo k194 [some (.inr (.inl 75)), some (.inl b), some (.inl 1)] 0 0 [] 400 rfl rfl rfl rfl ?_
    repeat' (first | (refine And.intro (by first | omega | (simp (disch := decide) only [up_n, up_s, cp_n, rw_n, rw_s, up1_, if_true, if_false, ite_true, ite_false, reduceIte, eq_self, Int.reduceEq, true_and, and_true, not_true_eq_false, not_false_eq_true]; omega)) ?_) | (refine And.intro (fun hc => ?_) (fun hc => ?_) <;> (try (simp (disch := decide) only [up_n, up_s, cp_n, rw_n, rw_s, up1_, if_true, if_false, ite_true, ite_false, reduceIte, eq_self, Int.reduceEq, true_and, and_true, not_true_eq_false, not_false_eq_true] at hc)) <;> (try (exfalso; omega))) | (refine fun (hc : ¬ _) => ?_; try (simp (disch := decide) only [up_n, up_s, cp_n, rw_n, rw_s, up1_, if_true, if_false, ite_true, ite_false, reduceIte, eq_self, Int.reduceEq, true_and, and_true, not_true_eq_false, not_false_eq_true] at hc)) | (refine fun (hc : _ = _) => ?_; try (simp (disch := decide) only [up_n, up_s, cp_n, rw_n, rw_s, up1_, if_true, if_false, ite_true, ite_false, reduceIte, eq_self, Int.reduceEq, true_and, and_true, not_true_eq_false, not_false_eq_true] at hc)))
    all_goals first | (exfalso; omega) | (exfalso; simp (disch := decide) only [up_n, up_s, cp_n, rw_n, rw_s, up1_, if_true, if_false, ite_true, ite_false, reduceIte, eq_self, Int.reduceEq, true_and, and_true, not_true_eq_false, not_false_eq_true] at *; omega) | skip
    show Q none sh0 _
    simp (disch := decide) only [up_n, up_s, cp_n, rw_n, rw_s, up1_, if_true, if_false, ite_true, ite_false, reduceIte, eq_self, Int.reduceEq, true_and, and_true, not_true_eq_false, not_false_eq_true]
    simp (disch := decide) only [up_rw, rw_u, up_up, rw_rw, rw_cm]
    exact h
def tgr (p : fr_M) (b w : Int) (g : Int → Int) : Int → Int := if (if tu p b = 1 then w = 1 else w = 0) then up1 (up1 g 6 (g 6 + 1)) 4 (g 4 + 3) else if tg1 p b ≠ -1 then up1 (up1 (up1 (up1 g 7 (g 7 + 1)) 4 (g 4 + 1)) 5 (g 5 + 1)) 4 (g 4 + 1 + 2) else up1 (up1 g 7 (g 7 + 1)) 4 (g 4 + 1)
set_option maxHeartbeats 4000000 in
set_option maxRecDepth 100000 in
theorem m_tests {N p : fr_M} {o b w : Int} {g gc gt : Int → Int} {Q : Option fr_V → fr_H → fr_M → Prop} (hp : pg N = p) (hw : WF p) (hb : 0 ≤ b ∧ b < p 75 4) (hww : w = 0 ∨ w = 1) (h97 : N 97 b = nn (nx p b)) (h101 : N 101 (2 * b + 1) = nn (tg1 p b)) (hi5 : 0 ≤ g 5 ∧ g 5 ≤ 1000) (hi6 : 0 ≤ g 6 ∧ g 6 ≤ 1000) (hi7 : 0 ≤ g 7 ∧ g 7 ≤ 1000) (hi4 : 0 ≤ g 4 ∧ g 4 ≤ 90000) (h : Q none sh0 (rw_ (rw_ (rw_ (fr_up N 75 50 o) 111 (tgr p b w g)) 113 gc) 115 gt)) : fr_Call 195 [.inr (.inl 75), .inl b, .inl w] sh0 (rw_ (rw_ (rw_ (fr_up N 75 50 o) 111 g) 113 gc) 115 gt) Q := by
  have h40 := hw.1.1
  have etu : tu p b = 0 ∨ tu p b = 1 := by
    unfold tu
    split
    · exact Or.inr rfl
    · exact Or.inl rfl
  have hpx : pg (rw_ (rw_ (rw_ (fr_up N 75 50 o) 111 g) 113 gc) 115 gt) = p := by
    rw [pg_rw (by omega), pg_rw (by omega), pg_rw (by omega), pg_up (by omega)]
    exact hp
  have hstay : (if tu p b = 1 then w = 1 else w = 0) = False → tgr p b w g = (if tg1 p b ≠ -1 then up1 (up1 (up1 (up1 g 7 (g 7 + 1)) 4 (g 4 + 1)) 5 (up1 (up1 g 7 (g 7 + 1)) 4 (g 4 + 1) 5 + 1)) 4 (up1 (up1 g 7 (g 7 + 1)) 4 (g 4 + 1) 4 + 2) else up1 (up1 g 7 (g 7 + 1)) 4 (g 4 + 1)) := by
    intro q
    unfold tgr
    rw [if_neg (by rw [q]; exact id)]
    rfl
  rcases etu with etu | etu
  · rcases hww with rfl | rfl
    · have eg : tgr p b 0 g = up1 (up1 g 6 (g 6 + 1)) 4 (g 4 + 3) := by
        unfold tgr
        rw [if_pos (by rw [if_neg (by omega)])]
      rw [eg] at h
      clear hstay
      refine fr_cgo k195 [some (.inr (.inl 75)), some (.inl b), some (.inl 0), none, none, none] 0 0 [] 400 rfl rfl rfl rfl ?_
      repeat' (first | (refine And.intro (by first | omega | (simp (disch := decide) only [up_n, up_s, cp_n, rw_n, rw_s, up1_, if_true, if_false, ite_true, ite_false, reduceIte, eq_self, Int.reduceEq, true_and, and_true, not_true_eq_false, not_false_eq_true]; omega)) ?_) | (refine m_isTurned (p := p) hpx hw hb h97 ?_) | (refine And.intro (fun hc => ?_) (fun hc => ?_) <;> (try (simp (disch := decide) only [up_n, up_s, cp_n, rw_n, rw_s, up1_, if_true, if_false, ite_true, ite_false, reduceIte, eq_self, Int.reduceEq, true_and, and_true, not_true_eq_false, not_false_eq_true] at hc)) <;> (try (exfalso; omega))) | (refine fun (hc : ¬ _) => ?_; try (simp (disch := decide) only [up_n, up_s, cp_n, rw_n, rw_s, up1_, if_true, if_false, ite_true, ite_false, reduceIte, eq_self, Int.reduceEq, true_and, and_true, not_true_eq_false, not_false_eq_true] at hc)) | (refine fun (hc : _ = _) => ?_; try (simp (disch := decide) only [up_n, up_s, cp_n, rw_n, rw_s, up1_, if_true, if_false, ite_true, ite_false, reduceIte, eq_self, Int.reduceEq, true_and, and_true, not_true_eq_false, not_false_eq_true] at hc)))
      all_goals first | (exfalso; omega) | (exfalso; simp (disch := decide) only [up_n, up_s, cp_n, rw_n, rw_s, up1_, if_true, if_false, ite_true, ite_false, reduceIte, eq_self, Int.reduceEq, true_and, and_true, not_true_eq_false, not_false_eq_true] at *; omega) | skip
      show Q none sh0 _
      simp (disch := decide) only [up_n, up_s, cp_n, rw_n, rw_s, up1_, if_true, if_false, ite_true, ite_false, reduceIte, eq_self, Int.reduceEq, true_and, and_true, not_true_eq_false, not_false_eq_true]
      simp (disch := decide) only [up_rw, rw_u, up_up, rw_rw, rw_cm]
      exact h
    · rw [hstay (by rw [if_neg (by omega)]; simp)] at h
      clear hstay
      refine fr_cgo k195 [some (.inr (.inl 75)), some (.inl b), some (.inl 1), none, none, none] 0 0 [] 400 rfl rfl rfl rfl ?_
      repeat' (first | (refine And.intro (by first | omega | (simp (disch := decide) only [up_n, up_s, cp_n, rw_n, rw_s, up1_, if_true, if_false, ite_true, ite_false, reduceIte, eq_self, Int.reduceEq, true_and, and_true, not_true_eq_false, not_false_eq_true]; omega)) ?_) | (refine m_isTurned (p := p) hpx hw hb h97 ?_) | (refine And.intro (fun hc => ?_) (fun hc => ?_) <;> (try (simp (disch := decide) only [up_n, up_s, cp_n, rw_n, rw_s, up1_, if_true, if_false, ite_true, ite_false, reduceIte, eq_self, Int.reduceEq, true_and, and_true, not_true_eq_false, not_false_eq_true] at hc)) <;> (try (exfalso; omega))) | (refine fun (hc : ¬ _) => ?_; try (simp (disch := decide) only [up_n, up_s, cp_n, rw_n, rw_s, up1_, if_true, if_false, ite_true, ite_false, reduceIte, eq_self, Int.reduceEq, true_and, and_true, not_true_eq_false, not_false_eq_true] at hc)) | (refine fun (hc : _ = _) => ?_; try (simp (disch := decide) only [up_n, up_s, cp_n, rw_n, rw_s, up1_, if_true, if_false, ite_true, ite_false, reduceIte, eq_self, Int.reduceEq, true_and, and_true, not_true_eq_false, not_false_eq_true] at hc)))
      all_goals first | (exfalso; omega) | (exfalso; simp (disch := decide) only [up_n, up_s, cp_n, rw_n, rw_s, up1_, if_true, if_false, ite_true, ite_false, reduceIte, eq_self, Int.reduceEq, true_and, and_true, not_true_eq_false, not_false_eq_true] at *; omega) | skip
      all_goals (show fr_Call 194 _ sh0 _ _)
      simp (disch := decide) only [up_n, up_s, cp_n, rw_n, rw_s, up1_, if_true, if_false, ite_true, ite_false, reduceIte, eq_self, Int.reduceEq, true_and, and_true, not_true_eq_false, not_false_eq_true]
      simp (disch := decide) only [up_rw, rw_u, up_up, rw_rw, rw_cm]
      refine m_jumps hw hb h101 (by simp (disch := decide) only [up_n, up_s, cp_n, rw_n, rw_s, up1_, if_true, if_false, ite_true, ite_false, reduceIte, eq_self, Int.reduceEq, true_and, and_true, not_true_eq_false, not_false_eq_true]; omega) (by simp (disch := decide) only [up_n, up_s, cp_n, rw_n, rw_s, up1_, if_true, if_false, ite_true, ite_false, reduceIte, eq_self, Int.reduceEq, true_and, and_true, not_true_eq_false, not_false_eq_true]; omega) ?_
      repeat' (first | (refine And.intro (by first | omega | (simp (disch := decide) only [up_n, up_s, cp_n, rw_n, rw_s, up1_, if_true, if_false, ite_true, ite_false, reduceIte, eq_self, Int.reduceEq, true_and, and_true, not_true_eq_false, not_false_eq_true]; omega)) ?_) | (refine And.intro (fun hc => ?_) (fun hc => ?_) <;> (try (simp (disch := decide) only [up_n, up_s, cp_n, rw_n, rw_s, up1_, if_true, if_false, ite_true, ite_false, reduceIte, eq_self, Int.reduceEq, true_and, and_true, not_true_eq_false, not_false_eq_true] at hc)) <;> (try (exfalso; omega))) | (refine fun (hc : ¬ _) => ?_; try (simp (disch := decide) only [up_n, up_s, cp_n, rw_n, rw_s, up1_, if_true, if_false, ite_true, ite_false, reduceIte, eq_self, Int.reduceEq, true_and, and_true, not_true_eq_false, not_false_eq_true] at hc)) | (refine fun (hc : _ = _) => ?_; try (simp (disch := decide) only [up_n, up_s, cp_n, rw_n, rw_s, up1_, if_true, if_false, ite_true, ite_false, reduceIte, eq_self, Int.reduceEq, true_and, and_true, not_true_eq_false, not_false_eq_true] at hc)))
      exact h
  · rcases hww with rfl | rfl
    · rw [hstay (by rw [if_pos (by omega)]; simp)] at h
      clear hstay
      refine fr_cgo k195 [some (.inr (.inl 75)), some (.inl b), some (.inl 0), none, none, none] 0 0 [] 400 rfl rfl rfl rfl ?_
      repeat' (first | (refine And.intro (by first | omega | (simp (disch := decide) only [up_n, up_s, cp_n, rw_n, rw_s, up1_, if_true, if_false, ite_true, ite_false, reduceIte, eq_self, Int.reduceEq, true_and, and_true, not_true_eq_false, not_false_eq_true]; omega)) ?_) | (refine m_isTurned (p := p) hpx hw hb h97 ?_) | (refine And.intro (fun hc => ?_) (fun hc => ?_) <;> (try (simp (disch := decide) only [up_n, up_s, cp_n, rw_n, rw_s, up1_, if_true, if_false, ite_true, ite_false, reduceIte, eq_self, Int.reduceEq, true_and, and_true, not_true_eq_false, not_false_eq_true] at hc)) <;> (try (exfalso; omega))) | (refine fun (hc : ¬ _) => ?_; try (simp (disch := decide) only [up_n, up_s, cp_n, rw_n, rw_s, up1_, if_true, if_false, ite_true, ite_false, reduceIte, eq_self, Int.reduceEq, true_and, and_true, not_true_eq_false, not_false_eq_true] at hc)) | (refine fun (hc : _ = _) => ?_; try (simp (disch := decide) only [up_n, up_s, cp_n, rw_n, rw_s, up1_, if_true, if_false, ite_true, ite_false, reduceIte, eq_self, Int.reduceEq, true_and, and_true, not_true_eq_false, not_false_eq_true] at hc)))
      all_goals first | (exfalso; omega) | (exfalso; simp (disch := decide) only [up_n, up_s, cp_n, rw_n, rw_s, up1_, if_true, if_false, ite_true, ite_false, reduceIte, eq_self, Int.reduceEq, true_and, and_true, not_true_eq_false, not_false_eq_true] at *; omega) | skip
      all_goals (show fr_Call 194 _ sh0 _ _)
      simp (disch := decide) only [up_n, up_s, cp_n, rw_n, rw_s, up1_, if_true, if_false, ite_true, ite_false, reduceIte, eq_self, Int.reduceEq, true_and, and_true, not_true_eq_false, not_false_eq_true]
      simp (disch := decide) only [up_rw, rw_u, up_up, rw_rw, rw_cm]
      refine m_jumps hw hb h101 (by simp (disch := decide) only [up_n, up_s, cp_n, rw_n, rw_s, up1_, if_true, if_false, ite_true, ite_false, reduceIte, eq_self, Int.reduceEq, true_and, and_true, not_true_eq_false, not_false_eq_true]; omega) (by simp (disch := decide) only [up_n, up_s, cp_n, rw_n, rw_s, up1_, if_true, if_false, ite_true, ite_false, reduceIte, eq_self, Int.reduceEq, true_and, and_true, not_true_eq_false, not_false_eq_true]; omega) ?_
      repeat' (first | (refine And.intro (by first | omega | (simp (disch := decide) only [up_n, up_s, cp_n, rw_n, rw_s, up1_, if_true, if_false, ite_true, ite_false, reduceIte, eq_self, Int.reduceEq, true_and, and_true, not_true_eq_false, not_false_eq_true]; omega)) ?_) | (refine And.intro (fun hc => ?_) (fun hc => ?_) <;> (try (simp (disch := decide) only [up_n, up_s, cp_n, rw_n, rw_s, up1_, if_true, if_false, ite_true, ite_false, reduceIte, eq_self, Int.reduceEq, true_and, and_true, not_true_eq_false, not_false_eq_true] at hc)) <;> (try (exfalso; omega))) | (refine fun (hc : ¬ _) => ?_; try (simp (disch := decide) only [up_n, up_s, cp_n, rw_n, rw_s, up1_, if_true, if_false, ite_true, ite_false, reduceIte, eq_self, Int.reduceEq, true_and, and_true, not_true_eq_false, not_false_eq_true] at hc)) | (refine fun (hc : _ = _) => ?_; try (simp (disch := decide) only [up_n, up_s, cp_n, rw_n, rw_s, up1_, if_true, if_false, ite_true, ite_false, reduceIte, eq_self, Int.reduceEq, true_and, and_true, not_true_eq_false, not_false_eq_true] at hc)))
      exact h
    · have eg : tgr p b 1 g = up1 (up1 g 6 (g 6 + 1)) 4 (g 4 + 3) := by
        unfold tgr
        rw [if_pos (by rw [if_pos (by omega)])]
      rw [eg] at h
      clear hstay
      refine fr_cgo k195 [some (.inr (.inl 75)), some (.inl b), some (.inl 1), none, none, none] 0 0 [] 400 rfl rfl rfl rfl ?_
      repeat' (first | (refine And.intro (by first | omega | (simp (disch := decide) only [up_n, up_s, cp_n, rw_n, rw_s, up1_, if_true, if_false, ite_true, ite_false, reduceIte, eq_self, Int.reduceEq, true_and, and_true, not_true_eq_false, not_false_eq_true]; omega)) ?_) | (refine m_isTurned (p := p) hpx hw hb h97 ?_) | (refine And.intro (fun hc => ?_) (fun hc => ?_) <;> (try (simp (disch := decide) only [up_n, up_s, cp_n, rw_n, rw_s, up1_, if_true, if_false, ite_true, ite_false, reduceIte, eq_self, Int.reduceEq, true_and, and_true, not_true_eq_false, not_false_eq_true] at hc)) <;> (try (exfalso; omega))) | (refine fun (hc : ¬ _) => ?_; try (simp (disch := decide) only [up_n, up_s, cp_n, rw_n, rw_s, up1_, if_true, if_false, ite_true, ite_false, reduceIte, eq_self, Int.reduceEq, true_and, and_true, not_true_eq_false, not_false_eq_true] at hc)) | (refine fun (hc : _ = _) => ?_; try (simp (disch := decide) only [up_n, up_s, cp_n, rw_n, rw_s, up1_, if_true, if_false, ite_true, ite_false, reduceIte, eq_self, Int.reduceEq, true_and, and_true, not_true_eq_false, not_false_eq_true] at hc)))
      all_goals first | (exfalso; omega) | (exfalso; simp (disch := decide) only [up_n, up_s, cp_n, rw_n, rw_s, up1_, if_true, if_false, ite_true, ite_false, reduceIte, eq_self, Int.reduceEq, true_and, and_true, not_true_eq_false, not_false_eq_true] at *; omega) | skip
      show Q none sh0 _
      simp (disch := decide) only [up_n, up_s, cp_n, rw_n, rw_s, up1_, if_true, if_false, ite_true, ite_false, reduceIte, eq_self, Int.reduceEq, true_and, and_true, not_true_eq_false, not_false_eq_true]
      simp (disch := decide) only [up_rw, rw_u, up_up, rw_rw, rw_cm]
      exact h
