theorem ip_s0 {i j a : Int} : ip 0 i j a = sw i j a := by
  unfold ip
  rw [if_pos rfl]
theorem ip_s1 {i j a : Int} : ip 1 i j a = if i ≤ a ∧ a ≤ j then i + j - a else a := by
  unfold ip
  rw [if_neg (by omega), if_pos rfl]
theorem ip_s2 {i j a : Int} : ip 2 i j a = mi i j a := by
  unfold ip
  rw [if_neg (by omega), if_neg (by omega), if_pos rfl]
theorem ip_s3 {i j a : Int} : ip 3 i j a = mi j i a := by
  unfold ip
  rw [if_neg (by omega), if_neg (by omega), if_neg (by omega)]
theorem ip_back {n s i j a : Int} (h : vld n s i j) : ip s i j (ip (if s < 2 then s else 5 - s) i j a) = a := by
  obtain ⟨h1, h2, h3, h4⟩ := h
  rcases (show s = 0 ∨ s = 1 ∨ s = 2 ∨ s = 3 by omega) with rfl | rfl | rfl | rfl
  · rw [if_pos (by omega), ip_s0, ip_s0]
    unfold sw
    (repeat' split) <;> omega
  · rw [if_pos (by omega), ip_s1, ip_s1]
    (repeat' split) <;> omega
  · rw [if_neg (by omega), show (5 : Int) - 2 = 3 by omega, ip_s2, ip_s3]
    exact mi_inv
  · rw [if_neg (by omega), show (5 : Int) - 3 = 2 by omega, ip_s2, ip_s3]
    exact mi_inv
set_option maxHeartbeats 4000000 in
set_option maxRecDepth 100000 in
theorem m_tr_l {M : fr_M} {r i j : Int} {Q : Option fr_V → fr_H → fr_M → Prop} (hr : 0 ≤ r ∧ r < 6) (hi : 0 ≤ i ∧ i < j ∧ j < 9) (h : ∀ g, (∀ a, 0 ≤ a → a < 9 → g (9 * r + a) = M 78 (9 * r + if i ≤ a ∧ a ≤ j then i + j - a else a)) → (∀ x, ¬ (9 * r ≤ x ∧ x < 9 * r + 9) → g x = M 78 x) → Q none sh0 (rw_ M 78 g)) : ∀ (t : Nat) (lo hi : Int) (g : Int → Int), i ≤ lo → hi ≤ j → lo + hi = i + j → hi - lo < (t : Int) → lo ≤ hi + 1 → (∀ a, 0 ≤ a → a < 9 → g (9 * r + a) = M 78 (9 * r + if (i ≤ a ∧ a < lo) ∨ (hi < a ∧ a ≤ j) then i + j - a else a)) → (∀ x, ¬ (9 * r ≤ x ∧ x < 9 * r + 9) → g x = M 78 x) → fr_Run 163 none 4 [some (.inr (.inl 75)), some (.inl r), some (.inl i), some (.inl j), some (.inl lo), some (.inl hi)] [] sh0 (rw_ M 78 g) 0 0 Q := by
  intro t
  induction t with
  | zero =>
    intro lo hi' g q0 q1 q2 q3 q6 q4 q5
    have hh := h g (fun a a0 a1 => by
      rw [q4 a a0 a1]
      congr 2
      (repeat' split) <;> omega) q5
    clear h q4 q5
    refine fr_go k163 [4] 400 rfl ?_
    repeat' (first | (refine And.intro (by first | omega | (simp (disch := decide) only [up_n, up_s, cp_n, rw_n, rw_s, up1_, if_true, if_false, ite_true, ite_false, reduceIte, eq_self, Int.reduceEq, true_and, and_true, not_true_eq_false, not_false_eq_true]; omega)) ?_) | (refine And.intro (fun hc => ?_) (fun hc => ?_) <;> (try (simp (disch := decide) only [up_n, up_s, cp_n, rw_n, rw_s, up1_, if_true, if_false, ite_true, ite_false, reduceIte, eq_self, Int.reduceEq, true_and, and_true, not_true_eq_false, not_false_eq_true] at hc)) <;> (try (exfalso; omega))) | (refine fun (hc : ¬ _) => ?_; try (simp (disch := decide) only [up_n, up_s, cp_n, rw_n, rw_s, up1_, if_true, if_false, ite_true, ite_false, reduceIte, eq_self, Int.reduceEq, true_and, and_true, not_true_eq_false, not_false_eq_true] at hc)) | (refine fun (hc : _ = _) => ?_; try (simp (disch := decide) only [up_n, up_s, cp_n, rw_n, rw_s, up1_, if_true, if_false, ite_true, ite_false, reduceIte, eq_self, Int.reduceEq, true_and, and_true, not_true_eq_false, not_false_eq_true] at hc)))
    all_goals first | (exfalso; omega) | exact hh
  | succ t ih =>
    intro lo hi' g q0 q1 q2 q3 q6 q4 q5
    by_cases e : lo < hi'
    · have hh := ih (lo + 1) (hi' + -1) (swf g (9 * r) lo hi') (by omega) (by omega) (by omega) (by omega) (by omega) (fun a a0 a1 => by
        rw [swf_at]
        have hs : 0 ≤ sw lo hi' a ∧ sw lo hi' a < 9 := by
          unfold sw
          (repeat' split) <;> omega
        rw [q4 _ hs.1 hs.2]
        unfold sw
        congr 2
        (repeat' split) <;> omega) (fun x hx => by
        unfold swf
        rw [up1_, if_neg (by omega), up1_, if_neg (by omega)]
        exact q5 x hx)
      clear ih h q4 q5
      refine fr_go k163 [4] 400 rfl ?_
      repeat' (first | (refine And.intro (by first | omega | (simp (disch := decide) only [up_n, up_s, cp_n, rw_n, rw_s, up1_, if_true, if_false, ite_true, ite_false, reduceIte, eq_self, Int.reduceEq, true_and, and_true, not_true_eq_false, not_false_eq_true]; omega)) ?_) | (refine And.intro (fun hc => ?_) (fun hc => ?_) <;> (try (simp (disch := decide) only [up_n, up_s, cp_n, rw_n, rw_s, up1_, if_true, if_false, ite_true, ite_false, reduceIte, eq_self, Int.reduceEq, true_and, and_true, not_true_eq_false, not_false_eq_true] at hc)) <;> (try (exfalso; omega))) | (refine fun (hc : ¬ _) => ?_; try (simp (disch := decide) only [up_n, up_s, cp_n, rw_n, rw_s, up1_, if_true, if_false, ite_true, ite_false, reduceIte, eq_self, Int.reduceEq, true_and, and_true, not_true_eq_false, not_false_eq_true] at hc)) | (refine fun (hc : _ = _) => ?_; try (simp (disch := decide) only [up_n, up_s, cp_n, rw_n, rw_s, up1_, if_true, if_false, ite_true, ite_false, reduceIte, eq_self, Int.reduceEq, true_and, and_true, not_true_eq_false, not_false_eq_true] at hc)))
      all_goals first | (exfalso; omega) | skip
      refine m_changes hr (by omega) (by omega) ?_
      repeat' (first | (refine And.intro (by first | omega | (simp (disch := decide) only [up_n, up_s, cp_n, rw_n, rw_s, up1_, if_true, if_false, ite_true, ite_false, reduceIte, eq_self, Int.reduceEq, true_and, and_true, not_true_eq_false, not_false_eq_true]; omega)) ?_) | (refine And.intro (fun hc => ?_) (fun hc => ?_) <;> (try (simp (disch := decide) only [up_n, up_s, cp_n, rw_n, rw_s, up1_, if_true, if_false, ite_true, ite_false, reduceIte, eq_self, Int.reduceEq, true_and, and_true, not_true_eq_false, not_false_eq_true] at hc)) <;> (try (exfalso; omega))) | (refine fun (hc : ¬ _) => ?_; try (simp (disch := decide) only [up_n, up_s, cp_n, rw_n, rw_s, up1_, if_true, if_false, ite_true, ite_false, reduceIte, eq_self, Int.reduceEq, true_and, and_true, not_true_eq_false, not_false_eq_true] at hc)) | (refine fun (hc : _ = _) => ?_; try (simp (disch := decide) only [up_n, up_s, cp_n, rw_n, rw_s, up1_, if_true, if_false, ite_true, ite_false, reduceIte, eq_self, Int.reduceEq, true_and, and_true, not_true_eq_false, not_false_eq_true] at hc)))
      simp (disch := decide) only [up_rw, rw_u, up_up, rw_rw, rw_cm]
      exact hh
    · have hh := h g (fun a a0 a1 => by
        rw [q4 a a0 a1]
        congr 2
        (repeat' split) <;> omega) q5
      clear ih h q4 q5
      refine fr_go k163 [4] 400 rfl ?_
      repeat' (first | (refine And.intro (by first | omega | (simp (disch := decide) only [up_n, up_s, cp_n, rw_n, rw_s, up1_, if_true, if_false, ite_true, ite_false, reduceIte, eq_self, Int.reduceEq, true_and, and_true, not_true_eq_false, not_false_eq_true]; omega)) ?_) | (refine And.intro (fun hc => ?_) (fun hc => ?_) <;> (try (simp (disch := decide) only [up_n, up_s, cp_n, rw_n, rw_s, up1_, if_true, if_false, ite_true, ite_false, reduceIte, eq_self, Int.reduceEq, true_and, and_true, not_true_eq_false, not_false_eq_true] at hc)) <;> (try (exfalso; omega))) | (refine fun (hc : ¬ _) => ?_; try (simp (disch := decide) only [up_n, up_s, cp_n, rw_n, rw_s, up1_, if_true, if_false, ite_true, ite_false, reduceIte, eq_self, Int.reduceEq, true_and, and_true, not_true_eq_false, not_false_eq_true] at hc)) | (refine fun (hc : _ = _) => ?_; try (simp (disch := decide) only [up_n, up_s, cp_n, rw_n, rw_s, up1_, if_true, if_false, ite_true, ite_false, reduceIte, eq_self, Int.reduceEq, true_and, and_true, not_true_eq_false, not_false_eq_true] at hc)))
      all_goals first | (exfalso; omega) | exact hh
set_option maxHeartbeats 4000000 in
set_option maxRecDepth 100000 in
theorem m_turnsRound {M : fr_M} {r i j : Int} {Q : Option fr_V → fr_H → fr_M → Prop} (hr : 0 ≤ r ∧ r < 6) (hi : 0 ≤ i ∧ i < j ∧ j < 9) (h : ∀ g, (∀ a, 0 ≤ a → a < 9 → g (9 * r + a) = M 78 (9 * r + if i ≤ a ∧ a ≤ j then i + j - a else a)) → (∀ x, ¬ (9 * r ≤ x ∧ x < 9 * r + 9) → g x = M 78 x) → Q none sh0 (rw_ M 78 g)) : fr_Call 163 [.inr (.inl 75), .inl r, .inl i, .inl j] sh0 M Q := by
  refine fr_cgo k163 [some (.inr (.inl 75)), some (.inl r), some (.inl i), some (.inl j), none, none] 0 0 [4] 400 rfl rfl rfl rfl ?_
  repeat' (first | (refine And.intro (by first | omega | (simp (disch := decide) only [up_n, up_s, cp_n, rw_n, rw_s, up1_, if_true, if_false, ite_true, ite_false, reduceIte, eq_self, Int.reduceEq, true_and, and_true, not_true_eq_false, not_false_eq_true]; omega)) ?_) | (refine And.intro (fun hc => ?_) (fun hc => ?_) <;> (try (simp (disch := decide) only [up_n, up_s, cp_n, rw_n, rw_s, up1_, if_true, if_false, ite_true, ite_false, reduceIte, eq_self, Int.reduceEq, true_and, and_true, not_true_eq_false, not_false_eq_true] at hc)) <;> (try (exfalso; omega))) | (refine fun (hc : ¬ _) => ?_; try (simp (disch := decide) only [up_n, up_s, cp_n, rw_n, rw_s, up1_, if_true, if_false, ite_true, ite_false, reduceIte, eq_self, Int.reduceEq, true_and, and_true, not_true_eq_false, not_false_eq_true] at hc)) | (refine fun (hc : _ = _) => ?_; try (simp (disch := decide) only [up_n, up_s, cp_n, rw_n, rw_s, up1_, if_true, if_false, ite_true, ite_false, reduceIte, eq_self, Int.reduceEq, true_and, and_true, not_true_eq_false, not_false_eq_true] at hc)))
  refine q_run (m_tr_l (M := M) hr hi h 10 i j (M 78) (by omega) (by omega) (by omega) (by omega) (by omega) (fun a a0 a1 => ?_) (fun x hx => rfl)) rw_id
  rw [if_neg (by omega)]
set_option maxHeartbeats 4000000 in
set_option maxRecDepth 100000 in
theorem m_tries {M : fr_M} {r n s i j : Int} {Q : Option fr_V → fr_H → fr_M → Prop} (hr : 0 ≤ r ∧ r < 6) (hn : n ≤ 9) (hv : vld n s i j) (h : ∀ g, (∀ a, 0 ≤ a → a < 9 → g (9 * r + a) = M 78 (9 * r + ip s i j a)) → (∀ x, ¬ (9 * r ≤ x ∧ x < 9 * r + 9) → g x = M 78 x) → Q none sh0 (rw_ M 78 g)) : fr_Call 164 [.inr (.inl 75), .inl r, .inl s, .inl i, .inl j] sh0 M Q := by
  obtain ⟨h1, h2, h3, h4⟩ := hv
  rcases (show s = 0 ∨ s = 1 ∨ s = 2 ∨ s = 3 by omega) with rfl | rfl | rfl | rfl
  · have hh := h (swf (M 78) (9 * r) i j) (fun a a0 a1 => by rw [ip_s0]; exact swf_at) (fun x hx => by
      unfold swf
      rw [up1_, if_neg (by omega), up1_, if_neg (by omega)])
    clear h
    refine fr_cgo k164 [some (.inr (.inl 75)), some (.inl r), some (.inl 0), some (.inl i), some (.inl j)] 0 0 [] 400 rfl rfl rfl rfl ?_
    repeat' (first | (refine And.intro (by first | omega | (simp (disch := decide) only [up_n, up_s, cp_n, rw_n, rw_s, up1_, if_true, if_false, ite_true, ite_false, reduceIte, eq_self, Int.reduceEq, true_and, and_true, not_true_eq_false, not_false_eq_true]; omega)) ?_) | (refine m_changes hr (by omega) (by omega) ?_) | (refine And.intro (fun hc => ?_) (fun hc => ?_) <;> (try (simp (disch := decide) only [up_n, up_s, cp_n, rw_n, rw_s, up1_, if_true, if_false, ite_true, ite_false, reduceIte, eq_self, Int.reduceEq, true_and, and_true, not_true_eq_false, not_false_eq_true] at hc)) <;> (try (exfalso; omega))) | (refine fun (hc : ¬ _) => ?_; try (simp (disch := decide) only [up_n, up_s, cp_n, rw_n, rw_s, up1_, if_true, if_false, ite_true, ite_false, reduceIte, eq_self, Int.reduceEq, true_and, and_true, not_true_eq_false, not_false_eq_true] at hc)) | (refine fun (hc : _ = _) => ?_; try (simp (disch := decide) only [up_n, up_s, cp_n, rw_n, rw_s, up1_, if_true, if_false, ite_true, ite_false, reduceIte, eq_self, Int.reduceEq, true_and, and_true, not_true_eq_false, not_false_eq_true] at hc)))
    all_goals first | (exfalso; omega) | exact hh
  · refine fr_cgo k164 [some (.inr (.inl 75)), some (.inl r), some (.inl 1), some (.inl i), some (.inl j)] 0 0 [] 400 rfl rfl rfl rfl ?_
    repeat' (first | (refine And.intro (by first | omega | (simp (disch := decide) only [up_n, up_s, cp_n, rw_n, rw_s, up1_, if_true, if_false, ite_true, ite_false, reduceIte, eq_self, Int.reduceEq, true_and, and_true, not_true_eq_false, not_false_eq_true]; omega)) ?_) | (refine And.intro (fun hc => ?_) (fun hc => ?_) <;> (try (simp (disch := decide) only [up_n, up_s, cp_n, rw_n, rw_s, up1_, if_true, if_false, ite_true, ite_false, reduceIte, eq_self, Int.reduceEq, true_and, and_true, not_true_eq_false, not_false_eq_true] at hc)) <;> (try (exfalso; omega))) | (refine fun (hc : ¬ _) => ?_; try (simp (disch := decide) only [up_n, up_s, cp_n, rw_n, rw_s, up1_, if_true, if_false, ite_true, ite_false, reduceIte, eq_self, Int.reduceEq, true_and, and_true, not_true_eq_false, not_false_eq_true] at hc)) | (refine fun (hc : _ = _) => ?_; try (simp (disch := decide) only [up_n, up_s, cp_n, rw_n, rw_s, up1_, if_true, if_false, ite_true, ite_false, reduceIte, eq_self, Int.reduceEq, true_and, and_true, not_true_eq_false, not_false_eq_true] at hc)))
    all_goals first | (exfalso; omega) | skip
    refine m_turnsRound hr (by omega) (fun g a b => ?_)
    have hh := h g (fun x x0 x1 => by rw [ip_s1]; exact a x x0 x1) b
    repeat' (first | (refine And.intro (by first | omega | (simp (disch := decide) only [up_n, up_s, cp_n, rw_n, rw_s, up1_, if_true, if_false, ite_true, ite_false, reduceIte, eq_self, Int.reduceEq, true_and, and_true, not_true_eq_false, not_false_eq_true]; omega)) ?_) | (refine And.intro (fun hc => ?_) (fun hc => ?_) <;> (try (simp (disch := decide) only [up_n, up_s, cp_n, rw_n, rw_s, up1_, if_true, if_false, ite_true, ite_false, reduceIte, eq_self, Int.reduceEq, true_and, and_true, not_true_eq_false, not_false_eq_true] at hc)) <;> (try (exfalso; omega))) | (refine fun (hc : ¬ _) => ?_; try (simp (disch := decide) only [up_n, up_s, cp_n, rw_n, rw_s, up1_, if_true, if_false, ite_true, ite_false, reduceIte, eq_self, Int.reduceEq, true_and, and_true, not_true_eq_false, not_false_eq_true] at hc)) | (refine fun (hc : _ = _) => ?_; try (simp (disch := decide) only [up_n, up_s, cp_n, rw_n, rw_s, up1_, if_true, if_false, ite_true, ite_false, reduceIte, eq_self, Int.reduceEq, true_and, and_true, not_true_eq_false, not_false_eq_true] at hc)))
    exact hh
  · have hh := h (mvf (M 78) (9 * r) i j) (fun a a0 a1 => by rw [ip_s2]; exact mvf_at) (fun x hx => mvf_out (by omega) (by omega) hx)
    clear h
    refine fr_cgo k164 [some (.inr (.inl 75)), some (.inl r), some (.inl 2), some (.inl i), some (.inl j)] 0 0 [] 400 rfl rfl rfl rfl ?_
    repeat' (first | (refine And.intro (by first | omega | (simp (disch := decide) only [up_n, up_s, cp_n, rw_n, rw_s, up1_, if_true, if_false, ite_true, ite_false, reduceIte, eq_self, Int.reduceEq, true_and, and_true, not_true_eq_false, not_false_eq_true]; omega)) ?_) | (refine m_shifts hr (by omega) (by omega) ?_) | (refine And.intro (fun hc => ?_) (fun hc => ?_) <;> (try (simp (disch := decide) only [up_n, up_s, cp_n, rw_n, rw_s, up1_, if_true, if_false, ite_true, ite_false, reduceIte, eq_self, Int.reduceEq, true_and, and_true, not_true_eq_false, not_false_eq_true] at hc)) <;> (try (exfalso; omega))) | (refine fun (hc : ¬ _) => ?_; try (simp (disch := decide) only [up_n, up_s, cp_n, rw_n, rw_s, up1_, if_true, if_false, ite_true, ite_false, reduceIte, eq_self, Int.reduceEq, true_and, and_true, not_true_eq_false, not_false_eq_true] at hc)) | (refine fun (hc : _ = _) => ?_; try (simp (disch := decide) only [up_n, up_s, cp_n, rw_n, rw_s, up1_, if_true, if_false, ite_true, ite_false, reduceIte, eq_self, Int.reduceEq, true_and, and_true, not_true_eq_false, not_false_eq_true] at hc)))
    all_goals first | (exfalso; omega) | exact hh
  · have hh := h (mvf (M 78) (9 * r) j i) (fun a a0 a1 => by rw [ip_s3]; exact mvf_at) (fun x hx => mvf_out (by omega) (by omega) hx)
    clear h
    refine fr_cgo k164 [some (.inr (.inl 75)), some (.inl r), some (.inl 3), some (.inl i), some (.inl j)] 0 0 [] 400 rfl rfl rfl rfl ?_
    repeat' (first | (refine And.intro (by first | omega | (simp (disch := decide) only [up_n, up_s, cp_n, rw_n, rw_s, up1_, if_true, if_false, ite_true, ite_false, reduceIte, eq_self, Int.reduceEq, true_and, and_true, not_true_eq_false, not_false_eq_true]; omega)) ?_) | (refine m_shifts hr (by omega) (by omega) ?_) | (refine And.intro (fun hc => ?_) (fun hc => ?_) <;> (try (simp (disch := decide) only [up_n, up_s, cp_n, rw_n, rw_s, up1_, if_true, if_false, ite_true, ite_false, reduceIte, eq_self, Int.reduceEq, true_and, and_true, not_true_eq_false, not_false_eq_true] at hc)) <;> (try (exfalso; omega))) | (refine fun (hc : ¬ _) => ?_; try (simp (disch := decide) only [up_n, up_s, cp_n, rw_n, rw_s, up1_, if_true, if_false, ite_true, ite_false, reduceIte, eq_self, Int.reduceEq, true_and, and_true, not_true_eq_false, not_false_eq_true] at hc)) | (refine fun (hc : _ = _) => ?_; try (simp (disch := decide) only [up_n, up_s, cp_n, rw_n, rw_s, up1_, if_true, if_false, ite_true, ite_false, reduceIte, eq_self, Int.reduceEq, true_and, and_true, not_true_eq_false, not_false_eq_true] at hc)))
    all_goals first | (exfalso; omega) | exact hh
set_option maxHeartbeats 4000000 in
set_option maxRecDepth 100000 in
theorem m_takesBack {M : fr_M} {r n s i j : Int} {Q : Option fr_V → fr_H → fr_M → Prop} (hr : 0 ≤ r ∧ r < 6) (hn : n ≤ 9) (hv : vld n s i j) (h : ∀ g, (∀ a, 0 ≤ a → a < 9 → g (9 * r + a) = M 78 (9 * r + ip (if s < 2 then s else 5 - s) i j a)) → (∀ x, ¬ (9 * r ≤ x ∧ x < 9 * r + 9) → g x = M 78 x) → Q none sh0 (rw_ M 78 g)) : fr_Call 165 [.inr (.inl 75), .inl r, .inl s, .inl i, .inl j] sh0 M Q := by
  obtain ⟨h1, h2, h3, h4⟩ := hv
  by_cases e : s < 2
  · rw [if_pos e] at h
    have hh := fun g a b => h g a b
    clear h
    refine fr_cgo k165 [some (.inr (.inl 75)), some (.inl r), some (.inl s), some (.inl i), some (.inl j)] 0 0 [] 400 rfl rfl rfl rfl ?_
    repeat' (first | (refine And.intro (by first | omega | (simp (disch := decide) only [up_n, up_s, cp_n, rw_n, rw_s, up1_, if_true, if_false, ite_true, ite_false, reduceIte, eq_self, Int.reduceEq, true_and, and_true, not_true_eq_false, not_false_eq_true]; omega)) ?_) | (refine And.intro (fun hc => ?_) (fun hc => ?_) <;> (try (simp (disch := decide) only [up_n, up_s, cp_n, rw_n, rw_s, up1_, if_true, if_false, ite_true, ite_false, reduceIte, eq_self, Int.reduceEq, true_and, and_true, not_true_eq_false, not_false_eq_true] at hc)) <;> (try (exfalso; omega))) | (refine fun (hc : ¬ _) => ?_; try (simp (disch := decide) only [up_n, up_s, cp_n, rw_n, rw_s, up1_, if_true, if_false, ite_true, ite_false, reduceIte, eq_self, Int.reduceEq, true_and, and_true, not_true_eq_false, not_false_eq_true] at hc)) | (refine fun (hc : _ = _) => ?_; try (simp (disch := decide) only [up_n, up_s, cp_n, rw_n, rw_s, up1_, if_true, if_false, ite_true, ite_false, reduceIte, eq_self, Int.reduceEq, true_and, and_true, not_true_eq_false, not_false_eq_true] at hc)))
    all_goals first | (exfalso; omega) | skip
    refine m_tries (n := n) hr hn ⟨h1, h2, h3, h4⟩ (fun g a b => ?_)
    have hh := hh g a b
    repeat' (first | (refine And.intro (by first | omega | (simp (disch := decide) only [up_n, up_s, cp_n, rw_n, rw_s, up1_, if_true, if_false, ite_true, ite_false, reduceIte, eq_self, Int.reduceEq, true_and, and_true, not_true_eq_false, not_false_eq_true]; omega)) ?_) | (refine And.intro (fun hc => ?_) (fun hc => ?_) <;> (try (simp (disch := decide) only [up_n, up_s, cp_n, rw_n, rw_s, up1_, if_true, if_false, ite_true, ite_false, reduceIte, eq_self, Int.reduceEq, true_and, and_true, not_true_eq_false, not_false_eq_true] at hc)) <;> (try (exfalso; omega))) | (refine fun (hc : ¬ _) => ?_; try (simp (disch := decide) only [up_n, up_s, cp_n, rw_n, rw_s, up1_, if_true, if_false, ite_true, ite_false, reduceIte, eq_self, Int.reduceEq, true_and, and_true, not_true_eq_false, not_false_eq_true] at hc)) | (refine fun (hc : _ = _) => ?_; try (simp (disch := decide) only [up_n, up_s, cp_n, rw_n, rw_s, up1_, if_true, if_false, ite_true, ite_false, reduceIte, eq_self, Int.reduceEq, true_and, and_true, not_true_eq_false, not_false_eq_true] at hc)))
    exact hh
  · rw [if_neg e] at h
    have hh := fun g a b => h g a b
    clear h
    refine fr_cgo k165 [some (.inr (.inl 75)), some (.inl r), some (.inl s), some (.inl i), some (.inl j)] 0 0 [] 400 rfl rfl rfl rfl ?_
    repeat' (first | (refine And.intro (by first | omega | (simp (disch := decide) only [up_n, up_s, cp_n, rw_n, rw_s, up1_, if_true, if_false, ite_true, ite_false, reduceIte, eq_self, Int.reduceEq, true_and, and_true, not_true_eq_false, not_false_eq_true]; omega)) ?_) | (refine And.intro (fun hc => ?_) (fun hc => ?_) <;> (try (simp (disch := decide) only [up_n, up_s, cp_n, rw_n, rw_s, up1_, if_true, if_false, ite_true, ite_false, reduceIte, eq_self, Int.reduceEq, true_and, and_true, not_true_eq_false, not_false_eq_true] at hc)) <;> (try (exfalso; omega))) | (refine fun (hc : ¬ _) => ?_; try (simp (disch := decide) only [up_n, up_s, cp_n, rw_n, rw_s, up1_, if_true, if_false, ite_true, ite_false, reduceIte, eq_self, Int.reduceEq, true_and, and_true, not_true_eq_false, not_false_eq_true] at hc)) | (refine fun (hc : _ = _) => ?_; try (simp (disch := decide) only [up_n, up_s, cp_n, rw_n, rw_s, up1_, if_true, if_false, ite_true, ite_false, reduceIte, eq_self, Int.reduceEq, true_and, and_true, not_true_eq_false, not_false_eq_true] at hc)))
    all_goals first | (exfalso; omega) | skip
    refine m_tries (n := n) hr hn ⟨by omega, h2, h3, h4⟩ (fun g a b => ?_)
    have hh := hh g a b
    repeat' (first | (refine And.intro (by first | omega | (simp (disch := decide) only [up_n, up_s, cp_n, rw_n, rw_s, up1_, if_true, if_false, ite_true, ite_false, reduceIte, eq_self, Int.reduceEq, true_and, and_true, not_true_eq_false, not_false_eq_true]; omega)) ?_) | (refine And.intro (fun hc => ?_) (fun hc => ?_) <;> (try (simp (disch := decide) only [up_n, up_s, cp_n, rw_n, rw_s, up1_, if_true, if_false, ite_true, ite_false, reduceIte, eq_self, Int.reduceEq, true_and, and_true, not_true_eq_false, not_false_eq_true] at hc)) <;> (try (exfalso; omega))) | (refine fun (hc : ¬ _) => ?_; try (simp (disch := decide) only [up_n, up_s, cp_n, rw_n, rw_s, up1_, if_true, if_false, ite_true, ite_false, reduceIte, eq_self, Int.reduceEq, true_and, and_true, not_true_eq_false, not_false_eq_true] at hc)) | (refine fun (hc : _ = _) => ?_; try (simp (disch := decide) only [up_n, up_s, cp_n, rw_n, rw_s, up1_, if_true, if_false, ite_true, ite_false, reduceIte, eq_self, Int.reduceEq, true_and, and_true, not_true_eq_false, not_false_eq_true] at hc)))
    exact hh
set_option maxHeartbeats 4000000 in
set_option maxRecDepth 100000 in
theorem m_go3 {M : fr_M} {r n s i : Int} {rk : Int → Int} {Q : Option fr_V → fr_H → fr_M → Prop} (hR : RC M r n) (hk : ∀ a, 0 ≤ a → a < n → 0 ≤ rk a ∧ rk a < n) (hs : 0 ≤ s ∧ s ≤ 3) (hi : 1 ≤ i ∧ i < n) (h1 : ∀ s i j g, FI (cf M r) n rk s i j → (∀ a, 0 ≤ a → a < n → g (9 * r + a) = M 77 (9 * r + trf s i j rk a)) → (∀ x, ¬ (9 * r ≤ x ∧ x < 9 * r + 9) → g x = M 78 x) → Q (some (.inl 1)) sh0 (rw_ M 78 g)) (h : ∀ g, BF (cf M r) n rk s (i + 1) (i + 2) → (∀ a, 0 ≤ a → a < n → g (9 * r + a) = M 77 (9 * r + rk a)) → (∀ x, ¬ (9 * r ≤ x ∧ x < 9 * r + 9) → g x = M 78 x) → fr_Run 166 none 11 [some (.inr (.inl 75)), some (.inl r), some (.inl (ws (cf M r) n rk n.toNat)), some (.inl s), some (.inl (i + 1)), some (.inl n)] [] sh0 (rw_ M 78 g) 0 0 Q) : ∀ (t : Nat) (j : Int) (g : Int → Int), i < j → j + t = n → BF (cf M r) n rk s i j → (∀ a, 0 ≤ a → a < n → g (9 * r + a) = M 77 (9 * r + rk a)) → (∀ x, ¬ (9 * r ≤ x ∧ x < 9 * r + 9) → g x = M 78 x) → fr_Run 166 none 21 [some (.inr (.inl 75)), some (.inl r), some (.inl (ws (cf M r) n rk n.toNat)), some (.inl s), some (.inl i), some (.inl j)] [] sh0 (rw_ M 78 g) 0 0 Q := by
  have hr := hR.1
  have hm := hR.2.1
  have hn9 := hR.2.2.1
  intro t
  induction t with
  | zero =>
    intro j g q0 q1 q2 q3 q4
    have e : j = n := by omega
    have hh := h g (fun s' i' j' hv hlt => q2 s' i' j' hv (by omega)) q3 q4
    clear h h1 q3 q4
    rw [e]
    refine fr_go k166 [11, 21] 400 rfl ?_
    repeat' (first | (refine And.intro (by first | omega | (simp (disch := decide) only [up_n, up_s, cp_n, rw_n, rw_s, up1_, if_true, if_false, ite_true, ite_false, reduceIte, eq_self, Int.reduceEq, true_and, and_true, not_true_eq_false, not_false_eq_true]; omega)) ?_) | (refine And.intro (fun hc => ?_) (fun hc => ?_) <;> (try (simp (disch := decide) only [up_n, up_s, cp_n, rw_n, rw_s, up1_, if_true, if_false, ite_true, ite_false, reduceIte, eq_self, Int.reduceEq, true_and, and_true, not_true_eq_false, not_false_eq_true] at hc)) <;> (try (exfalso; omega))) | (refine fun (hc : ¬ _) => ?_; try (simp (disch := decide) only [up_n, up_s, cp_n, rw_n, rw_s, up1_, if_true, if_false, ite_true, ite_false, reduceIte, eq_self, Int.reduceEq, true_and, and_true, not_true_eq_false, not_false_eq_true] at hc)) | (refine fun (hc : _ = _) => ?_; try (simp (disch := decide) only [up_n, up_s, cp_n, rw_n, rw_s, up1_, if_true, if_false, ite_true, ite_false, reduceIte, eq_self, Int.reduceEq, true_and, and_true, not_true_eq_false, not_false_eq_true] at hc)))
    all_goals first | (exfalso; omega) | (exfalso; simp (disch := decide) only [up_n, up_s, cp_n, rw_n, rw_s, up1_, if_true, if_false, ite_true, ite_false, reduceIte, eq_self, Int.reduceEq, true_and, and_true, not_true_eq_false, not_false_eq_true] at *; omega) | exact hh
  | succ t ih =>
    intro j g q0 q1 q2 q3 q4
    have hv : vld n s i j := ⟨hs, hi.1, q0, by omega⟩
    refine fr_go k166 [11, 21] 400 rfl ?_
    repeat' (first | (refine And.intro (by first | omega | (simp (disch := decide) only [up_n, up_s, cp_n, rw_n, rw_s, up1_, if_true, if_false, ite_true, ite_false, reduceIte, eq_self, Int.reduceEq, true_and, and_true, not_true_eq_false, not_false_eq_true]; omega)) ?_) | (refine And.intro (fun hc => ?_) (fun hc => ?_) <;> (try (simp (disch := decide) only [up_n, up_s, cp_n, rw_n, rw_s, up1_, if_true, if_false, ite_true, ite_false, reduceIte, eq_self, Int.reduceEq, true_and, and_true, not_true_eq_false, not_false_eq_true] at hc)) <;> (try (exfalso; omega))) | (refine fun (hc : ¬ _) => ?_; try (simp (disch := decide) only [up_n, up_s, cp_n, rw_n, rw_s, up1_, if_true, if_false, ite_true, ite_false, reduceIte, eq_self, Int.reduceEq, true_and, and_true, not_true_eq_false, not_false_eq_true] at hc)) | (refine fun (hc : _ = _) => ?_; try (simp (disch := decide) only [up_n, up_s, cp_n, rw_n, rw_s, up1_, if_true, if_false, ite_true, ite_false, reduceIte, eq_self, Int.reduceEq, true_and, and_true, not_true_eq_false, not_false_eq_true] at hc)))
    all_goals first | (exfalso; omega) | (exfalso; simp (disch := decide) only [up_n, up_s, cp_n, rw_n, rw_s, up1_, if_true, if_false, ite_true, ite_false, reduceIte, eq_self, Int.reduceEq, true_and, and_true, not_true_eq_false, not_false_eq_true] at *; omega) | skip
    refine m_tries (n := n) hr hn9.2 hv (fun g' a1 a2 => ?_)
    replace a1 : ∀ a, 0 ≤ a → a < 9 → g' (9 * r + a) = g (9 * r + ip s i j a) := a1
    replace a2 : ∀ x, ¬ (9 * r ≤ x ∧ x < 9 * r + 9) → g' x = g x := a2
    have hg' : ∀ a, 0 ≤ a → a < n → g' (9 * r + a) = M 77 (9 * r + trf s i j rk a) ∧ 0 ≤ trf s i j rk a ∧ trf s i j rk a < n := fun a a0 b1 => by
      have x := ip_rng hv ⟨a0, b1⟩
      rw [a1 a a0 (by omega), q3 _ x.1 x.2]
      exact ⟨rfl, hk _ x.1 x.2⟩
    simp (disch := decide) only [up_rw, rw_u, up_up, rw_rw, rw_cm]
    repeat' (first | (refine And.intro (by first | omega | (simp (disch := decide) only [up_n, up_s, cp_n, rw_n, rw_s, up1_, if_true, if_false, ite_true, ite_false, reduceIte, eq_self, Int.reduceEq, true_and, and_true, not_true_eq_false, not_false_eq_true]; omega)) ?_) | (refine And.intro (fun hc => ?_) (fun hc => ?_) <;> (try (simp (disch := decide) only [up_n, up_s, cp_n, rw_n, rw_s, up1_, if_true, if_false, ite_true, ite_false, reduceIte, eq_self, Int.reduceEq, true_and, and_true, not_true_eq_false, not_false_eq_true] at hc)) <;> (try (exfalso; omega))) | (refine fun (hc : ¬ _) => ?_; try (simp (disch := decide) only [up_n, up_s, cp_n, rw_n, rw_s, up1_, if_true, if_false, ite_true, ite_false, reduceIte, eq_self, Int.reduceEq, true_and, and_true, not_true_eq_false, not_false_eq_true] at hc)) | (refine fun (hc : _ = _) => ?_; try (simp (disch := decide) only [up_n, up_s, cp_n, rw_n, rw_s, up1_, if_true, if_false, ite_true, ite_false, reduceIte, eq_self, Int.reduceEq, true_and, and_true, not_true_eq_false, not_false_eq_true] at hc)))
    refine m_weightOf (M := rw_ M 78 g') (n := n) (rk := trf s i j rk) (hR.cg (fun k i hk => rw_n (by omega))) hg' ?_
    rw [show cf (rw_ M 78 g') r = cf M r from rfl]
    by_cases hg : ws (cf M r) n (trf s i j rk) n.toNat < ws (cf M r) n rk n.toNat
    · have hh := h1 s i j g' ⟨hv, hg, q2⟩ (fun a a0 b1 => (hg' a a0 b1).1) (fun x hx => (a2 x hx).trans (q4 x hx))
      clear ih h h1 hk q2 q3 q4 hg' a1 a2
      generalize ws (cf M r) n (trf s i j rk) n.toNat = w1 at *
      generalize ws (cf M r) n rk n.toNat = w0 at *
      repeat' (first | (refine And.intro (by first | omega | (simp (disch := decide) only [up_n, up_s, cp_n, rw_n, rw_s, up1_, if_true, if_false, ite_true, ite_false, reduceIte, eq_self, Int.reduceEq, true_and, and_true, not_true_eq_false, not_false_eq_true]; omega)) ?_) | (refine And.intro (fun hc => ?_) (fun hc => ?_) <;> (try (simp (disch := decide) only [up_n, up_s, cp_n, rw_n, rw_s, up1_, if_true, if_false, ite_true, ite_false, reduceIte, eq_self, Int.reduceEq, true_and, and_true, not_true_eq_false, not_false_eq_true] at hc)) <;> (try (exfalso; omega))) | (refine fun (hc : ¬ _) => ?_; try (simp (disch := decide) only [up_n, up_s, cp_n, rw_n, rw_s, up1_, if_true, if_false, ite_true, ite_false, reduceIte, eq_self, Int.reduceEq, true_and, and_true, not_true_eq_false, not_false_eq_true] at hc)) | (refine fun (hc : _ = _) => ?_; try (simp (disch := decide) only [up_n, up_s, cp_n, rw_n, rw_s, up1_, if_true, if_false, ite_true, ite_false, reduceIte, eq_self, Int.reduceEq, true_and, and_true, not_true_eq_false, not_false_eq_true] at hc)))
      all_goals first | (exfalso; omega) | exact hh
    · have hh := fun g'' => ih (j + 1) g'' (by omega) (by omega) (fun s' i' j' hv' hlt => by
        by_cases e : s' = s ∧ i' = i ∧ j' = j
        · obtain ⟨rfl, rfl, rfl⟩ := e
          exact hg
        · exact q2 s' i' j' hv' (by omega))
      clear ih h h1 hk q2 hg'
      generalize ws (cf M r) n (trf s i j rk) n.toNat = w1 at *
      generalize ws (cf M r) n rk n.toNat = w0 at *
      repeat' (first | (refine And.intro (by first | omega | (simp (disch := decide) only [up_n, up_s, cp_n, rw_n, rw_s, up1_, if_true, if_false, ite_true, ite_false, reduceIte, eq_self, Int.reduceEq, true_and, and_true, not_true_eq_false, not_false_eq_true]; omega)) ?_) | (refine And.intro (fun hc => ?_) (fun hc => ?_) <;> (try (simp (disch := decide) only [up_n, up_s, cp_n, rw_n, rw_s, up1_, if_true, if_false, ite_true, ite_false, reduceIte, eq_self, Int.reduceEq, true_and, and_true, not_true_eq_false, not_false_eq_true] at hc)) <;> (try (exfalso; omega))) | (refine fun (hc : ¬ _) => ?_; try (simp (disch := decide) only [up_n, up_s, cp_n, rw_n, rw_s, up1_, if_true, if_false, ite_true, ite_false, reduceIte, eq_self, Int.reduceEq, true_and, and_true, not_true_eq_false, not_false_eq_true] at hc)) | (refine fun (hc : _ = _) => ?_; try (simp (disch := decide) only [up_n, up_s, cp_n, rw_n, rw_s, up1_, if_true, if_false, ite_true, ite_false, reduceIte, eq_self, Int.reduceEq, true_and, and_true, not_true_eq_false, not_false_eq_true] at hc)))
      all_goals first | (exfalso; omega) | skip
      refine m_takesBack (n := n) hr hn9.2 hv (fun g'' c1 c2 => ?_)
      replace c1 : ∀ a, 0 ≤ a → a < 9 → g'' (9 * r + a) = g' (9 * r + ip (if s < 2 then s else 5 - s) i j a) := c1
      replace c2 : ∀ x, ¬ (9 * r ≤ x ∧ x < 9 * r + 9) → g'' x = g' x := c2
      have hh := hh g'' (fun a a0 b1 => by
        have x := ip_rng (n := 9) (s := if s < 2 then s else 5 - s) (i := i) (j := j) (a := a) ⟨by split <;> omega, hv.2.1, hv.2.2.1, by omega⟩ (by omega)
        rw [c1 a a0 (by omega), a1 _ x.1 x.2, ip_back hv]
        exact q3 a a0 b1) (fun x hx => (c2 x hx).trans ((a2 x hx).trans (q4 x hx)))
      clear c1 c2 a1 a2 q3 q4
      repeat' (first | (refine And.intro (by first | omega | (simp (disch := decide) only [up_n, up_s, cp_n, rw_n, rw_s, up1_, if_true, if_false, ite_true, ite_false, reduceIte, eq_self, Int.reduceEq, true_and, and_true, not_true_eq_false, not_false_eq_true]; omega)) ?_) | (refine And.intro (fun hc => ?_) (fun hc => ?_) <;> (try (simp (disch := decide) only [up_n, up_s, cp_n, rw_n, rw_s, up1_, if_true, if_false, ite_true, ite_false, reduceIte, eq_self, Int.reduceEq, true_and, and_true, not_true_eq_false, not_false_eq_true] at hc)) <;> (try (exfalso; omega))) | (refine fun (hc : ¬ _) => ?_; try (simp (disch := decide) only [up_n, up_s, cp_n, rw_n, rw_s, up1_, if_true, if_false, ite_true, ite_false, reduceIte, eq_self, Int.reduceEq, true_and, and_true, not_true_eq_false, not_false_eq_true] at hc)) | (refine fun (hc : _ = _) => ?_; try (simp (disch := decide) only [up_n, up_s, cp_n, rw_n, rw_s, up1_, if_true, if_false, ite_true, ite_false, reduceIte, eq_self, Int.reduceEq, true_and, and_true, not_true_eq_false, not_false_eq_true] at hc)))
      simp (disch := decide) only [up_rw, rw_u, up_up, rw_rw, rw_cm]
      exact hh
set_option maxHeartbeats 4000000 in
set_option maxRecDepth 100000 in
theorem m_go2 {M : fr_M} {r n s : Int} {rk : Int → Int} {Q : Option fr_V → fr_H → fr_M → Prop} (hR : RC M r n) (hk : ∀ a, 0 ≤ a → a < n → 0 ≤ rk a ∧ rk a < n) (hs : 0 ≤ s ∧ s ≤ 3) (h1 : ∀ s i j g, FI (cf M r) n rk s i j → (∀ a, 0 ≤ a → a < n → g (9 * r + a) = M 77 (9 * r + trf s i j rk a)) → (∀ x, ¬ (9 * r ≤ x ∧ x < 9 * r + 9) → g x = M 78 x) → Q (some (.inl 1)) sh0 (rw_ M 78 g)) (h : ∀ g x4 x5, BF (cf M r) n rk (s + 1) 1 2 → (∀ a, 0 ≤ a → a < n → g (9 * r + a) = M 77 (9 * r + rk a)) → (∀ x, ¬ (9 * r ≤ x ∧ x < 9 * r + 9) → g x = M 78 x) → fr_Run 166 none 6 [some (.inr (.inl 75)), some (.inl r), some (.inl (ws (cf M r) n rk n.toNat)), some (.inl (s + 1)), x4, x5] [] sh0 (rw_ M 78 g) 0 0 Q) : ∀ (t : Nat) (i : Int) (g : Int → Int) (x5 : Option fr_V), 1 ≤ i → i + t = n → BF (cf M r) n rk s i (i + 1) → (∀ a, 0 ≤ a → a < n → g (9 * r + a) = M 77 (9 * r + rk a)) → (∀ x, ¬ (9 * r ≤ x ∧ x < 9 * r + 9) → g x = M 78 x) → fr_Run 166 none 11 [some (.inr (.inl 75)), some (.inl r), some (.inl (ws (cf M r) n rk n.toNat)), some (.inl s), some (.inl i), x5] [] sh0 (rw_ M 78 g) 0 0 Q := by
  have hr := hR.1
  have hm := hR.2.1
  have hn9 := hR.2.2.1
  intro t
  induction t with
  | zero =>
    intro i g x5 q0 q1 q2 q3 q4
    have e : i = n := by omega
    have hh := h g (some (.inl n)) x5 (fun s' i' j' hv hlt => by
      obtain ⟨v1, v2, v3, v4⟩ := id hv
      exact q2 s' i' j' hv (by omega)) q3 q4
    clear h h1 q3 q4
    rw [e]
    refine fr_go k166 [6, 11] 400 rfl ?_
    repeat' (first | (refine And.intro (by first | omega | (simp (disch := decide) only [up_n, up_s, cp_n, rw_n, rw_s, up1_, if_true, if_false, ite_true, ite_false, reduceIte, eq_self, Int.reduceEq, true_and, and_true, not_true_eq_false, not_false_eq_true]; omega)) ?_) | (refine And.intro (fun hc => ?_) (fun hc => ?_) <;> (try (simp (disch := decide) only [up_n, up_s, cp_n, rw_n, rw_s, up1_, if_true, if_false, ite_true, ite_false, reduceIte, eq_self, Int.reduceEq, true_and, and_true, not_true_eq_false, not_false_eq_true] at hc)) <;> (try (exfalso; omega))) | (refine fun (hc : ¬ _) => ?_; try (simp (disch := decide) only [up_n, up_s, cp_n, rw_n, rw_s, up1_, if_true, if_false, ite_true, ite_false, reduceIte, eq_self, Int.reduceEq, true_and, and_true, not_true_eq_false, not_false_eq_true] at hc)) | (refine fun (hc : _ = _) => ?_; try (simp (disch := decide) only [up_n, up_s, cp_n, rw_n, rw_s, up1_, if_true, if_false, ite_true, ite_false, reduceIte, eq_self, Int.reduceEq, true_and, and_true, not_true_eq_false, not_false_eq_true] at hc)))
    all_goals first | (exfalso; omega) | (exfalso; simp (disch := decide) only [up_n, up_s, cp_n, rw_n, rw_s, up1_, if_true, if_false, ite_true, ite_false, reduceIte, eq_self, Int.reduceEq, true_and, and_true, not_true_eq_false, not_false_eq_true] at *; omega) | exact hh
  | succ t ih =>
    intro i g x5 q0 q1 q2 q3 q4
    have hh := m_go3 (Q := Q) hR hk hs (i := i) (by omega) h1 (fun g' hB c1 c2 => ih (i + 1) g' _ (by omega) (by omega) (by rw [show i + 1 + 1 = i + 2 by omega]; exact hB) c1 c2) (n - (i + 1)).toNat (i + 1) g (by omega) (by omega) q2 q3 q4
    clear ih h h1 hk q3 q4
    refine fr_go k166 [11, 21] 400 rfl ?_
    repeat' (first | (refine And.intro (by first | omega | (simp (disch := decide) only [up_n, up_s, cp_n, rw_n, rw_s, up1_, if_true, if_false, ite_true, ite_false, reduceIte, eq_self, Int.reduceEq, true_and, and_true, not_true_eq_false, not_false_eq_true]; omega)) ?_) | (refine And.intro (fun hc => ?_) (fun hc => ?_) <;> (try (simp (disch := decide) only [up_n, up_s, cp_n, rw_n, rw_s, up1_, if_true, if_false, ite_true, ite_false, reduceIte, eq_self, Int.reduceEq, true_and, and_true, not_true_eq_false, not_false_eq_true] at hc)) <;> (try (exfalso; omega))) | (refine fun (hc : ¬ _) => ?_; try (simp (disch := decide) only [up_n, up_s, cp_n, rw_n, rw_s, up1_, if_true, if_false, ite_true, ite_false, reduceIte, eq_self, Int.reduceEq, true_and, and_true, not_true_eq_false, not_false_eq_true] at hc)) | (refine fun (hc : _ = _) => ?_; try (simp (disch := decide) only [up_n, up_s, cp_n, rw_n, rw_s, up1_, if_true, if_false, ite_true, ite_false, reduceIte, eq_self, Int.reduceEq, true_and, and_true, not_true_eq_false, not_false_eq_true] at hc)))
    all_goals first | (exfalso; omega) | (exfalso; simp (disch := decide) only [up_n, up_s, cp_n, rw_n, rw_s, up1_, if_true, if_false, ite_true, ite_false, reduceIte, eq_self, Int.reduceEq, true_and, and_true, not_true_eq_false, not_false_eq_true] at *; omega) | exact hh
set_option maxHeartbeats 4000000 in
set_option maxRecDepth 100000 in
theorem m_go1 {M : fr_M} {r n : Int} {rk : Int → Int} {Q : Option fr_V → fr_H → fr_M → Prop} (hR : RC M r n) (hk : ∀ a, 0 ≤ a → a < n → 0 ≤ rk a ∧ rk a < n) (h1 : ∀ s i j g, FI (cf M r) n rk s i j → (∀ a, 0 ≤ a → a < n → g (9 * r + a) = M 77 (9 * r + trf s i j rk a)) → (∀ x, ¬ (9 * r ≤ x ∧ x < 9 * r + 9) → g x = M 78 x) → Q (some (.inl 1)) sh0 (rw_ M 78 g)) (h0 : ∀ g, NI (cf M r) n rk → (∀ a, 0 ≤ a → a < n → g (9 * r + a) = M 77 (9 * r + rk a)) → (∀ x, ¬ (9 * r ≤ x ∧ x < 9 * r + 9) → g x = M 78 x) → Q (some (.inl 0)) sh0 (rw_ M 78 g)) : ∀ (t : Nat) (s : Int) (g : Int → Int) (x4 x5 : Option fr_V), 0 ≤ s → s + t = 4 → BF (cf M r) n rk s 1 2 → (∀ a, 0 ≤ a → a < n → g (9 * r + a) = M 77 (9 * r + rk a)) → (∀ x, ¬ (9 * r ≤ x ∧ x < 9 * r + 9) → g x = M 78 x) → fr_Run 166 none 6 [some (.inr (.inl 75)), some (.inl r), some (.inl (ws (cf M r) n rk n.toNat)), some (.inl s), x4, x5] [] sh0 (rw_ M 78 g) 0 0 Q := by
  have hn9 := hR.2.2.1
  intro t
  induction t with
  | zero =>
    intro s g x4 x5 q0 q1 q2 q3 q4
    have hh := h0 g (fun s' i' j' hv => q2 s' i' j' hv (by
      obtain ⟨v1, v2, v3, v4⟩ := hv
      omega)) q3 q4
    clear h0 h1 q3 q4
    refine fr_go k166 [6] 400 rfl ?_
    repeat' (first | (refine And.intro (by first | omega | (simp (disch := decide) only [up_n, up_s, cp_n, rw_n, rw_s, up1_, if_true, if_false, ite_true, ite_false, reduceIte, eq_self, Int.reduceEq, true_and, and_true, not_true_eq_false, not_false_eq_true]; omega)) ?_) | (refine And.intro (fun hc => ?_) (fun hc => ?_) <;> (try (simp (disch := decide) only [up_n, up_s, cp_n, rw_n, rw_s, up1_, if_true, if_false, ite_true, ite_false, reduceIte, eq_self, Int.reduceEq, true_and, and_true, not_true_eq_false, not_false_eq_true] at hc)) <;> (try (exfalso; omega))) | (refine fun (hc : ¬ _) => ?_; try (simp (disch := decide) only [up_n, up_s, cp_n, rw_n, rw_s, up1_, if_true, if_false, ite_true, ite_false, reduceIte, eq_self, Int.reduceEq, true_and, and_true, not_true_eq_false, not_false_eq_true] at hc)) | (refine fun (hc : _ = _) => ?_; try (simp (disch := decide) only [up_n, up_s, cp_n, rw_n, rw_s, up1_, if_true, if_false, ite_true, ite_false, reduceIte, eq_self, Int.reduceEq, true_and, and_true, not_true_eq_false, not_false_eq_true] at hc)))
    all_goals first | (exfalso; omega) | exact hh
  | succ t ih =>
    intro s g x4 x5 q0 q1 q2 q3 q4
    have hh := m_go2 (Q := Q) hR hk (s := s) (by omega) h1 (fun g' x4 x5 hB c1 c2 => ih (s + 1) g' x4 x5 (by omega) (by omega) hB c1 c2) (n - 1).toNat 1 g x5 (by omega) (by omega) q2 q3 q4
    clear ih h0 h1 hk q3 q4
    refine fr_go k166 [6, 11] 400 rfl ?_
    repeat' (first | (refine And.intro (by first | omega | (simp (disch := decide) only [up_n, up_s, cp_n, rw_n, rw_s, up1_, if_true, if_false, ite_true, ite_false, reduceIte, eq_self, Int.reduceEq, true_and, and_true, not_true_eq_false, not_false_eq_true]; omega)) ?_) | (refine And.intro (fun hc => ?_) (fun hc => ?_) <;> (try (simp (disch := decide) only [up_n, up_s, cp_n, rw_n, rw_s, up1_, if_true, if_false, ite_true, ite_false, reduceIte, eq_self, Int.reduceEq, true_and, and_true, not_true_eq_false, not_false_eq_true] at hc)) <;> (try (exfalso; omega))) | (refine fun (hc : ¬ _) => ?_; try (simp (disch := decide) only [up_n, up_s, cp_n, rw_n, rw_s, up1_, if_true, if_false, ite_true, ite_false, reduceIte, eq_self, Int.reduceEq, true_and, and_true, not_true_eq_false, not_false_eq_true] at hc)) | (refine fun (hc : _ = _) => ?_; try (simp (disch := decide) only [up_n, up_s, cp_n, rw_n, rw_s, up1_, if_true, if_false, ite_true, ite_false, reduceIte, eq_self, Int.reduceEq, true_and, and_true, not_true_eq_false, not_false_eq_true] at hc)))
    all_goals first | (exfalso; omega) | exact hh
set_option maxHeartbeats 4000000 in
set_option maxRecDepth 100000 in
theorem m_gainsOne {M : fr_M} {r n : Int} {rk : Int → Int} {Q : Option fr_V → fr_H → fr_M → Prop} (hR : RC M r n) (hk : ∀ a, 0 ≤ a → a < n → M 78 (9 * r + a) = M 77 (9 * r + rk a) ∧ 0 ≤ rk a ∧ rk a < n) (h1 : ∀ s i j g, FI (cf M r) n rk s i j → (∀ a, 0 ≤ a → a < n → g (9 * r + a) = M 77 (9 * r + trf s i j rk a)) → (∀ x, ¬ (9 * r ≤ x ∧ x < 9 * r + 9) → g x = M 78 x) → Q (some (.inl 1)) sh0 (rw_ M 78 g)) (h0 : ∀ g, NI (cf M r) n rk → (∀ a, 0 ≤ a → a < n → g (9 * r + a) = M 77 (9 * r + rk a)) → (∀ x, ¬ (9 * r ≤ x ∧ x < 9 * r + 9) → g x = M 78 x) → Q (some (.inl 0)) sh0 (rw_ M 78 g)) : fr_Call 166 [.inr (.inl 75), .inl r] sh0 M Q := by
  refine fr_cgo k166 [some (.inr (.inl 75)), some (.inl r), none, none, none, none] 0 0 [6] 400 rfl rfl rfl rfl ?_
  repeat' (first | (refine And.intro (by first | omega | (simp (disch := decide) only [up_n, up_s, cp_n, rw_n, rw_s, up1_, if_true, if_false, ite_true, ite_false, reduceIte, eq_self, Int.reduceEq, true_and, and_true, not_true_eq_false, not_false_eq_true]; omega)) ?_) | (refine And.intro (fun hc => ?_) (fun hc => ?_) <;> (try (simp (disch := decide) only [up_n, up_s, cp_n, rw_n, rw_s, up1_, if_true, if_false, ite_true, ite_false, reduceIte, eq_self, Int.reduceEq, true_and, and_true, not_true_eq_false, not_false_eq_true] at hc)) <;> (try (exfalso; omega))) | (refine fun (hc : ¬ _) => ?_; try (simp (disch := decide) only [up_n, up_s, cp_n, rw_n, rw_s, up1_, if_true, if_false, ite_true, ite_false, reduceIte, eq_self, Int.reduceEq, true_and, and_true, not_true_eq_false, not_false_eq_true] at hc)) | (refine fun (hc : _ = _) => ?_; try (simp (disch := decide) only [up_n, up_s, cp_n, rw_n, rw_s, up1_, if_true, if_false, ite_true, ite_false, reduceIte, eq_self, Int.reduceEq, true_and, and_true, not_true_eq_false, not_false_eq_true] at hc)))
  refine m_weightOf (n := n) (rk := rk) hR hk ?_
  have hh := m_go1 (Q := Q) hR (fun a a0 a1 => (hk a a0 a1).2) h1 h0 4 0 (M 78) none none (by omega) (by omega) (fun s' i' j' hv hlt => by
    obtain ⟨v1, v2, v3, v4⟩ := hv
    omega) (fun a a0 a1 => (hk a a0 a1).1) (fun x hx => rfl)
  clear h0 h1 hk
  repeat' (first | (refine And.intro (by first | omega | (simp (disch := decide) only [up_n, up_s, cp_n, rw_n, rw_s, up1_, if_true, if_false, ite_true, ite_false, reduceIte, eq_self, Int.reduceEq, true_and, and_true, not_true_eq_false, not_false_eq_true]; omega)) ?_) | (refine And.intro (fun hc => ?_) (fun hc => ?_) <;> (try (simp (disch := decide) only [up_n, up_s, cp_n, rw_n, rw_s, up1_, if_true, if_false, ite_true, ite_false, reduceIte, eq_self, Int.reduceEq, true_and, and_true, not_true_eq_false, not_false_eq_true] at hc)) <;> (try (exfalso; omega))) | (refine fun (hc : ¬ _) => ?_; try (simp (disch := decide) only [up_n, up_s, cp_n, rw_n, rw_s, up1_, if_true, if_false, ite_true, ite_false, reduceIte, eq_self, Int.reduceEq, true_and, and_true, not_true_eq_false, not_false_eq_true] at hc)) | (refine fun (hc : _ = _) => ?_; try (simp (disch := decide) only [up_n, up_s, cp_n, rw_n, rw_s, up1_, if_true, if_false, ite_true, ite_false, reduceIte, eq_self, Int.reduceEq, true_and, and_true, not_true_eq_false, not_false_eq_true] at hc)))
  exact q_run hh rw_id
theorem FI.uniq {f : Int → Int → Int} {n s i j s' i' j' : Int} {rk : Int → Int} (h : FI f n rk s i j) (h' : FI f n rk s' i' j') : s = s' ∧ i = i' ∧ j = j' := by
  apply Classical.byContradiction
  intro hc
  rcases (show (s < s' ∨ (s = s' ∧ (i < i' ∨ (i = i' ∧ j < j')))) ∨ (s' < s ∨ (s' = s ∧ (i' < i ∨ (i' = i ∧ j' < j)))) by omega) with q | q
  · exact h'.2.2 s i j h.1 q h.2.1
  · exact h.2.2 s' i' j' h'.1 q h'.2.1
set_option maxHeartbeats 4000000 in
set_option maxRecDepth 100000 in
theorem m_o2_l {M : fr_M} {r n : Int} {Q : Option fr_V → fr_H → fr_M → Prop} (hR : RC M r n) : ∀ (k : Nat) (rk rk' : Int → Int) (g : Int → Int), LocN (cf M r) n k rk rk' → (∀ a, 0 ≤ a → a < n → 0 ≤ rk a ∧ rk a < n) → (∀ a, 0 ≤ a → a < n → g (9 * r + a) = M 77 (9 * r + rk a)) → (∀ x, ¬ (9 * r ≤ x ∧ x < 9 * r + 9) → g x = M 78 x) → (∀ g x3, (∀ a, 0 ≤ a → a < n → g (9 * r + a) = M 77 (9 * r + rk' a)) → (∀ x, ¬ (9 * r ≤ x ∧ x < 9 * r + 9) → g x = M 78 x) → fr_Run 172 none 71 [some (.inr (.inl 75)), some (.inl r), some (.inl 2), x3] [] sh0 (rw_ M 78 g) 0 0 Q) → fr_Run 172 none 60 [some (.inr (.inl 75)), some (.inl r), some (.inl 2), some (.inl 1)] [] sh0 (rw_ M 78 g) 0 0 Q := by
  have hRg : ∀ g, RC (rw_ M 78 g) r n := fun g => hR.cg (fun k i hk => rw_n (by omega))
  intro k
  induction k with
  | zero =>
    intro rk rk' g q1 q2 q3 q4 h
    obtain ⟨hN, he⟩ := q1
    refine fr_go k172 [60] 400 rfl ?_
    repeat' (first | (refine And.intro (by first | omega | (simp (disch := decide) only [up_n, up_s, cp_n, rw_n, rw_s, up1_, if_true, if_false, ite_true, ite_false, reduceIte, eq_self, Int.reduceEq, true_and, and_true, not_true_eq_false, not_false_eq_true]; omega)) ?_) | (refine And.intro (fun hc => ?_) (fun hc => ?_) <;> (try (simp (disch := decide) only [up_n, up_s, cp_n, rw_n, rw_s, up1_, if_true, if_false, ite_true, ite_false, reduceIte, eq_self, Int.reduceEq, true_and, and_true, not_true_eq_false, not_false_eq_true] at hc)) <;> (try (exfalso; omega))) | (refine fun (hc : ¬ _) => ?_; try (simp (disch := decide) only [up_n, up_s, cp_n, rw_n, rw_s, up1_, if_true, if_false, ite_true, ite_false, reduceIte, eq_self, Int.reduceEq, true_and, and_true, not_true_eq_false, not_false_eq_true] at hc)) | (refine fun (hc : _ = _) => ?_; try (simp (disch := decide) only [up_n, up_s, cp_n, rw_n, rw_s, up1_, if_true, if_false, ite_true, ite_false, reduceIte, eq_self, Int.reduceEq, true_and, and_true, not_true_eq_false, not_false_eq_true] at hc)))
    all_goals first | (exfalso; omega) | skip
    refine m_gainsOne (M := rw_ M 78 g) (rk := rk) (hRg g) (fun a a0 a1 => ⟨q3 a a0 a1, q2 a a0 a1⟩) (fun s i j g' hF _ _ => absurd hF.2.1 (hN s i j hF.1)) (fun g' _ c1 c2 => ?_)
    have hh := h g' (some (.inl 0)) (fun a a0 a1 => by rw [he a a0 a1]; exact c1 a a0 a1) (fun x hx => (c2 x hx).trans (q4 x hx))
    clear h q2 q3 q4 c1 c2 hN he
    repeat' (first | (refine And.intro (by first | omega | (simp (disch := decide) only [up_n, up_s, cp_n, rw_n, rw_s, up1_, if_true, if_false, ite_true, ite_false, reduceIte, eq_self, Int.reduceEq, true_and, and_true, not_true_eq_false, not_false_eq_true]; omega)) ?_) | (refine And.intro (fun hc => ?_) (fun hc => ?_) <;> (try (simp (disch := decide) only [up_n, up_s, cp_n, rw_n, rw_s, up1_, if_true, if_false, ite_true, ite_false, reduceIte, eq_self, Int.reduceEq, true_and, and_true, not_true_eq_false, not_false_eq_true] at hc)) <;> (try (exfalso; omega))) | (refine fun (hc : ¬ _) => ?_; try (simp (disch := decide) only [up_n, up_s, cp_n, rw_n, rw_s, up1_, if_true, if_false, ite_true, ite_false, reduceIte, eq_self, Int.reduceEq, true_and, and_true, not_true_eq_false, not_false_eq_true] at hc)) | (refine fun (hc : _ = _) => ?_; try (simp (disch := decide) only [up_n, up_s, cp_n, rw_n, rw_s, up1_, if_true, if_false, ite_true, ite_false, reduceIte, eq_self, Int.reduceEq, true_and, and_true, not_true_eq_false, not_false_eq_true] at hc)))
    refine fr_go k172 [60, 71] 400 rfl ?_
    repeat' (first | (refine And.intro (by first | omega | (simp (disch := decide) only [up_n, up_s, cp_n, rw_n, rw_s, up1_, if_true, if_false, ite_true, ite_false, reduceIte, eq_self, Int.reduceEq, true_and, and_true, not_true_eq_false, not_false_eq_true]; omega)) ?_) | (refine And.intro (fun hc => ?_) (fun hc => ?_) <;> (try (simp (disch := decide) only [up_n, up_s, cp_n, rw_n, rw_s, up1_, if_true, if_false, ite_true, ite_false, reduceIte, eq_self, Int.reduceEq, true_and, and_true, not_true_eq_false, not_false_eq_true] at hc)) <;> (try (exfalso; omega))) | (refine fun (hc : ¬ _) => ?_; try (simp (disch := decide) only [up_n, up_s, cp_n, rw_n, rw_s, up1_, if_true, if_false, ite_true, ite_false, reduceIte, eq_self, Int.reduceEq, true_and, and_true, not_true_eq_false, not_false_eq_true] at hc)) | (refine fun (hc : _ = _) => ?_; try (simp (disch := decide) only [up_n, up_s, cp_n, rw_n, rw_s, up1_, if_true, if_false, ite_true, ite_false, reduceIte, eq_self, Int.reduceEq, true_and, and_true, not_true_eq_false, not_false_eq_true] at hc)))
    all_goals first | (exfalso; omega) | skip
    simp (disch := decide) only [up_rw, rw_u, up_up, rw_rw, rw_cm]
    exact hh
  | succ k ih =>
    intro rk rk' g q1 q2 q3 q4 h
    obtain ⟨s, i, j, hF, hL⟩ := q1
    refine fr_go k172 [60] 400 rfl ?_
    repeat' (first | (refine And.intro (by first | omega | (simp (disch := decide) only [up_n, up_s, cp_n, rw_n, rw_s, up1_, if_true, if_false, ite_true, ite_false, reduceIte, eq_self, Int.reduceEq, true_and, and_true, not_true_eq_false, not_false_eq_true]; omega)) ?_) | (refine And.intro (fun hc => ?_) (fun hc => ?_) <;> (try (simp (disch := decide) only [up_n, up_s, cp_n, rw_n, rw_s, up1_, if_true, if_false, ite_true, ite_false, reduceIte, eq_self, Int.reduceEq, true_and, and_true, not_true_eq_false, not_false_eq_true] at hc)) <;> (try (exfalso; omega))) | (refine fun (hc : ¬ _) => ?_; try (simp (disch := decide) only [up_n, up_s, cp_n, rw_n, rw_s, up1_, if_true, if_false, ite_true, ite_false, reduceIte, eq_self, Int.reduceEq, true_and, and_true, not_true_eq_false, not_false_eq_true] at hc)) | (refine fun (hc : _ = _) => ?_; try (simp (disch := decide) only [up_n, up_s, cp_n, rw_n, rw_s, up1_, if_true, if_false, ite_true, ite_false, reduceIte, eq_self, Int.reduceEq, true_and, and_true, not_true_eq_false, not_false_eq_true] at hc)))
    all_goals first | (exfalso; omega) | skip
    refine m_gainsOne (M := rw_ M 78 g) (rk := rk) (hRg g) (fun a a0 a1 => ⟨q3 a a0 a1, q2 a a0 a1⟩) (fun s' i' j' g' hF' c1 c2 => ?_) (fun g' hN _ _ => absurd hF.2.1 (hN s i j hF.1))
    obtain ⟨rfl, rfl, rfl⟩ := FI.uniq hF hF'
    have hh := ih (trf s i j rk) rk' g' hL (fun a a0 a1 => by
      have x := ip_rng hF.1 ⟨a0, a1⟩
      exact q2 _ x.1 x.2) c1 (fun x hx => (c2 x hx).trans (q4 x hx)) h
    clear ih h q2 q3 q4 c1 c2 hL
    repeat' (first | (refine And.intro (by first | omega | (simp (disch := decide) only [up_n, up_s, cp_n, rw_n, rw_s, up1_, if_true, if_false, ite_true, ite_false, reduceIte, eq_self, Int.reduceEq, true_and, and_true, not_true_eq_false, not_false_eq_true]; omega)) ?_) | (refine And.intro (fun hc => ?_) (fun hc => ?_) <;> (try (simp (disch := decide) only [up_n, up_s, cp_n, rw_n, rw_s, up1_, if_true, if_false, ite_true, ite_false, reduceIte, eq_self, Int.reduceEq, true_and, and_true, not_true_eq_false, not_false_eq_true] at hc)) <;> (try (exfalso; omega))) | (refine fun (hc : ¬ _) => ?_; try (simp (disch := decide) only [up_n, up_s, cp_n, rw_n, rw_s, up1_, if_true, if_false, ite_true, ite_false, reduceIte, eq_self, Int.reduceEq, true_and, and_true, not_true_eq_false, not_false_eq_true] at hc)) | (refine fun (hc : _ = _) => ?_; try (simp (disch := decide) only [up_n, up_s, cp_n, rw_n, rw_s, up1_, if_true, if_false, ite_true, ite_false, reduceIte, eq_self, Int.reduceEq, true_and, and_true, not_true_eq_false, not_false_eq_true] at hc)))
    all_goals first | (exfalso; omega) | skip
    simp (disch := decide) only [up_rw, rw_u, up_up, rw_rw, rw_cm]
    exact hh
theorem pm_of {n : Int} {M : fr_M} (hR : Rel n M) {r : Int} (hr : 0 ≤ r ∧ r < M 75 0) (hm : 0 < M 76 r) : Pm (M 76 r) (fun i => M 5 (M 14 (r * 9 + i))) := by
  have hk := rk_of hR hr
  obtain ⟨h0, h1, h2, h3, h4, h5, h6, h7, h8, o1, o2, o3, k1, k2, k3, k4, k5, t1, t2, s1, r1, r1', r2, r2', r3, r4, l⟩ := id hR
  have p0 := h1.2.2.1
  have hRC := hR.pc.rc hr hm
  refine ⟨?_, fun i i0 i1 => (hk i i0 i1).2, fun i j i0 i1 j0 j1 e => ?_⟩
  · have a := hk 0 (by omega) hm
    have b := o3 r hr.1 (by omega) hm
    rw [show 9 * r + 0 = 9 * r by omega, b] at a
    exact (hRC.2.2.2.2.1 0 _ (by omega) hm a.2.1 a.2.2 (by rw [show 9 * r + 0 = 9 * r by omega]; exact a.1)).symm
  · have e : M 5 (M 14 (r * 9 + i)) = M 5 (M 14 (r * 9 + j)) := e
    have a := (hk i i0 i1).1
    have b := (hk j j0 j1).1
    rw [e, ← b] at a
    have c := o1 r i hr.1 (by omega) i0 i1
    have d := o1 r j hr.1 (by omega) j0 j1
    rw [a] at c
    omega
set_option maxHeartbeats 4000000 in
set_option maxRecDepth 100000 in
theorem op_ord2 {n : Int} {M : fr_M} (hR : Rel n M) (hn : n ≤ 512) {r : Int} (hr : 0 ≤ r ∧ r < M 75 0) (hm : 0 < M 76 r) : Two 119 172 [.inl r, .inl 2] M (Rel (n + 1)) := by
  have hRC := hR.pc.rc hr hm
  have hn9 := hRC.2.2.1
  have hr6 := hRC.1
  have hrk := rk_of hR hr
  have hpm := pm_of hR hr hm
  have hf : ∀ i j, 0 ≤ i → i < M 76 r → 0 ≤ cf M r i j ∧ cf M r i j ≤ 6000000 := fun i j i0 i1 => cf_b hRC ⟨i0, i1⟩
  refine ord_fr hR hn hr hm (by omega) (fun rk => ∃ k, LocN (cf M r) (M 76 r) k (fun i => M 5 (M 14 (r * 9 + i))) rk) ?_ ?_
  · intro Z Q hZ h
    refine fr_go k119 [68] 400 rfl ?_
    repeat' (first | (refine And.intro (by first | omega | (simp (disch := decide) only [up_n, up_s, cp_n, rw_n, rw_s, up1_, if_true, if_false, ite_true, ite_false, reduceIte, eq_self, Int.reduceEq, true_and, and_true, not_true_eq_false, not_false_eq_true]; omega)) ?_) | (refine And.intro (fun hc => ?_) (fun hc => ?_) <;> (try (simp (disch := decide) only [up_n, up_s, cp_n, rw_n, rw_s, up1_, if_true, if_false, ite_true, ite_false, reduceIte, eq_self, Int.reduceEq, true_and, and_true, not_true_eq_false, not_false_eq_true] at hc)) <;> (try (exfalso; omega))) | (refine fun (hc : ¬ _) => ?_; try (simp (disch := decide) only [up_n, up_s, cp_n, rw_n, rw_s, up1_, if_true, if_false, ite_true, ite_false, reduceIte, eq_self, Int.reduceEq, true_and, and_true, not_true_eq_false, not_false_eq_true] at hc)) | (refine fun (hc : _ = _) => ?_; try (simp (disch := decide) only [up_n, up_s, cp_n, rw_n, rw_s, up1_, if_true, if_false, ite_true, ite_false, reduceIte, eq_self, Int.reduceEq, true_and, and_true, not_true_eq_false, not_false_eq_true] at hc)))
    all_goals first | (exfalso; omega) | skip
    refine c_improve (f := cf M r) (n := M 76 r) (rk := fun i => M 5 (M 14 (r * 9 + i))) ⟨hZ.1, hn9⟩ hf hZ.2.1 hpm (fun a a0 a1 => hZ.2.2.1 a a0 a1) (fun X' k hfX hL => ?_)
    have hh := h X' none (fun k i hk => hfX k i (by omega)) (LocN.pm hm k hpm hL) ⟨k, hL⟩
    clear h
    repeat' (first | (refine And.intro (by first | omega | (simp (disch := decide) only [up_n, up_s, cp_n, rw_n, rw_s, up1_, if_true, if_false, ite_true, ite_false, reduceIte, eq_self, Int.reduceEq, true_and, and_true, not_true_eq_false, not_false_eq_true]; omega)) ?_) | (refine And.intro (fun hc => ?_) (fun hc => ?_) <;> (try (simp (disch := decide) only [up_n, up_s, cp_n, rw_n, rw_s, up1_, if_true, if_false, ite_true, ite_false, reduceIte, eq_self, Int.reduceEq, true_and, and_true, not_true_eq_false, not_false_eq_true] at hc)) <;> (try (exfalso; omega))) | (refine fun (hc : ¬ _) => ?_; try (simp (disch := decide) only [up_n, up_s, cp_n, rw_n, rw_s, up1_, if_true, if_false, ite_true, ite_false, reduceIte, eq_self, Int.reduceEq, true_and, and_true, not_true_eq_false, not_false_eq_true] at hc)) | (refine fun (hc : _ = _) => ?_; try (simp (disch := decide) only [up_n, up_s, cp_n, rw_n, rw_s, up1_, if_true, if_false, ite_true, ite_false, reduceIte, eq_self, Int.reduceEq, true_and, and_true, not_true_eq_false, not_false_eq_true] at hc)))
    exact hh
  · intro W Q rk hW hP hΦ h
    obtain ⟨k, hL⟩ := hΦ
    have ec : cf W r = cf M r := by
      funext i j
      exact cf_cg (fun k i hk => hW k i (by omega))
    have hh := m_o2_l (M := W) (r := r) (n := M 76 r) (Q := Q) (hRC.cg (fun k i hk => hW k i (by omega))) k _ rk (W 78) (by rw [ec]; exact hL) (fun a a0 a1 => (hrk a a0 a1).2) (fun a a0 a1 => by
      rw [hW 78 _ (by omega), hW 77 _ (by omega)]
      exact (hrk a a0 a1).1) (fun x hx => rfl) (fun g x3 c1 c2 => h (rw_ W 78 g) x3 (fun k i hk => rw_n (by omega)) (fun i i0 i1 => by
      rw [rw_at, c1 i i0 i1]
      exact hW 77 _ (by omega)) (fun j hj => by
      rw [rw_at, c2 j hj]
      exact hW 78 _ (by omega)))
    clear h
    refine fr_go k172 [60] 400 rfl ?_
    repeat' (first | (refine And.intro (by first | omega | (simp (disch := decide) only [up_n, up_s, cp_n, rw_n, rw_s, up1_, if_true, if_false, ite_true, ite_false, reduceIte, eq_self, Int.reduceEq, true_and, and_true, not_true_eq_false, not_false_eq_true]; omega)) ?_) | (refine And.intro (fun hc => ?_) (fun hc => ?_) <;> (try (simp (disch := decide) only [up_n, up_s, cp_n, rw_n, rw_s, up1_, if_true, if_false, ite_true, ite_false, reduceIte, eq_self, Int.reduceEq, true_and, and_true, not_true_eq_false, not_false_eq_true] at hc)) <;> (try (exfalso; omega))) | (refine fun (hc : ¬ _) => ?_; try (simp (disch := decide) only [up_n, up_s, cp_n, rw_n, rw_s, up1_, if_true, if_false, ite_true, ite_false, reduceIte, eq_self, Int.reduceEq, true_and, and_true, not_true_eq_false, not_false_eq_true] at hc)) | (refine fun (hc : _ = _) => ?_; try (simp (disch := decide) only [up_n, up_s, cp_n, rw_n, rw_s, up1_, if_true, if_false, ite_true, ite_false, reduceIte, eq_self, Int.reduceEq, true_and, and_true, not_true_eq_false, not_false_eq_true] at hc)))
    all_goals first | (exfalso; omega) | skip
    exact q_run hh rw_id
