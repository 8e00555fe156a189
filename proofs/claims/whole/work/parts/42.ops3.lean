set_option maxHeartbeats 4000000 in
set_option maxRecDepth 100000 in
theorem c_isSort {M : fr_M} {w : Int} {Q : Option fr_V → fr_H → fr_M → Prop} (h1 : w = 0 ∨ w = 1 → Q (some (.inl 1)) sh0 M) (h0 : ¬ (w = 0 ∨ w = 1) → Q (some (.inl 0)) sh0 M) : fr_Call 130 [.inl w] sh0 M Q := by
  refine fr_cgo k130 [some (.inl w)] 0 0 [] 400 rfl rfl rfl rfl ?_
  repeat' (first | (refine And.intro (by first | omega | (simp (disch := decide) only [up_n, up_s, if_true, if_false, ite_true, ite_false, reduceIte, not_true_eq_false, not_false_eq_true]; omega)) ?_) | (refine And.intro (fun hc => ?_) (fun hc => ?_) <;> (try (simp (disch := decide) only [up_n, up_s, if_true, if_false, ite_true, ite_false, reduceIte, not_true_eq_false, not_false_eq_true] at hc)) <;> (try (exfalso; omega))) | (refine fun (hc : ¬ _) => ?_; try (simp (disch := decide) only [up_n, up_s, if_true, if_false, ite_true, ite_false, reduceIte, not_true_eq_false, not_false_eq_true] at hc)) | (refine fun (hc : _ = _) => ?_; try (simp (disch := decide) only [up_n, up_s, if_true, if_false, ite_true, ite_false, reduceIte, not_true_eq_false, not_false_eq_true] at hc)))
  all_goals first | exact h1 (by omega) | exact h0 (by omega)
set_option maxHeartbeats 4000000 in
set_option maxRecDepth 100000 in
theorem c_traceOf0 {M : fr_M} {Q : Option fr_V → fr_H → fr_M → Prop} (h : Q (some (.inr (.inl 45))) sh0 M) : fr_Call 132 [.inr (.inl 0), .inl 0] sh0 M Q := by
  refine fr_cgo k132 [some (.inr (.inl 0)), some (.inl 0)] 0 0 [] 400 rfl rfl rfl rfl ?_
  repeat' (first | (refine And.intro (by first | omega | (simp (disch := decide) only [up_n, up_s, if_true, if_false, ite_true, ite_false, reduceIte, not_true_eq_false, not_false_eq_true]; omega)) ?_) | (refine And.intro (fun hc => ?_) (fun hc => ?_) <;> (try (simp (disch := decide) only [up_n, up_s, if_true, if_false, ite_true, ite_false, reduceIte, not_true_eq_false, not_false_eq_true] at hc)) <;> (try (exfalso; omega))) | (refine fun (hc : ¬ _) => ?_; try (simp (disch := decide) only [up_n, up_s, if_true, if_false, ite_true, ite_false, reduceIte, not_true_eq_false, not_false_eq_true] at hc)) | (refine fun (hc : _ = _) => ?_; try (simp (disch := decide) only [up_n, up_s, if_true, if_false, ite_true, ite_false, reduceIte, not_true_eq_false, not_false_eq_true] at hc)))
  all_goals first | (exfalso; omega) | exact h
set_option maxHeartbeats 4000000 in
set_option maxRecDepth 100000 in
theorem c_traceOf1 {M : fr_M} {Q : Option fr_V → fr_H → fr_M → Prop} (h : Q (some (.inr (.inl 52))) sh0 M) : fr_Call 132 [.inr (.inl 0), .inl 1] sh0 M Q := by
  refine fr_cgo k132 [some (.inr (.inl 0)), some (.inl 1)] 0 0 [] 400 rfl rfl rfl rfl ?_
  repeat' (first | (refine And.intro (by first | omega | (simp (disch := decide) only [up_n, up_s, if_true, if_false, ite_true, ite_false, reduceIte, not_true_eq_false, not_false_eq_true]; omega)) ?_) | (refine And.intro (fun hc => ?_) (fun hc => ?_) <;> (try (simp (disch := decide) only [up_n, up_s, if_true, if_false, ite_true, ite_false, reduceIte, not_true_eq_false, not_false_eq_true] at hc)) <;> (try (exfalso; omega))) | (refine fun (hc : ¬ _) => ?_; try (simp (disch := decide) only [up_n, up_s, if_true, if_false, ite_true, ite_false, reduceIte, not_true_eq_false, not_false_eq_true] at hc)) | (refine fun (hc : _ = _) => ?_; try (simp (disch := decide) only [up_n, up_s, if_true, if_false, ite_true, ite_false, reduceIte, not_true_eq_false, not_false_eq_true] at hc)))
  all_goals first | (exfalso; omega) | exact h
set_option maxHeartbeats 4000000 in
set_option maxRecDepth 100000 in
theorem c_cost0 {M : fr_M} {Q : Option fr_V → fr_H → fr_M → Prop} (b : (0 ≤ M 45 6 ∧ M 45 6 ≤ 1000) ∧ (0 ≤ M 45 7 ∧ M 45 7 ≤ 1000) ∧ (0 ≤ M 45 8 ∧ M 45 8 ≤ 1000) ∧ (0 ≤ M 45 9 ∧ M 45 9 ≤ 1000)) (h : Q (some (.inl (2 * M 45 6 + 3 * M 45 7 + M 45 8 + 50 * M 45 9))) sh0 M) : fr_Call 101 [.inr (.inl 45)] sh0 M Q := by
  refine fr_cgo k101 [some (.inr (.inl 45))] 0 0 [] 400 rfl rfl rfl rfl ?_
  repeat' (first | (refine And.intro (by first | omega | (simp (disch := decide) only [up_n, up_s, if_true, if_false, ite_true, ite_false, reduceIte, not_true_eq_false, not_false_eq_true]; omega)) ?_) | (refine And.intro (fun hc => ?_) (fun hc => ?_) <;> (try (simp (disch := decide) only [up_n, up_s, if_true, if_false, ite_true, ite_false, reduceIte, not_true_eq_false, not_false_eq_true] at hc)) <;> (try (exfalso; omega))) | (refine fun (hc : ¬ _) => ?_; try (simp (disch := decide) only [up_n, up_s, if_true, if_false, ite_true, ite_false, reduceIte, not_true_eq_false, not_false_eq_true] at hc)) | (refine fun (hc : _ = _) => ?_; try (simp (disch := decide) only [up_n, up_s, if_true, if_false, ite_true, ite_false, reduceIte, not_true_eq_false, not_false_eq_true] at hc)))
  exact h
set_option maxHeartbeats 4000000 in
set_option maxRecDepth 100000 in
theorem c_cost1 {M : fr_M} {Q : Option fr_V → fr_H → fr_M → Prop} (b : (0 ≤ M 52 6 ∧ M 52 6 ≤ 1000) ∧ (0 ≤ M 52 7 ∧ M 52 7 ≤ 1000) ∧ (0 ≤ M 52 8 ∧ M 52 8 ≤ 1000) ∧ (0 ≤ M 52 9 ∧ M 52 9 ≤ 1000)) (h : Q (some (.inl (2 * M 52 6 + 3 * M 52 7 + M 52 8 + 50 * M 52 9))) sh0 M) : fr_Call 101 [.inr (.inl 52)] sh0 M Q := by
  refine fr_cgo k101 [some (.inr (.inl 52))] 0 0 [] 400 rfl rfl rfl rfl ?_
  repeat' (first | (refine And.intro (by first | omega | (simp (disch := decide) only [up_n, up_s, if_true, if_false, ite_true, ite_false, reduceIte, not_true_eq_false, not_false_eq_true]; omega)) ?_) | (refine And.intro (fun hc => ?_) (fun hc => ?_) <;> (try (simp (disch := decide) only [up_n, up_s, if_true, if_false, ite_true, ite_false, reduceIte, not_true_eq_false, not_false_eq_true] at hc)) <;> (try (exfalso; omega))) | (refine fun (hc : ¬ _) => ?_; try (simp (disch := decide) only [up_n, up_s, if_true, if_false, ite_true, ite_false, reduceIte, not_true_eq_false, not_false_eq_true] at hc)) | (refine fun (hc : _ = _) => ?_; try (simp (disch := decide) only [up_n, up_s, if_true, if_false, ite_true, ite_false, reduceIte, not_true_eq_false, not_false_eq_true] at hc)))
  exact h
set_option maxHeartbeats 4000000 in
set_option maxRecDepth 100000 in
theorem op_ran0 {n : Int} {M : fr_M} (hN : Rel (n + 1) M) (r1 : R1 M 45 0) (a1 : Int) (hw : 0 ≤ a1 ∧ a1 ≤ 8) : Two 133 200 [.inl 0, .inl a1] M (Rel (n + 1)) := by
  obtain ⟨x1, x2, x3, x4, x5, x6⟩ := r1
  refine Two.of ?_
  rcases x2 with x2 | x2
  · clear x6
    refine fr_cgo k133 [some (.inr (.inl 0)), some (.inl 0), some (.inl a1), none] 0 0 [] 400 rfl rfl rfl rfl ?_
    repeat' (first | (refine And.intro (by first | omega | (simp (disch := decide) only [up_n, up_s, if_true, if_false, ite_true, ite_false, reduceIte, not_true_eq_false, not_false_eq_true]; omega)) ?_) | (refine c_isSort (fun hc => ?_) (fun hc => ?_)) | (refine c_traceOf0 ?_) | (refine And.intro (fun hc => ?_) (fun hc => ?_) <;> (try (simp (disch := decide) only [up_n, up_s, if_true, if_false, ite_true, ite_false, reduceIte, not_true_eq_false, not_false_eq_true] at hc)) <;> (try (exfalso; omega))) | (refine fun (hc : ¬ _) => ?_; try (simp (disch := decide) only [up_n, up_s, if_true, if_false, ite_true, ite_false, reduceIte, not_true_eq_false, not_false_eq_true] at hc)) | (refine fun (hc : _ = _) => ?_; try (simp (disch := decide) only [up_n, up_s, if_true, if_false, ite_true, ite_false, reduceIte, not_true_eq_false, not_false_eq_true] at hc)))
    all_goals first | (exfalso; omega) | refine ⟨rfl, _, rfl, ?_⟩
    all_goals (refine fr_cgo k200 [some (.inr (.inl 75)), some (.inl 0), some (.inl a1)] 0 0 [] 400 rfl rfl rfl rfl ?_)
    all_goals (repeat' (first | (refine And.intro (by first | omega | (simp (disch := decide) only [up_n, up_s, if_true, if_false, ite_true, ite_false, reduceIte, not_true_eq_false, not_false_eq_true]; omega)) ?_) | (refine m_in (fun hc => ?_) (fun hc => ?_)) | (refine And.intro (fun hc => ?_) (fun hc => ?_) <;> (try (simp (disch := decide) only [up_n, up_s, if_true, if_false, ite_true, ite_false, reduceIte, not_true_eq_false, not_false_eq_true] at hc)) <;> (try (exfalso; omega))) | (refine fun (hc : ¬ _) => ?_; try (simp (disch := decide) only [up_n, up_s, if_true, if_false, ite_true, ite_false, reduceIte, not_true_eq_false, not_false_eq_true] at hc)) | (refine fun (hc : _ = _) => ?_; try (simp (disch := decide) only [up_n, up_s, if_true, if_false, ite_true, ite_false, reduceIte, not_true_eq_false, not_false_eq_true] at hc))))
    all_goals first | (exfalso; omega) | exact ⟨rfl, rfl, hN⟩
  · obtain ⟨z0, z1, z2, z3, z4, z5, z6, z7, z8, b1, b2, b3, b4⟩ := x6 x2
    clear x5 x6
    rcases (show a1 = 0 ∨ a1 = 1 ∨ a1 = 2 ∨ a1 = 3 ∨ a1 = 4 ∨ a1 = 5 ∨ a1 = 6 ∨ a1 = 7 ∨ a1 = 8 by omega) with rfl | rfl | rfl | rfl | rfl | rfl | rfl | rfl | rfl
    all_goals (refine fr_cgo k133 [some (.inr (.inl 0)), some (.inl 0), some (.inl _), none] 0 0 [] 400 rfl rfl rfl rfl ?_)
    all_goals (repeat' (first | (refine And.intro (by first | omega | (simp (disch := decide) only [up_n, up_s, if_true, if_false, ite_true, ite_false, reduceIte, not_true_eq_false, not_false_eq_true]; omega)) ?_) | (refine c_isSort (fun hc => ?_) (fun hc => ?_)) | (refine c_traceOf0 ?_) | (refine c_cost0 ⟨b1, b2, b3, b4⟩ ?_) | (refine And.intro (fun hc => ?_) (fun hc => ?_) <;> (try (simp (disch := decide) only [up_n, up_s, if_true, if_false, ite_true, ite_false, reduceIte, not_true_eq_false, not_false_eq_true] at hc)) <;> (try (exfalso; omega))) | (refine fun (hc : ¬ _) => ?_; try (simp (disch := decide) only [up_n, up_s, if_true, if_false, ite_true, ite_false, reduceIte, not_true_eq_false, not_false_eq_true] at hc)) | (refine fun (hc : _ = _) => ?_; try (simp (disch := decide) only [up_n, up_s, if_true, if_false, ite_true, ite_false, reduceIte, not_true_eq_false, not_false_eq_true] at hc))))
    all_goals first | (exfalso; omega) | refine ⟨rfl, _, rfl, ?_⟩
    all_goals (refine fr_cgo k200 [some (.inr (.inl 75)), some (.inl 0), some (.inl _)] 0 0 [] 400 rfl rfl rfl rfl ?_)
    all_goals (repeat' (first | (refine And.intro (by first | omega | (simp (disch := decide) only [up_n, up_s, if_true, if_false, ite_true, ite_false, reduceIte, not_true_eq_false, not_false_eq_true]; omega)) ?_) | (refine m_in (fun hc => ?_) (fun hc => ?_)) | (refine And.intro (fun hc => ?_) (fun hc => ?_) <;> (try (simp (disch := decide) only [up_n, up_s, if_true, if_false, ite_true, ite_false, reduceIte, not_true_eq_false, not_false_eq_true] at hc)) <;> (try (exfalso; omega))) | (refine fun (hc : ¬ _) => ?_; try (simp (disch := decide) only [up_n, up_s, if_true, if_false, ite_true, ite_false, reduceIte, not_true_eq_false, not_false_eq_true] at hc)) | (refine fun (hc : _ = _) => ?_; try (simp (disch := decide) only [up_n, up_s, if_true, if_false, ite_true, ite_false, reduceIte, not_true_eq_false, not_false_eq_true] at hc))))
    all_goals first | (exfalso; omega) | exact ⟨rfl, sv (by assumption), hN⟩
set_option maxHeartbeats 4000000 in
set_option maxRecDepth 100000 in
theorem op_ran1 {n : Int} {M : fr_M} (hN : Rel (n + 1) M) (r1 : R1 M 52 1) (a1 : Int) (hw : 0 ≤ a1 ∧ a1 ≤ 8) : Two 133 200 [.inl 1, .inl a1] M (Rel (n + 1)) := by
  obtain ⟨x1, x2, x3, x4, x5, x6⟩ := r1
  refine Two.of ?_
  rcases x2 with x2 | x2
  · clear x6
    refine fr_cgo k133 [some (.inr (.inl 0)), some (.inl 1), some (.inl a1), none] 0 0 [] 400 rfl rfl rfl rfl ?_
    repeat' (first | (refine And.intro (by first | omega | (simp (disch := decide) only [up_n, up_s, if_true, if_false, ite_true, ite_false, reduceIte, not_true_eq_false, not_false_eq_true]; omega)) ?_) | (refine c_isSort (fun hc => ?_) (fun hc => ?_)) | (refine c_traceOf1 ?_) | (refine And.intro (fun hc => ?_) (fun hc => ?_) <;> (try (simp (disch := decide) only [up_n, up_s, if_true, if_false, ite_true, ite_false, reduceIte, not_true_eq_false, not_false_eq_true] at hc)) <;> (try (exfalso; omega))) | (refine fun (hc : ¬ _) => ?_; try (simp (disch := decide) only [up_n, up_s, if_true, if_false, ite_true, ite_false, reduceIte, not_true_eq_false, not_false_eq_true] at hc)) | (refine fun (hc : _ = _) => ?_; try (simp (disch := decide) only [up_n, up_s, if_true, if_false, ite_true, ite_false, reduceIte, not_true_eq_false, not_false_eq_true] at hc)))
    all_goals first | (exfalso; omega) | refine ⟨rfl, _, rfl, ?_⟩
    all_goals (refine fr_cgo k200 [some (.inr (.inl 75)), some (.inl 1), some (.inl a1)] 0 0 [] 400 rfl rfl rfl rfl ?_)
    all_goals (repeat' (first | (refine And.intro (by first | omega | (simp (disch := decide) only [up_n, up_s, if_true, if_false, ite_true, ite_false, reduceIte, not_true_eq_false, not_false_eq_true]; omega)) ?_) | (refine m_in (fun hc => ?_) (fun hc => ?_)) | (refine And.intro (fun hc => ?_) (fun hc => ?_) <;> (try (simp (disch := decide) only [up_n, up_s, if_true, if_false, ite_true, ite_false, reduceIte, not_true_eq_false, not_false_eq_true] at hc)) <;> (try (exfalso; omega))) | (refine fun (hc : ¬ _) => ?_; try (simp (disch := decide) only [up_n, up_s, if_true, if_false, ite_true, ite_false, reduceIte, not_true_eq_false, not_false_eq_true] at hc)) | (refine fun (hc : _ = _) => ?_; try (simp (disch := decide) only [up_n, up_s, if_true, if_false, ite_true, ite_false, reduceIte, not_true_eq_false, not_false_eq_true] at hc))))
    all_goals first | (exfalso; omega) | exact ⟨rfl, rfl, hN⟩
  · obtain ⟨z0, z1, z2, z3, z4, z5, z6, z7, z8, b1, b2, b3, b4⟩ := x6 x2
    clear x5 x6
    rcases (show a1 = 0 ∨ a1 = 1 ∨ a1 = 2 ∨ a1 = 3 ∨ a1 = 4 ∨ a1 = 5 ∨ a1 = 6 ∨ a1 = 7 ∨ a1 = 8 by omega) with rfl | rfl | rfl | rfl | rfl | rfl | rfl | rfl | rfl
    all_goals (refine fr_cgo k133 [some (.inr (.inl 0)), some (.inl 1), some (.inl _), none] 0 0 [] 400 rfl rfl rfl rfl ?_)
    all_goals (repeat' (first | (refine And.intro (by first | omega | (simp (disch := decide) only [up_n, up_s, if_true, if_false, ite_true, ite_false, reduceIte, not_true_eq_false, not_false_eq_true]; omega)) ?_) | (refine c_isSort (fun hc => ?_) (fun hc => ?_)) | (refine c_traceOf1 ?_) | (refine c_cost1 ⟨b1, b2, b3, b4⟩ ?_) | (refine And.intro (fun hc => ?_) (fun hc => ?_) <;> (try (simp (disch := decide) only [up_n, up_s, if_true, if_false, ite_true, ite_false, reduceIte, not_true_eq_false, not_false_eq_true] at hc)) <;> (try (exfalso; omega))) | (refine fun (hc : ¬ _) => ?_; try (simp (disch := decide) only [up_n, up_s, if_true, if_false, ite_true, ite_false, reduceIte, not_true_eq_false, not_false_eq_true] at hc)) | (refine fun (hc : _ = _) => ?_; try (simp (disch := decide) only [up_n, up_s, if_true, if_false, ite_true, ite_false, reduceIte, not_true_eq_false, not_false_eq_true] at hc))))
    all_goals first | (exfalso; omega) | refine ⟨rfl, _, rfl, ?_⟩
    all_goals (refine fr_cgo k200 [some (.inr (.inl 75)), some (.inl 1), some (.inl _)] 0 0 [] 400 rfl rfl rfl rfl ?_)
    all_goals (repeat' (first | (refine And.intro (by first | omega | (simp (disch := decide) only [up_n, up_s, if_true, if_false, ite_true, ite_false, reduceIte, not_true_eq_false, not_false_eq_true]; omega)) ?_) | (refine m_in (fun hc => ?_) (fun hc => ?_)) | (refine And.intro (fun hc => ?_) (fun hc => ?_) <;> (try (simp (disch := decide) only [up_n, up_s, if_true, if_false, ite_true, ite_false, reduceIte, not_true_eq_false, not_false_eq_true] at hc)) <;> (try (exfalso; omega))) | (refine fun (hc : ¬ _) => ?_; try (simp (disch := decide) only [up_n, up_s, if_true, if_false, ite_true, ite_false, reduceIte, not_true_eq_false, not_false_eq_true] at hc)) | (refine fun (hc : _ = _) => ?_; try (simp (disch := decide) only [up_n, up_s, if_true, if_false, ite_true, ite_false, reduceIte, not_true_eq_false, not_false_eq_true] at hc))))
    all_goals first | (exfalso; omega) | exact ⟨rfl, sv (by assumption), hN⟩
set_option maxHeartbeats 4000000 in
set_option maxRecDepth 100000 in
theorem op_passed0 {n : Int} {M : fr_M} (hN : Rel (n + 1) M) (r1 : R1 M 45 0) (r2 : R2 M 45 46 0) (a1 : Int) : Two 134 201 [.inl 0, .inl a1] M (Rel (n + 1)) := by
  obtain ⟨x1, x2, x3, x4, x5, x6⟩ := r1
  have z := r2 a1
  clear r2
  refine Two.of ?_
  rcases x2 with x2 | x2
  · have x5 := x5 x2
    clear x6 z
    refine fr_cgo k134 [some (.inr (.inl 0)), some (.inl 0), some (.inl a1), none] 0 0 [] 400 rfl rfl rfl rfl ?_
    repeat' (first | (refine And.intro (by first | omega | (simp (disch := decide) only [up_n, up_s, if_true, if_false, ite_true, ite_false, reduceIte, not_true_eq_false, not_false_eq_true]; omega)) ?_) | (refine c_isSort (fun hc => ?_) (fun hc => ?_)) | (refine c_traceOf0 ?_) | (refine And.intro (fun hc => ?_) (fun hc => ?_) <;> (try (simp (disch := decide) only [up_n, up_s, if_true, if_false, ite_true, ite_false, reduceIte, not_true_eq_false, not_false_eq_true] at hc)) <;> (try (exfalso; omega))) | (refine fun (hc : ¬ _) => ?_; try (simp (disch := decide) only [up_n, up_s, if_true, if_false, ite_true, ite_false, reduceIte, not_true_eq_false, not_false_eq_true] at hc)) | (refine fun (hc : _ = _) => ?_; try (simp (disch := decide) only [up_n, up_s, if_true, if_false, ite_true, ite_false, reduceIte, not_true_eq_false, not_false_eq_true] at hc)))
    all_goals first | (exfalso; omega) | refine ⟨rfl, _, rfl, ?_⟩
    all_goals (refine fr_cgo k201 [some (.inr (.inl 75)), some (.inl 0), some (.inl a1)] 0 0 [] 400 rfl rfl rfl rfl ?_)
    all_goals (repeat' (first | (refine And.intro (by first | omega | (simp (disch := decide) only [up_n, up_s, if_true, if_false, ite_true, ite_false, reduceIte, not_true_eq_false, not_false_eq_true]; omega)) ?_) | (refine m_in (fun hc => ?_) (fun hc => ?_)) | (refine And.intro (fun hc => ?_) (fun hc => ?_) <;> (try (simp (disch := decide) only [up_n, up_s, if_true, if_false, ite_true, ite_false, reduceIte, not_true_eq_false, not_false_eq_true] at hc)) <;> (try (exfalso; omega))) | (refine fun (hc : ¬ _) => ?_; try (simp (disch := decide) only [up_n, up_s, if_true, if_false, ite_true, ite_false, reduceIte, not_true_eq_false, not_false_eq_true] at hc)) | (refine fun (hc : _ = _) => ?_; try (simp (disch := decide) only [up_n, up_s, if_true, if_false, ite_true, ite_false, reduceIte, not_true_eq_false, not_false_eq_true] at hc))))
    all_goals first | (exfalso; omega) | exact ⟨rfl, rfl, hN⟩
  · obtain ⟨-, z1, -⟩ := x6 x2
    clear x5 x6
    refine fr_cgo k134 [some (.inr (.inl 0)), some (.inl 0), some (.inl a1), none] 0 0 [] 400 rfl rfl rfl rfl ?_
    repeat' (first | (refine And.intro (by first | omega | (simp (disch := decide) only [up_n, up_s, if_true, if_false, ite_true, ite_false, reduceIte, not_true_eq_false, not_false_eq_true]; omega)) ?_) | (refine c_isSort (fun hc => ?_) (fun hc => ?_)) | (refine c_traceOf0 ?_) | (refine And.intro (fun hc => ?_) (fun hc => ?_) <;> (try (simp (disch := decide) only [up_n, up_s, if_true, if_false, ite_true, ite_false, reduceIte, not_true_eq_false, not_false_eq_true] at hc)) <;> (try (exfalso; omega))) | (refine fun (hc : ¬ _) => ?_; try (simp (disch := decide) only [up_n, up_s, if_true, if_false, ite_true, ite_false, reduceIte, not_true_eq_false, not_false_eq_true] at hc)) | (refine fun (hc : _ = _) => ?_; try (simp (disch := decide) only [up_n, up_s, if_true, if_false, ite_true, ite_false, reduceIte, not_true_eq_false, not_false_eq_true] at hc)))
    all_goals first | (exfalso; omega) | refine ⟨rfl, _, rfl, ?_⟩
    all_goals (refine fr_cgo k201 [some (.inr (.inl 75)), some (.inl 0), some (.inl a1)] 0 0 [] 400 rfl rfl rfl rfl ?_)
    all_goals (repeat' (first | (refine And.intro (by first | omega | (simp (disch := decide) only [up_n, up_s, if_true, if_false, ite_true, ite_false, reduceIte, not_true_eq_false, not_false_eq_true]; omega)) ?_) | (refine m_in (fun hc => ?_) (fun hc => ?_)) | (refine And.intro (fun hc => ?_) (fun hc => ?_) <;> (try (simp (disch := decide) only [up_n, up_s, if_true, if_false, ite_true, ite_false, reduceIte, not_true_eq_false, not_false_eq_true] at hc)) <;> (try (exfalso; omega))) | (refine fun (hc : ¬ _) => ?_; try (simp (disch := decide) only [up_n, up_s, if_true, if_false, ite_true, ite_false, reduceIte, not_true_eq_false, not_false_eq_true] at hc)) | (refine fun (hc : _ = _) => ?_; try (simp (disch := decide) only [up_n, up_s, if_true, if_false, ite_true, ite_false, reduceIte, not_true_eq_false, not_false_eq_true] at hc))))
    all_goals first | (exfalso; omega) | exact ⟨rfl, rfl, hN⟩ | exact ⟨rfl, sv (by omega), hN⟩
set_option maxHeartbeats 4000000 in
set_option maxRecDepth 100000 in
theorem op_passed1 {n : Int} {M : fr_M} (hN : Rel (n + 1) M) (r1 : R1 M 52 1) (r2 : R2 M 52 53 1) (a1 : Int) : Two 134 201 [.inl 1, .inl a1] M (Rel (n + 1)) := by
  obtain ⟨x1, x2, x3, x4, x5, x6⟩ := r1
  have z := r2 a1
  clear r2
  refine Two.of ?_
  rcases x2 with x2 | x2
  · have x5 := x5 x2
    clear x6 z
    refine fr_cgo k134 [some (.inr (.inl 0)), some (.inl 1), some (.inl a1), none] 0 0 [] 400 rfl rfl rfl rfl ?_
    repeat' (first | (refine And.intro (by first | omega | (simp (disch := decide) only [up_n, up_s, if_true, if_false, ite_true, ite_false, reduceIte, not_true_eq_false, not_false_eq_true]; omega)) ?_) | (refine c_isSort (fun hc => ?_) (fun hc => ?_)) | (refine c_traceOf1 ?_) | (refine And.intro (fun hc => ?_) (fun hc => ?_) <;> (try (simp (disch := decide) only [up_n, up_s, if_true, if_false, ite_true, ite_false, reduceIte, not_true_eq_false, not_false_eq_true] at hc)) <;> (try (exfalso; omega))) | (refine fun (hc : ¬ _) => ?_; try (simp (disch := decide) only [up_n, up_s, if_true, if_false, ite_true, ite_false, reduceIte, not_true_eq_false, not_false_eq_true] at hc)) | (refine fun (hc : _ = _) => ?_; try (simp (disch := decide) only [up_n, up_s, if_true, if_false, ite_true, ite_false, reduceIte, not_true_eq_false, not_false_eq_true] at hc)))
    all_goals first | (exfalso; omega) | refine ⟨rfl, _, rfl, ?_⟩
    all_goals (refine fr_cgo k201 [some (.inr (.inl 75)), some (.inl 1), some (.inl a1)] 0 0 [] 400 rfl rfl rfl rfl ?_)
    all_goals (repeat' (first | (refine And.intro (by first | omega | (simp (disch := decide) only [up_n, up_s, if_true, if_false, ite_true, ite_false, reduceIte, not_true_eq_false, not_false_eq_true]; omega)) ?_) | (refine m_in (fun hc => ?_) (fun hc => ?_)) | (refine And.intro (fun hc => ?_) (fun hc => ?_) <;> (try (simp (disch := decide) only [up_n, up_s, if_true, if_false, ite_true, ite_false, reduceIte, not_true_eq_false, not_false_eq_true] at hc)) <;> (try (exfalso; omega))) | (refine fun (hc : ¬ _) => ?_; try (simp (disch := decide) only [up_n, up_s, if_true, if_false, ite_true, ite_false, reduceIte, not_true_eq_false, not_false_eq_true] at hc)) | (refine fun (hc : _ = _) => ?_; try (simp (disch := decide) only [up_n, up_s, if_true, if_false, ite_true, ite_false, reduceIte, not_true_eq_false, not_false_eq_true] at hc))))
    all_goals first | (exfalso; omega) | exact ⟨rfl, rfl, hN⟩
  · obtain ⟨-, z1, -⟩ := x6 x2
    clear x5 x6
    refine fr_cgo k134 [some (.inr (.inl 0)), some (.inl 1), some (.inl a1), none] 0 0 [] 400 rfl rfl rfl rfl ?_
    repeat' (first | (refine And.intro (by first | omega | (simp (disch := decide) only [up_n, up_s, if_true, if_false, ite_true, ite_false, reduceIte, not_true_eq_false, not_false_eq_true]; omega)) ?_) | (refine c_isSort (fun hc => ?_) (fun hc => ?_)) | (refine c_traceOf1 ?_) | (refine And.intro (fun hc => ?_) (fun hc => ?_) <;> (try (simp (disch := decide) only [up_n, up_s, if_true, if_false, ite_true, ite_false, reduceIte, not_true_eq_false, not_false_eq_true] at hc)) <;> (try (exfalso; omega))) | (refine fun (hc : ¬ _) => ?_; try (simp (disch := decide) only [up_n, up_s, if_true, if_false, ite_true, ite_false, reduceIte, not_true_eq_false, not_false_eq_true] at hc)) | (refine fun (hc : _ = _) => ?_; try (simp (disch := decide) only [up_n, up_s, if_true, if_false, ite_true, ite_false, reduceIte, not_true_eq_false, not_false_eq_true] at hc)))
    all_goals first | (exfalso; omega) | refine ⟨rfl, _, rfl, ?_⟩
    all_goals (refine fr_cgo k201 [some (.inr (.inl 75)), some (.inl 1), some (.inl a1)] 0 0 [] 400 rfl rfl rfl rfl ?_)
    all_goals (repeat' (first | (refine And.intro (by first | omega | (simp (disch := decide) only [up_n, up_s, if_true, if_false, ite_true, ite_false, reduceIte, not_true_eq_false, not_false_eq_true]; omega)) ?_) | (refine m_in (fun hc => ?_) (fun hc => ?_)) | (refine And.intro (fun hc => ?_) (fun hc => ?_) <;> (try (simp (disch := decide) only [up_n, up_s, if_true, if_false, ite_true, ite_false, reduceIte, not_true_eq_false, not_false_eq_true] at hc)) <;> (try (exfalso; omega))) | (refine fun (hc : ¬ _) => ?_; try (simp (disch := decide) only [up_n, up_s, if_true, if_false, ite_true, ite_false, reduceIte, not_true_eq_false, not_false_eq_true] at hc)) | (refine fun (hc : _ = _) => ?_; try (simp (disch := decide) only [up_n, up_s, if_true, if_false, ite_true, ite_false, reduceIte, not_true_eq_false, not_false_eq_true] at hc))))
    all_goals first | (exfalso; omega) | exact ⟨rfl, rfl, hN⟩ | exact ⟨rfl, sv (by omega), hN⟩
set_option maxHeartbeats 4000000 in
set_option maxRecDepth 100000 in
theorem op_ran {n : Int} {M : fr_M} (hR : Rel n M) (hn : n ≤ 512) (a0 : Int) (a1 : Int) (g0 : fr_in a0) (g1 : fr_in a1) : Two 133 200 [.inl a0, .inl a1] M (Rel (n + 1)) := by
  have hN := hR.next
  by_cases hs : (a0 = 0 ∨ a0 = 1) ∧ 0 ≤ a1 ∧ a1 ≤ 8
  · obtain ⟨h0, h1, h2, h3, h4, h5, h6, h7, h8, o1, o2, o3, k1, k2, k3, k4, k5, t1, t2, s1, r1, r1', r2, r2', r3, r4, l⟩ := hR
    obtain ⟨hs, hw⟩ := hs
    rcases hs with rfl | rfl
    · exact op_ran0 hN r1 a1 hw
    · exact op_ran1 hN r1' a1 hw
  · clear hR
    refine Two.of ?_
    refine fr_cgo k133 [some (.inr (.inl 0)), some (.inl a0), some (.inl a1), none] 0 0 [] 400 rfl rfl rfl rfl ?_
    repeat' (first | (refine And.intro (by first | omega | (simp (disch := decide) only [up_n, up_s, if_true, if_false, ite_true, ite_false, reduceIte, not_true_eq_false, not_false_eq_true]; omega)) ?_) | (refine c_isSort (fun hc => ?_) (fun hc => ?_)) | (refine And.intro (fun hc => ?_) (fun hc => ?_) <;> (try (simp (disch := decide) only [up_n, up_s, if_true, if_false, ite_true, ite_false, reduceIte, not_true_eq_false, not_false_eq_true] at hc)) <;> (try (exfalso; omega))) | (refine fun (hc : ¬ _) => ?_; try (simp (disch := decide) only [up_n, up_s, if_true, if_false, ite_true, ite_false, reduceIte, not_true_eq_false, not_false_eq_true] at hc)) | (refine fun (hc : _ = _) => ?_; try (simp (disch := decide) only [up_n, up_s, if_true, if_false, ite_true, ite_false, reduceIte, not_true_eq_false, not_false_eq_true] at hc)))
    all_goals first | (exfalso; omega) | refine ⟨rfl, _, rfl, ?_⟩
    all_goals (refine fr_cgo k200 [some (.inr (.inl 75)), some (.inl a0), some (.inl a1)] 0 0 [] 400 rfl rfl rfl rfl ?_)
    all_goals (repeat' (first | (refine And.intro (by first | omega | (simp (disch := decide) only [up_n, up_s, if_true, if_false, ite_true, ite_false, reduceIte, not_true_eq_false, not_false_eq_true]; omega)) ?_) | (refine m_in (fun hc => ?_) (fun hc => ?_)) | (refine And.intro (fun hc => ?_) (fun hc => ?_) <;> (try (simp (disch := decide) only [up_n, up_s, if_true, if_false, ite_true, ite_false, reduceIte, not_true_eq_false, not_false_eq_true] at hc)) <;> (try (exfalso; omega))) | (refine fun (hc : ¬ _) => ?_; try (simp (disch := decide) only [up_n, up_s, if_true, if_false, ite_true, ite_false, reduceIte, not_true_eq_false, not_false_eq_true] at hc)) | (refine fun (hc : _ = _) => ?_; try (simp (disch := decide) only [up_n, up_s, if_true, if_false, ite_true, ite_false, reduceIte, not_true_eq_false, not_false_eq_true] at hc))))
    all_goals first | (exfalso; omega) | exact ⟨rfl, rfl, hN⟩
set_option maxHeartbeats 4000000 in
set_option maxRecDepth 100000 in
theorem op_passed {n : Int} {M : fr_M} (hR : Rel n M) (hn : n ≤ 512) (a0 : Int) (a1 : Int) (g0 : fr_in a0) (g1 : fr_in a1) : Two 134 201 [.inl a0, .inl a1] M (Rel (n + 1)) := by
  have hN := hR.next
  by_cases hs : a0 = 0 ∨ a0 = 1
  · obtain ⟨h0, h1, h2, h3, h4, h5, h6, h7, h8, o1, o2, o3, k1, k2, k3, k4, k5, t1, t2, s1, r1, r1', r2, r2', r3, r4, l⟩ := hR
    rcases hs with rfl | rfl
    · exact op_passed0 hN r1 r2 a1
    · exact op_passed1 hN r1' r2' a1
  · clear hR
    refine Two.of ?_
    refine fr_cgo k134 [some (.inr (.inl 0)), some (.inl a0), some (.inl a1), none] 0 0 [] 400 rfl rfl rfl rfl ?_
    repeat' (first | (refine And.intro (by first | omega | (simp (disch := decide) only [up_n, up_s, if_true, if_false, ite_true, ite_false, reduceIte, not_true_eq_false, not_false_eq_true]; omega)) ?_) | (refine c_isSort (fun hc => ?_) (fun hc => ?_)) | (refine And.intro (fun hc => ?_) (fun hc => ?_) <;> (try (simp (disch := decide) only [up_n, up_s, if_true, if_false, ite_true, ite_false, reduceIte, not_true_eq_false, not_false_eq_true] at hc)) <;> (try (exfalso; omega))) | (refine fun (hc : ¬ _) => ?_; try (simp (disch := decide) only [up_n, up_s, if_true, if_false, ite_true, ite_false, reduceIte, not_true_eq_false, not_false_eq_true] at hc)) | (refine fun (hc : _ = _) => ?_; try (simp (disch := decide) only [up_n, up_s, if_true, if_false, ite_true, ite_false, reduceIte, not_true_eq_false, not_false_eq_true] at hc)))
    all_goals first | (exfalso; omega) | refine ⟨rfl, _, rfl, ?_⟩
    all_goals (refine fr_cgo k201 [some (.inr (.inl 75)), some (.inl a0), some (.inl a1)] 0 0 [] 400 rfl rfl rfl rfl ?_)
    all_goals (repeat' (first | (refine And.intro (by first | omega | (simp (disch := decide) only [up_n, up_s, if_true, if_false, ite_true, ite_false, reduceIte, not_true_eq_false, not_false_eq_true]; omega)) ?_) | (refine m_in (fun hc => ?_) (fun hc => ?_)) | (refine And.intro (fun hc => ?_) (fun hc => ?_) <;> (try (simp (disch := decide) only [up_n, up_s, if_true, if_false, ite_true, ite_false, reduceIte, not_true_eq_false, not_false_eq_true] at hc)) <;> (try (exfalso; omega))) | (refine fun (hc : ¬ _) => ?_; try (simp (disch := decide) only [up_n, up_s, if_true, if_false, ite_true, ite_false, reduceIte, not_true_eq_false, not_false_eq_true] at hc)) | (refine fun (hc : _ = _) => ?_; try (simp (disch := decide) only [up_n, up_s, if_true, if_false, ite_true, ite_false, reduceIte, not_true_eq_false, not_false_eq_true] at hc))))
    all_goals first | (exfalso; omega) | exact ⟨rfl, rfl, hN⟩
