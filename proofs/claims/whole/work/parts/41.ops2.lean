theorem first_iff {M : fr_M} (h3 : P3 M) (h4 : P4 M) (h1 : P1 M) {b : Int} (q0 : 0 ≤ b) (q1 : b < M 75 4) : M 77 (9 * M 79 b) = b ↔ M 5 b = 0 := by
  obtain ⟨e1, e2, e3, e4, e5, e6, -⟩ := h4 b q0 q1
  obtain ⟨p1, p2, p3, -⟩ := h1
  constructor
  · intro h
    obtain ⟨-, -, -, -, f⟩ := h3 (M 79 b) 0 e2 (by omega) (by omega) (by omega)
    rw [Int.add_zero, h] at f
    exact f
  · intro h
    rw [h, Int.add_zero] at e6
    exact e6
set_option maxHeartbeats 4000000 in
set_option maxRecDepth 100000 in
theorem op_count {n : Int} {M : fr_M} (hR : Rel n M) (hn : n ≤ 512) (a0 : Int) (a1 : Int) (a2 : Int) (g0 : fr_in a0) (g1 : fr_in a1) (g2 : fr_in a2) : Two 111 149 [.inl a0, .inl a1, .inl a2] M (Rel (n + 1)) := by
  obtain ⟨h0, h1, h2, h3, h4, h5, h6, h7, h8, o1, o2, o3, k1, k2, k3, k4, k5, t1, t2, s1, r1, r1', r2, r2', r3, r4, l⟩ := id hR
  obtain ⟨p1, p2, p3, p4, p5, p6⟩ := id h1
  have e5 := h5 a0
  have e7 := h7 (4 * a0 + a1)
  have ei : a0 * 4 + a1 = 4 * a0 + a1 := by omega
  refine Two.of ?_
  refine fr_cgo k111 [some (.inr (.inl 0)), some (.inl a0), some (.inl a1), some (.inl a2), none] 0 0 [] 400 rfl rfl rfl rfl ?_
  repeat' (first | (refine And.intro (by first | omega | (simp (disch := decide) only [up_n, up_s, if_true, if_false, ite_true, ite_false, reduceIte, not_true_eq_false, not_false_eq_true]; omega)) ?_) | (refine c_isBlock (fun hc => ?_) (fun hc => ?_)) | (refine And.intro (fun hc => ?_) (fun hc => ?_) <;> (try (simp (disch := decide) only [up_n, up_s, if_true, if_false, ite_true, ite_false, reduceIte, not_true_eq_false, not_false_eq_true] at hc)) <;> (try (exfalso; omega))) | (refine fun (hc : ¬ _) => ?_; try (simp (disch := decide) only [up_n, up_s, if_true, if_false, ite_true, ite_false, reduceIte, not_true_eq_false, not_false_eq_true] at hc)) | (refine fun (hc : _ = _) => ?_; try (simp (disch := decide) only [up_n, up_s, if_true, if_false, ite_true, ite_false, reduceIte, not_true_eq_false, not_false_eq_true] at hc)))
  all_goals first | (exfalso; omega) | refine ⟨rfl, _, rfl, ?_⟩
  all_goals (refine fr_cgo k149 [some (.inr (.inl 75)), some (.inl a0), some (.inl a1), some (.inl a2), none] 0 0 [] 400 rfl rfl rfl rfl ?_)
  all_goals (repeat' (first | (refine And.intro (by first | omega | (simp (disch := decide) only [up_n, up_s, if_true, if_false, ite_true, ite_false, reduceIte, not_true_eq_false, not_false_eq_true]; omega)) ?_) | (refine m_isBlock (by first | omega | (simp (disch := decide) only [up_n, up_s, if_true, if_false, ite_true, ite_false, reduceIte, not_true_eq_false, not_false_eq_true]; omega)) (fun hc => ?_) (fun hc => ?_)) | (refine m_in (fun hc => ?_) (fun hc => ?_)) | (refine And.intro (fun hc => ?_) (fun hc => ?_) <;> (try (simp (disch := decide) only [up_n, up_s, if_true, if_false, ite_true, ite_false, reduceIte, not_true_eq_false, not_false_eq_true] at hc)) <;> (try (exfalso; omega))) | (refine fun (hc : ¬ _) => ?_; try (simp (disch := decide) only [up_n, up_s, if_true, if_false, ite_true, ite_false, reduceIte, not_true_eq_false, not_false_eq_true] at hc)) | (refine fun (hc : _ = _) => ?_; try (simp (disch := decide) only [up_n, up_s, if_true, if_false, ite_true, ite_false, reduceIte, not_true_eq_false, not_false_eq_true] at hc))))
  all_goals first | (exfalso; omega) | (exfalso; simp (disch := decide) only [up_n, up_s, if_true, if_false, ite_true, ite_false, reduceIte, not_true_eq_false, not_false_eq_true] at *; omega) | exact ⟨rfl, rfl, hR.next⟩ | skip
  refine ⟨rfl, sv ?_, by omega, h1, h2, h3, h4, h5, h6, ?_, h8, o1, o2, o3, k1, k2, k3, k4, k5, t1, t2, s1, r1, r1', r2, r2', r3, r4, l.keep (kp_u (kp_u kp_r rfl) rfl)⟩
  · simp (disch := decide) only [up_n, up_s, if_true, if_false, ite_true, ite_false, reduceIte, not_true_eq_false, not_false_eq_true]
    rw [ei]
    omega
  · intro i q0 q1
    have e := h7 i q0 q1
    simp (disch := decide) only [up_n, up_s, if_true, if_false, ite_true, ite_false, reduceIte, not_true_eq_false, not_false_eq_true]
    rw [ei]
    split <;> omega
