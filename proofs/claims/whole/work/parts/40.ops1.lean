theorem sv {a b : Int} (h : a = b) : (some (.inl a) : Option fr_V) = some (.inl b) := by rw [h]
theorem Two.of {mx mm : Nat} {as : List fr_V} {M : fr_M} {N : fr_M → Prop} (h : fr_Call mx (.inr (.inl 0) :: as) sh0 M (fun r sh M1 => sh = sh0 ∧ ∃ v, r = some (.inl v) ∧ fr_Call mm (.inr (.inl 75) :: as) sh0 M1 (fun r2 sh2 M2 => sh2 = sh0 ∧ r2 = some (.inl v) ∧ N M2))) : Two mx mm as M N := h
set_option maxHeartbeats 4000000 in
set_option maxRecDepth 100000 in
theorem c_addRoutine {M : fr_M} {Q : Option fr_V → fr_H → fr_M → Prop} (hP : 0 ≤ M 1 0 ∧ M 1 0 ≤ 6) (h : Q (some (.inl (M 1 0))) sh0 (fr_up M 1 0 (M 1 0 + 1))) : fr_Call 76 [.inr (.inl 1)] sh0 M Q := by
  refine fr_cgo k76 [some (.inr (.inl 1)), none] 0 0 [] 400 rfl rfl rfl rfl ?_
  repeat' (first | (refine And.intro (by first | omega | (simp (disch := decide) only [up_n, up_s, if_true, if_false, ite_true, ite_false, reduceIte, not_true_eq_false, not_false_eq_true]; omega)) ?_) | (refine And.intro (fun hc => ?_) (fun hc => ?_) <;> (try (simp (disch := decide) only [up_n, up_s, if_true, if_false, ite_true, ite_false, reduceIte, not_true_eq_false, not_false_eq_true] at hc)) <;> (try (exfalso; omega))) | (refine fun (hc : ¬ _) => ?_; try (simp (disch := decide) only [up_n, up_s, if_true, if_false, ite_true, ite_false, reduceIte, not_true_eq_false, not_false_eq_true] at hc)) | (refine fun (hc : _ = _) => ?_; try (simp (disch := decide) only [up_n, up_s, if_true, if_false, ite_true, ite_false, reduceIte, not_true_eq_false, not_false_eq_true] at hc)))
  exact h
set_option maxHeartbeats 4000000 in
set_option maxRecDepth 100000 in
theorem op_routine {n : Int} {M : fr_M} (hR : Rel n M) (hn : n ≤ 512) : Two 107 144 [] M (Rel (n + 1)) := by
  obtain ⟨h0, h1, h2, h3, h4, h5, h6, h7, h8, o1, o2, o3, k1, k2, k3, k4, k5, t1, t2, s1, r1, r1', r2, r2', r3, r4, l⟩ := id hR
  obtain ⟨p1, p2, p3, p4, p5, p6⟩ := id h1
  refine Two.of ?_
  refine fr_cgo k107 [some (.inr (.inl 0))] 0 0 [] 400 rfl rfl rfl rfl ?_
  repeat' (first | (refine And.intro (by first | omega | (simp (disch := decide) only [up_n, up_s, if_true, if_false, ite_true, ite_false, reduceIte, not_true_eq_false, not_false_eq_true]; omega)) ?_) | (refine c_addRoutine (by omega) ?_) | (refine And.intro (fun hc => ?_) (fun hc => ?_) <;> (try (simp (disch := decide) only [up_n, up_s, if_true, if_false, ite_true, ite_false, reduceIte, not_true_eq_false, not_false_eq_true] at hc)) <;> (try (exfalso; omega))) | (refine fun (hc : ¬ _) => ?_; try (simp (disch := decide) only [up_n, up_s, if_true, if_false, ite_true, ite_false, reduceIte, not_true_eq_false, not_false_eq_true] at hc)) | (refine fun (hc : _ = _) => ?_; try (simp (disch := decide) only [up_n, up_s, if_true, if_false, ite_true, ite_false, reduceIte, not_true_eq_false, not_false_eq_true] at hc)))
  · refine ⟨rfl, _, rfl, ?_⟩
    refine fr_cgo k144 [some (.inr (.inl 75))] 0 0 [] 400 rfl rfl rfl rfl ?_
    repeat' (first | (refine And.intro (by first | omega | (simp (disch := decide) only [up_n, up_s, if_true, if_false, ite_true, ite_false, reduceIte, not_true_eq_false, not_false_eq_true]; omega)) ?_) | (refine And.intro (fun hc => ?_) (fun hc => ?_) <;> (try (simp (disch := decide) only [up_n, up_s, if_true, if_false, ite_true, ite_false, reduceIte, not_true_eq_false, not_false_eq_true] at hc)) <;> (try (exfalso; omega))) | (refine fun (hc : ¬ _) => ?_; try (simp (disch := decide) only [up_n, up_s, if_true, if_false, ite_true, ite_false, reduceIte, not_true_eq_false, not_false_eq_true] at hc)) | (refine fun (hc : _ = _) => ?_; try (simp (disch := decide) only [up_n, up_s, if_true, if_false, ite_true, ite_false, reduceIte, not_true_eq_false, not_false_eq_true] at hc)))
    all_goals first | (exfalso; omega) | skip
    · refine ⟨rfl, sv ?_, ?_⟩
      · show M 75 0 + 1 - 1 = M 1 0
        omega
      · refine ⟨by omega, ?_, ?_, h3, ?_, ?_, h6, h7, h8, o1, o2, o3, k1, ?_, k3, k4, k5, t1, t2, s1, r1, r1', r2, r2', r3, r4, l.keep (kp_u (kp_u kp_r rfl) rfl)⟩
        · show M 1 0 + 1 = M 75 0 + 1 ∧ 0 ≤ M 75 0 + 1 ∧ M 75 0 + 1 ≤ 6 ∧ M 1 1 = M 75 4 ∧ 0 ≤ M 75 4 ∧ M 75 4 ≤ 40
          omega
        · intro r q0 q1
          have e := h2 r q0 q1
          simp (disch := decide) only [up_n, up_s, if_true, if_false, ite_true, ite_false, reduceIte, not_true_eq_false, not_false_eq_true]
          omega
        · intro b q0 q1
          have e := h4 b q0 q1
          simp (disch := decide) only [up_n, up_s, if_true, if_false, ite_true, ite_false, reduceIte, not_true_eq_false, not_false_eq_true]
          omega
        · intro b q0 q1
          have e := h5 b q0 q1
          simp (disch := decide) only [up_n, up_s, if_true, if_false, ite_true, ite_false, reduceIte, not_true_eq_false, not_false_eq_true]
          omega
        · intro u q0 q1
          have e := k2 u q0 q1
          simp (disch := decide) only [up_n, up_s, if_true, if_false, ite_true, ite_false, reduceIte, not_true_eq_false, not_false_eq_true]
          omega
  · refine ⟨rfl, _, rfl, ?_⟩
    refine fr_cgo k144 [some (.inr (.inl 75))] 0 0 [] 400 rfl rfl rfl rfl ?_
    repeat' (first | (refine And.intro (by first | omega | (simp (disch := decide) only [up_n, up_s, if_true, if_false, ite_true, ite_false, reduceIte, not_true_eq_false, not_false_eq_true]; omega)) ?_) | (refine And.intro (fun hc => ?_) (fun hc => ?_) <;> (try (simp (disch := decide) only [up_n, up_s, if_true, if_false, ite_true, ite_false, reduceIte, not_true_eq_false, not_false_eq_true] at hc)) <;> (try (exfalso; omega))) | (refine fun (hc : ¬ _) => ?_; try (simp (disch := decide) only [up_n, up_s, if_true, if_false, ite_true, ite_false, reduceIte, not_true_eq_false, not_false_eq_true] at hc)) | (refine fun (hc : _ = _) => ?_; try (simp (disch := decide) only [up_n, up_s, if_true, if_false, ite_true, ite_false, reduceIte, not_true_eq_false, not_false_eq_true] at hc)))
    all_goals first | (exfalso; omega) | exact ⟨rfl, rfl, hR.next⟩
set_option maxHeartbeats 4000000 in
set_option maxRecDepth 100000 in
theorem op_tear {n : Int} {M : fr_M} (hR : Rel n M) (hn : n ≤ 512) : Two 129 191 [] M (Rel (n + 1)) := by
  obtain ⟨h0, h1, h2, h3, h4, h5, h6, h7, h8, o1, o2, o3, k1, k2, k3, k4, k5, t1, t2, s1, r1, r1', r2, r2', r3, r4, l⟩ := id hR
  refine Two.of ?_
  refine fr_cgo k129 [some (.inr (.inl 0)), none] 0 0 [] 400 rfl rfl rfl rfl ?_
  repeat' (first | (refine And.intro (by first | omega | (simp (disch := decide) only [up_n, up_s, if_true, if_false, ite_true, ite_false, reduceIte, not_true_eq_false, not_false_eq_true]; omega)) ?_) | (refine And.intro (fun hc => ?_) (fun hc => ?_) <;> (try (simp (disch := decide) only [up_n, up_s, if_true, if_false, ite_true, ite_false, reduceIte, not_true_eq_false, not_false_eq_true] at hc)) <;> (try (exfalso; omega))) | (refine fun (hc : ¬ _) => ?_; try (simp (disch := decide) only [up_n, up_s, if_true, if_false, ite_true, ite_false, reduceIte, not_true_eq_false, not_false_eq_true] at hc)) | (refine fun (hc : _ = _) => ?_; try (simp (disch := decide) only [up_n, up_s, if_true, if_false, ite_true, ite_false, reduceIte, not_true_eq_false, not_false_eq_true] at hc)))
  refine ⟨rfl, _, rfl, ?_⟩
  refine fr_cgo k191 [some (.inr (.inl 75)), none] 0 0 [] 400 rfl rfl rfl rfl ?_
  repeat' (first | (refine And.intro (by first | omega | (simp (disch := decide) only [up_n, up_s, if_true, if_false, ite_true, ite_false, reduceIte, not_true_eq_false, not_false_eq_true]; omega)) ?_) | (refine And.intro (fun hc => ?_) (fun hc => ?_) <;> (try (simp (disch := decide) only [up_n, up_s, if_true, if_false, ite_true, ite_false, reduceIte, not_true_eq_false, not_false_eq_true] at hc)) <;> (try (exfalso; omega))) | (refine fun (hc : ¬ _) => ?_; try (simp (disch := decide) only [up_n, up_s, if_true, if_false, ite_true, ite_false, reduceIte, not_true_eq_false, not_false_eq_true] at hc)) | (refine fun (hc : _ = _) => ?_; try (simp (disch := decide) only [up_n, up_s, if_true, if_false, ite_true, ite_false, reduceIte, not_true_eq_false, not_false_eq_true] at hc)))
  refine ⟨rfl, sv t1.1.symm, ?_⟩
  exact ⟨by omega, h1, h2, h3, h4, h5, h6, h7, h8, o1, o2, o3, k1, k2, k3, k4, k5, ⟨rfl, (by decide : (0 : Int) ≤ 0), (by decide : (0 : Int) ≤ 200)⟩, fun i q0 q1 => absurd (show i < 0 from q1) (by omega), s1, r1, r1', r2, r2', r3, r4, l.keep (kp_u (kp_u kp_r rfl) rfl)⟩
set_option maxHeartbeats 4000000 in
set_option maxRecDepth 100000 in
theorem op_has {n : Int} {M : fr_M} (hR : Rel n M) (hn : n ≤ 512) (a0 : Int) (g0 : fr_in a0) : Two 138 205 [.inl a0] M (Rel (n + 1)) := by
  obtain ⟨h0, h1, h2, h3, h4, h5, h6, h7, h8, o1, o2, o3, k1, k2, k3, k4, k5, t1, t2, s1, r1, r1', r2, r2', r3, r4, l⟩ := id hR
  obtain ⟨p1, p2, p3, p4, p5, p6⟩ := id h1
  obtain ⟨s2, s3, s4, s5, s6, s7⟩ := id s1
  have t11 := t1.1
  have k11 := k1.1
  refine Two.of ?_
  refine fr_cgo k138 [some (.inr (.inl 0)), some (.inl a0)] 0 0 [] 400 rfl rfl rfl rfl ?_
  repeat' (first | (refine And.intro (by first | omega | (simp (disch := decide) only [up_n, up_s, if_true, if_false, ite_true, ite_false, reduceIte, not_true_eq_false, not_false_eq_true]; omega)) ?_) | (refine c_asNumber (by rw [s2]; exact s3) ?_) | (refine And.intro (fun hc => ?_) (fun hc => ?_) <;> (try (simp (disch := decide) only [up_n, up_s, if_true, if_false, ite_true, ite_false, reduceIte, not_true_eq_false, not_false_eq_true] at hc)) <;> (try (exfalso; omega))) | (refine fun (hc : ¬ _) => ?_; try (simp (disch := decide) only [up_n, up_s, if_true, if_false, ite_true, ite_false, reduceIte, not_true_eq_false, not_false_eq_true] at hc)) | (refine fun (hc : _ = _) => ?_; try (simp (disch := decide) only [up_n, up_s, if_true, if_false, ite_true, ite_false, reduceIte, not_true_eq_false, not_false_eq_true] at hc)))
  all_goals first | (exfalso; omega) | refine ⟨rfl, _, rfl, ?_⟩
  all_goals (refine fr_cgo k205 [some (.inr (.inl 75)), some (.inl a0)] 0 0 [] 400 rfl rfl rfl rfl ?_)
  all_goals (repeat' (first | (refine And.intro (by first | omega | (simp (disch := decide) only [up_n, up_s, if_true, if_false, ite_true, ite_false, reduceIte, not_true_eq_false, not_false_eq_true]; omega)) ?_) | (refine And.intro (fun hc => ?_) (fun hc => ?_) <;> (try (simp (disch := decide) only [up_n, up_s, if_true, if_false, ite_true, ite_false, reduceIte, not_true_eq_false, not_false_eq_true] at hc)) <;> (try (exfalso; omega))) | (refine fun (hc : ¬ _) => ?_; try (simp (disch := decide) only [up_n, up_s, if_true, if_false, ite_true, ite_false, reduceIte, not_true_eq_false, not_false_eq_true] at hc)) | (refine fun (hc : _ = _) => ?_; try (simp (disch := decide) only [up_n, up_s, if_true, if_false, ite_true, ite_false, reduceIte, not_true_eq_false, not_false_eq_true] at hc))))
  all_goals first | (exfalso; omega) | (refine ⟨rfl, sv (by omega), hR.next⟩)
