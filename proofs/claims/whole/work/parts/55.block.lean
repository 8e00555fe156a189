set_option maxHeartbeats 4000000 in
set_option maxRecDepth 100000 in
theorem c_addBlock {M : fr_M} {r z : Int} {Q : Option fr_V → fr_H → fr_M → Prop} (hr : 0 ≤ r ∧ r < 6) (hm : 0 ≤ M 2 r ∧ M 2 r < 9) (hc : 0 ≤ M 1 1 ∧ M 1 1 < 40) (h : Q (some (.inl (M 1 1))) sh0 (fr_up (fr_up (fr_up (fr_up (fr_up (fr_up (fr_up M 1 1 (M 1 1 + 1)) 4 (M 1 1) r) 5 (M 1 1) (M 2 r)) 3 (r * 9 + M 2 r) (M 1 1)) 2 r (M 2 r + 1)) 6 (M 1 1) z) 7 (M 1 1) 0)) : fr_Call 77 [.inr (.inl 1), .inl r, .inl z] sh0 M Q := by
  refine fr_cgo k77 [some (.inr (.inl 1)), some (.inl r), some (.inl z), none] 0 0 [] 400 rfl rfl rfl rfl ?_
  repeat' (first | (refine And.intro (by first | omega | (simp (disch := decide) only [up_n, up_s, cp_n, rw_n, rw_s, up1_, if_true, if_false, ite_true, ite_false, reduceIte, eq_self, Int.reduceEq, true_and, and_true, not_true_eq_false, not_false_eq_true]; omega)) ?_) | (refine And.intro (fun hc => ?_) (fun hc => ?_) <;> (try (simp (disch := decide) only [up_n, up_s, cp_n, rw_n, rw_s, up1_, if_true, if_false, ite_true, ite_false, reduceIte, eq_self, Int.reduceEq, true_and, and_true, not_true_eq_false, not_false_eq_true] at hc)) <;> (try (exfalso; omega))) | (refine fun (hc : ¬ _) => ?_; try (simp (disch := decide) only [up_n, up_s, cp_n, rw_n, rw_s, up1_, if_true, if_false, ite_true, ite_false, reduceIte, eq_self, Int.reduceEq, true_and, and_true, not_true_eq_false, not_false_eq_true] at hc)) | (refine fun (hc : _ = _) => ?_; try (simp (disch := decide) only [up_n, up_s, cp_n, rw_n, rw_s, up1_, if_true, if_false, ite_true, ite_false, reduceIte, eq_self, Int.reduceEq, true_and, and_true, not_true_eq_false, not_false_eq_true] at hc)))
  exact h
set_option maxHeartbeats 4000000 in
set_option maxRecDepth 100000 in
theorem c_oappend {M : fr_M} {b : Int} {Q : Option fr_V → fr_H → fr_M → Prop} (hb : 0 ≤ b ∧ b < 40) (hr : 0 ≤ M 4 b ∧ M 4 b < 6) (hm : 0 ≤ M 5 b ∧ M 5 b < 9) (h : Q none sh0 (fr_up (fr_up M 14 (M 4 b * 9 + M 5 b) b) 15 b (M 5 b))) : fr_Call 46 [.inr (.inl 13), .inl b] sh0 M Q := by
  refine fr_cgo k46 [some (.inr (.inl 13)), some (.inl b)] 0 0 [] 400 rfl rfl rfl rfl ?_
  repeat' (first | (refine And.intro (by first | omega | (simp (disch := decide) only [up_n, up_s, cp_n, rw_n, rw_s, up1_, if_true, if_false, ite_true, ite_false, reduceIte, eq_self, Int.reduceEq, true_and, and_true, not_true_eq_false, not_false_eq_true]; omega)) ?_) | (refine c_put (by first | omega | (simp (disch := decide) only [up_n, up_s, cp_n, rw_n, rw_s, up1_, if_true, if_false, ite_true, ite_false, reduceIte, eq_self, Int.reduceEq, true_and, and_true, not_true_eq_false, not_false_eq_true]; omega)) (by first | omega | (simp (disch := decide) only [up_n, up_s, cp_n, rw_n, rw_s, up1_, if_true, if_false, ite_true, ite_false, reduceIte, eq_self, Int.reduceEq, true_and, and_true, not_true_eq_false, not_false_eq_true]; omega)) (by first | omega | (simp (disch := decide) only [up_n, up_s, cp_n, rw_n, rw_s, up1_, if_true, if_false, ite_true, ite_false, reduceIte, eq_self, Int.reduceEq, true_and, and_true, not_true_eq_false, not_false_eq_true]; omega)) ?_) | (refine And.intro (fun hc => ?_) (fun hc => ?_) <;> (try (simp (disch := decide) only [up_n, up_s, cp_n, rw_n, rw_s, up1_, if_true, if_false, ite_true, ite_false, reduceIte, eq_self, Int.reduceEq, true_and, and_true, not_true_eq_false, not_false_eq_true] at hc)) <;> (try (exfalso; omega))) | (refine fun (hc : ¬ _) => ?_; try (simp (disch := decide) only [up_n, up_s, cp_n, rw_n, rw_s, up1_, if_true, if_false, ite_true, ite_false, reduceIte, eq_self, Int.reduceEq, true_and, and_true, not_true_eq_false, not_false_eq_true] at hc)) | (refine fun (hc : _ = _) => ?_; try (simp (disch := decide) only [up_n, up_s, cp_n, rw_n, rw_s, up1_, if_true, if_false, ite_true, ite_false, reduceIte, eq_self, Int.reduceEq, true_and, and_true, not_true_eq_false, not_false_eq_true] at hc)))
  exact h
set_option maxHeartbeats 4000000 in
set_option maxRecDepth 100000 in
theorem c_forget {M : fr_M} {Q : Option fr_V → fr_H → fr_M → Prop} (h : Q none sh0 (fr_up M 13 5 0)) : fr_Call 56 [.inr (.inl 13)] sh0 M Q := by
  refine fr_cgo k56 [some (.inr (.inl 13))] 0 0 [] 400 rfl rfl rfl rfl ?_
  repeat' (first | (refine And.intro (by first | omega | (simp (disch := decide) only [up_n, up_s, cp_n, rw_n, rw_s, up1_, if_true, if_false, ite_true, ite_false, reduceIte, eq_self, Int.reduceEq, true_and, and_true, not_true_eq_false, not_false_eq_true]; omega)) ?_) | (refine And.intro (fun hc => ?_) (fun hc => ?_) <;> (try (simp (disch := decide) only [up_n, up_s, cp_n, rw_n, rw_s, up1_, if_true, if_false, ite_true, ite_false, reduceIte, eq_self, Int.reduceEq, true_and, and_true, not_true_eq_false, not_false_eq_true] at hc)) <;> (try (exfalso; omega))) | (refine fun (hc : ¬ _) => ?_; try (simp (disch := decide) only [up_n, up_s, cp_n, rw_n, rw_s, up1_, if_true, if_false, ite_true, ite_false, reduceIte, eq_self, Int.reduceEq, true_and, and_true, not_true_eq_false, not_false_eq_true] at hc)) | (refine fun (hc : _ = _) => ?_; try (simp (disch := decide) only [up_n, up_s, cp_n, rw_n, rw_s, up1_, if_true, if_false, ite_true, ite_false, reduceIte, eq_self, Int.reduceEq, true_and, and_true, not_true_eq_false, not_false_eq_true] at hc)))
  exact h
set_option maxHeartbeats 4000000 in
set_option maxRecDepth 100000 in
theorem op_block {n : Int} {M : fr_M} (hR : Rel n M) (hn : n ≤ 512) (a0 : Int) (a1 : Int) (g0 : fr_in a0) (g1 : fr_in a1) : Two 108 145 [.inl a0, .inl a1] M (Rel (n + 1)) := by
  obtain ⟨h0, h1, h2, h3, h4, h5, h6, h7, h8, o1, o2, o3, k1, k2, k3, k4, k5, t1, t2, s1, r1, r1', r2, r2', r3, r4, l⟩ := id hR
  obtain ⟨p1, p2, p3, p4, p5, p6⟩ := id h1
  have hN := hR.next
  by_cases hs : (0 ≤ a0 ∧ a0 < M 75 0) ∧ (1 ≤ a1 ∧ a1 ≤ 200) ∧ M 76 a0 < 9 ∧ M 75 4 < 40
  · obtain ⟨hs1, hs2, hs3, hs4⟩ := hs
    obtain ⟨u1, u2, u3, u4⟩ := h2 a0 (by omega) (by omega)
    refine Two.of ?_
    refine fr_cgo k108 [some (.inr (.inl 0)), some (.inl a0), some (.inl a1), none] 0 0 [] 400 rfl rfl rfl rfl ?_
    repeat' (first | (refine And.intro (by first | omega | (simp (disch := decide) only [up_n, up_s, cp_n, rw_n, rw_s, up1_, if_true, if_false, ite_true, ite_false, reduceIte, eq_self, Int.reduceEq, true_and, and_true, not_true_eq_false, not_false_eq_true]; omega)) ?_) | (refine c_isRoutine (fun hc => ?_) (fun hc => ?_) <;> (try (simp (disch := decide) only [up_n, up_s, cp_n, rw_n, rw_s, up1_, if_true, if_false, ite_true, ite_false, reduceIte, eq_self, Int.reduceEq, true_and, and_true, not_true_eq_false, not_false_eq_true] at hc))) | (refine c_addBlock (by first | omega | (simp (disch := decide) only [up_n, up_s, cp_n, rw_n, rw_s, up1_, if_true, if_false, ite_true, ite_false, reduceIte, eq_self, Int.reduceEq, true_and, and_true, not_true_eq_false, not_false_eq_true]; omega)) (by first | omega | (simp (disch := decide) only [up_n, up_s, cp_n, rw_n, rw_s, up1_, if_true, if_false, ite_true, ite_false, reduceIte, eq_self, Int.reduceEq, true_and, and_true, not_true_eq_false, not_false_eq_true]; omega)) (by first | omega | (simp (disch := decide) only [up_n, up_s, cp_n, rw_n, rw_s, up1_, if_true, if_false, ite_true, ite_false, reduceIte, eq_self, Int.reduceEq, true_and, and_true, not_true_eq_false, not_false_eq_true]; omega)) ?_) | (refine c_oappend (by first | omega | (simp (disch := decide) only [up_n, up_s, cp_n, rw_n, rw_s, up1_, if_true, if_false, ite_true, ite_false, reduceIte, eq_self, Int.reduceEq, true_and, and_true, not_true_eq_false, not_false_eq_true]; omega)) (by first | omega | (simp (disch := decide) only [up_n, up_s, cp_n, rw_n, rw_s, up1_, if_true, if_false, ite_true, ite_false, reduceIte, eq_self, Int.reduceEq, true_and, and_true, not_true_eq_false, not_false_eq_true]; omega)) (by first | omega | (simp (disch := decide) only [up_n, up_s, cp_n, rw_n, rw_s, up1_, if_true, if_false, ite_true, ite_false, reduceIte, eq_self, Int.reduceEq, true_and, and_true, not_true_eq_false, not_false_eq_true]; omega)) ?_) | (refine c_forget ?_) | (refine c_disturb ?_) | (refine And.intro (fun hc => ?_) (fun hc => ?_) <;> (try (simp (disch := decide) only [up_n, up_s, cp_n, rw_n, rw_s, up1_, if_true, if_false, ite_true, ite_false, reduceIte, eq_self, Int.reduceEq, true_and, and_true, not_true_eq_false, not_false_eq_true] at hc)) <;> (try (exfalso; omega))) | (refine fun (hc : ¬ _) => ?_; try (simp (disch := decide) only [up_n, up_s, cp_n, rw_n, rw_s, up1_, if_true, if_false, ite_true, ite_false, reduceIte, eq_self, Int.reduceEq, true_and, and_true, not_true_eq_false, not_false_eq_true] at hc)) | (refine fun (hc : _ = _) => ?_; try (simp (disch := decide) only [up_n, up_s, cp_n, rw_n, rw_s, up1_, if_true, if_false, ite_true, ite_false, reduceIte, eq_self, Int.reduceEq, true_and, and_true, not_true_eq_false, not_false_eq_true] at hc)))
    all_goals first | (exfalso; omega) | refine ⟨rfl, _, rfl, ?_⟩
    refine fr_cgo k145 [some (.inr (.inl 75)), some (.inl a0), some (.inl a1)] 0 0 [] 400 rfl rfl rfl rfl ?_
    repeat' (first | (refine And.intro (by first | omega | (simp (disch := decide) only [up_n, up_s, cp_n, rw_n, rw_s, up1_, if_true, if_false, ite_true, ite_false, reduceIte, eq_self, Int.reduceEq, true_and, and_true, not_true_eq_false, not_false_eq_true]; omega)) ?_) | (refine m_isRoutine (by first | omega | (simp (disch := decide) only [up_n, up_s, cp_n, rw_n, rw_s, up1_, if_true, if_false, ite_true, ite_false, reduceIte, eq_self, Int.reduceEq, true_and, and_true, not_true_eq_false, not_false_eq_true]; omega)) (fun hc => ?_) (fun hc => ?_) <;> (try (simp (disch := decide) only [up_n, up_s, cp_n, rw_n, rw_s, up1_, if_true, if_false, ite_true, ite_false, reduceIte, eq_self, Int.reduceEq, true_and, and_true, not_true_eq_false, not_false_eq_true] at hc))) | (refine m_in (fun hc => ?_) (fun hc => ?_) <;> (try (simp (disch := decide) only [up_n, up_s, cp_n, rw_n, rw_s, up1_, if_true, if_false, ite_true, ite_false, reduceIte, eq_self, Int.reduceEq, true_and, and_true, not_true_eq_false, not_false_eq_true] at hc))) | (refine And.intro (fun hc => ?_) (fun hc => ?_) <;> (try (simp (disch := decide) only [up_n, up_s, cp_n, rw_n, rw_s, up1_, if_true, if_false, ite_true, ite_false, reduceIte, eq_self, Int.reduceEq, true_and, and_true, not_true_eq_false, not_false_eq_true] at hc)) <;> (try (exfalso; omega))) | (refine fun (hc : ¬ _) => ?_; try (simp (disch := decide) only [up_n, up_s, cp_n, rw_n, rw_s, up1_, if_true, if_false, ite_true, ite_false, reduceIte, eq_self, Int.reduceEq, true_and, and_true, not_true_eq_false, not_false_eq_true] at hc)) | (refine fun (hc : _ = _) => ?_; try (simp (disch := decide) only [up_n, up_s, cp_n, rw_n, rw_s, up1_, if_true, if_false, ite_true, ite_false, reduceIte, eq_self, Int.reduceEq, true_and, and_true, not_true_eq_false, not_false_eq_true] at hc)))
    all_goals first | (exfalso; omega) | (exfalso; simp (disch := decide) only [up_n, up_s, cp_n, rw_n, rw_s, up1_, if_true, if_false, ite_true, ite_false, reduceIte, eq_self, Int.reduceEq, true_and, and_true, not_true_eq_false, not_false_eq_true] at *; omega) | skip
    have m1 := (h2 a0 (by omega) (by omega)).2.2.1
    simp (disch := decide) only [up_n, up_s, cp_n, rw_n, rw_s, up1_, if_true, if_false, ite_true, ite_false, reduceIte, eq_self, Int.reduceEq, true_and, and_true, not_true_eq_false, not_false_eq_true]
    rw [p4, u1]
    refine ⟨rfl, sv (by omega), by omega, ?_, ?_, ?_, ?_, ?_, ?_, h7, ?_, ?_, ?_, ?_, ⟨rfl, (by decide : (0 : Int) ≤ 0), (by decide : (0 : Int) ≤ 12)⟩, ?_, ?_, ?_, ?_, t1, t2, s1, r1, r1', r2, r2', ?_, r4, l.off rfl rfl rfl⟩
    all_goals clear hR hN l r4 r1 r1' r2 r2' t1 t2 s1 k1 k2 k3 k4 k5 h7
    · unfold P1
      simp (disch := decide) only [up_n, up_s, cp_n, rw_n, rw_s, up1_, if_true, if_false, ite_true, ite_false, reduceIte, eq_self, Int.reduceEq, true_and, and_true, not_true_eq_false, not_false_eq_true]
      omega
    · intro r q0 q1
      have e := h2 r q0 q1
      simp (disch := decide) only [up_n, up_s, cp_n, rw_n, rw_s, up1_, if_true, if_false, ite_true, ite_false, reduceIte, eq_self, Int.reduceEq, true_and, and_true, not_true_eq_false, not_false_eq_true]
      split <;> omega
    · intro r k q0 q1 q2 q3
      simp (disch := decide) only [up_n, up_s, cp_n, rw_n, rw_s, up1_, if_true, if_false, ite_true, ite_false, reduceIte, eq_self, Int.reduceEq, true_and, and_true, not_true_eq_false, not_false_eq_true] at q3
      have m2 := (h2 r q0 q1).2.2.1
      by_cases er : r = a0 ∧ k = M 76 a0
      · obtain ⟨rfl, rfl⟩ := er
        simp (disch := decide) only [up_n, up_s, cp_n, rw_n, rw_s, up1_, if_true, if_false, ite_true, ite_false, reduceIte, eq_self, Int.reduceEq, true_and, and_true, not_true_eq_false, not_false_eq_true]
        omega
      · have hk : k < M 76 r := by
          split at q3
          · next e => subst e; omega
          · exact q3
        have e := h3 r k q0 q1 q2 hk
        have n1 : ¬ (r * 9 + k = a0 * 9 + M 76 a0) := by omega
        have n2 : ¬ (9 * r + k = 9 * a0 + M 76 a0) := by omega
        have n3 : ¬ (M 77 (9 * r + k) = M 75 4) := by omega
        simp (disch := decide) only [up_n, up_s, cp_n, rw_n, rw_s, up1_, if_true, if_false, ite_true, ite_false, reduceIte, eq_self, Int.reduceEq, true_and, and_true, not_true_eq_false, not_false_eq_true]
        simp only [n1, n2, n3, if_false]
        omega
    · intro b q0 q1
      simp (disch := decide) only [up_n, up_s, cp_n, rw_n, rw_s, up1_, if_true, if_false, ite_true, ite_false, reduceIte, eq_self, Int.reduceEq, true_and, and_true, not_true_eq_false, not_false_eq_true] at q1
      by_cases eb : b = M 75 4
      · subst eb
        have e := h8 (M 75 4) (by omega) (by omega)
        simp (disch := decide) only [up_n, up_s, cp_n, rw_n, rw_s, up1_, if_true, if_false, ite_true, ite_false, reduceIte, eq_self, Int.reduceEq, true_and, and_true, not_true_eq_false, not_false_eq_true]
        omega
      · have e := h4 b q0 (by omega)
        have m2 := (h2 (M 79 b) (by omega) (by omega)).2.2.1
        have n2 : ¬ (9 * M 79 b + M 5 b = 9 * a0 + M 76 a0) := by
          intro hh
          have : M 79 b = a0 := by omega
          rw [this] at e hh
          omega
        simp (disch := decide) only [up_n, up_s, cp_n, rw_n, rw_s, up1_, if_true, if_false, ite_true, ite_false, reduceIte, eq_self, Int.reduceEq, true_and, and_true, not_true_eq_false, not_false_eq_true]
        simp only [eb, n2, if_false]
        split
        · next ex => rw [ex] at e; rw [ex]; omega
        · omega
    · intro b q0 q1
      simp (disch := decide) only [up_n, up_s, cp_n, rw_n, rw_s, up1_, if_true, if_false, ite_true, ite_false, reduceIte, eq_self, Int.reduceEq, true_and, and_true, not_true_eq_false, not_false_eq_true] at q1
      by_cases eb : b = M 75 4
      · subst eb
        have e := h8 (M 75 4) (by omega) (by omega)
        simp (disch := decide) only [up_n, up_s, cp_n, rw_n, rw_s, up1_, if_true, if_false, ite_true, ite_false, reduceIte, eq_self, Int.reduceEq, true_and, and_true, not_true_eq_false, not_false_eq_true]
        first | omega | (simp; done) | (simp; omega)
      · have e := h5 b q0 (by omega)
        simp (disch := decide) only [up_n, up_s, cp_n, rw_n, rw_s, up1_, if_true, if_false, ite_true, ite_false, reduceIte, eq_self, Int.reduceEq, true_and, and_true, not_true_eq_false, not_false_eq_true]
        simp only [eb, if_false]
        split
        · next ex => rw [ex] at e; rw [ex]; omega
        · exact e
    · intro b w q0 q1 q2 q3
      simp (disch := decide) only [up_n, up_s, cp_n, rw_n, rw_s, up1_, if_true, if_false, ite_true, ite_false, reduceIte, eq_self, Int.reduceEq, true_and, and_true, not_true_eq_false, not_false_eq_true] at q1
      simp (disch := decide) only [up_n, up_s, cp_n, rw_n, rw_s, up1_, if_true, if_false, ite_true, ite_false, reduceIte, eq_self, Int.reduceEq, true_and, and_true, not_true_eq_false, not_false_eq_true] at q3
      by_cases eb : b = M 75 4
      · subst eb
        exfalso
        rw [if_pos rfl] at q3
        omega
      · rw [if_neg eb] at q3
        have e := h6 b w q0 (by omega) q2 q3
        have n3 : ¬ (M 84 (4 * b + w) = M 75 4) := by omega
        simp (disch := decide) only [up_n, up_s, cp_n, rw_n, rw_s, up1_, if_true, if_false, ite_true, ite_false, reduceIte, eq_self, Int.reduceEq, true_and, and_true, not_true_eq_false, not_false_eq_true]
        simp only [eb, n3, if_false]
        omega
    · intro b q0 q1
      simp (disch := decide) only [up_n, up_s, cp_n, rw_n, rw_s, up1_, if_true, if_false, ite_true, ite_false, reduceIte, eq_self, Int.reduceEq, true_and, and_true, not_true_eq_false, not_false_eq_true] at q0
      have e := h8 b (by omega) q1
      simp (disch := decide) only [up_n, up_s, cp_n, rw_n, rw_s, up1_, if_true, if_false, ite_true, ite_false, reduceIte, eq_self, Int.reduceEq, true_and, and_true, not_true_eq_false, not_false_eq_true]
      exact e
    · intro r k q0 q1 q2 q3
      simp (disch := decide) only [up_n, up_s, cp_n, rw_n, rw_s, up1_, if_true, if_false, ite_true, ite_false, reduceIte, eq_self, Int.reduceEq, true_and, and_true, not_true_eq_false, not_false_eq_true] at q3
      have m2 := (h2 r q0 q1).2.2.1
      by_cases er : r = a0 ∧ k = M 76 a0
      · obtain ⟨rfl, rfl⟩ := er
        simp (disch := decide) only [up_n, up_s, cp_n, rw_n, rw_s, up1_, if_true, if_false, ite_true, ite_false, reduceIte, eq_self, Int.reduceEq, true_and, and_true, not_true_eq_false, not_false_eq_true]
        omega
      · have hk : k < M 76 r := by
          split at q3
          · next e => subst e; omega
          · exact q3
        have e := o1 r k q0 q1 q2 hk
        have n1 : ¬ (r * 9 + k = a0 * 9 + M 76 a0) := by omega
        have n2 : ¬ (9 * r + k = 9 * a0 + M 76 a0) := by omega
        have n3 : ¬ (M 78 (9 * r + k) = M 75 4) := by omega
        simp (disch := decide) only [up_n, up_s, cp_n, rw_n, rw_s, up1_, if_true, if_false, ite_true, ite_false, reduceIte, eq_self, Int.reduceEq, true_and, and_true, not_true_eq_false, not_false_eq_true]
        simp only [n1, n2, n3, if_false]
        omega
    · intro b q0 q1
      simp (disch := decide) only [up_n, up_s, cp_n, rw_n, rw_s, up1_, if_true, if_false, ite_true, ite_false, reduceIte, eq_self, Int.reduceEq, true_and, and_true, not_true_eq_false, not_false_eq_true] at q1
      by_cases eb : b = M 75 4
      · subst eb
        simp (disch := decide) only [up_n, up_s, cp_n, rw_n, rw_s, up1_, if_true, if_false, ite_true, ite_false, reduceIte, eq_self, Int.reduceEq, true_and, and_true, not_true_eq_false, not_false_eq_true]
        omega
      · have e := o2 b q0 (by omega)
        have e4 := h4 b q0 (by omega)
        have m2 := (h2 (M 79 b) (by omega) (by omega)).2.2.1
        have n2 : ¬ (9 * M 79 b + M 15 b = 9 * a0 + M 76 a0) := by
          intro hh
          have : M 79 b = a0 := by omega
          rw [this] at e hh
          omega
        simp (disch := decide) only [up_n, up_s, cp_n, rw_n, rw_s, up1_, if_true, if_false, ite_true, ite_false, reduceIte, eq_self, Int.reduceEq, true_and, and_true, not_true_eq_false, not_false_eq_true]
        simp only [eb, n2, if_false]
        split
        · next ex => rw [ex] at e; rw [ex]; omega
        · omega
    · intro r q0 q1 q2
      simp (disch := decide) only [up_n, up_s, cp_n, rw_n, rw_s, up1_, if_true, if_false, ite_true, ite_false, reduceIte, eq_self, Int.reduceEq, true_and, and_true, not_true_eq_false, not_false_eq_true] at q2
      have e := o3 r q0 q1
      have m2 := (h2 r q0 q1)
      by_cases er : r = a0
      · subst er
        simp (disch := decide) only [up_n, up_s, cp_n, rw_n, rw_s, up1_, if_true, if_false, ite_true, ite_false, reduceIte, eq_self, Int.reduceEq, true_and, and_true, not_true_eq_false, not_false_eq_true]
        split
        · rfl
        · exact e (by omega)
      · rw [if_neg er] at q2
        have n2 : ¬ (9 * r = 9 * a0 + M 76 a0) := by omega
        simp (disch := decide) only [up_n, up_s, cp_n, rw_n, rw_s, up1_, if_true, if_false, ite_true, ite_false, reduceIte, eq_self, Int.reduceEq, true_and, and_true, not_true_eq_false, not_false_eq_true]
        simp only [n2, if_false]
        exact e q2
    · intro u q0 q1
      simp (disch := decide) only [up_n, up_s, cp_n, rw_n, rw_s, up1_, if_true, if_false, ite_true, ite_false, reduceIte, eq_self, Int.reduceEq, true_and, and_true, not_true_eq_false, not_false_eq_true] at q1
      omega
    · intro u i q0 q1
      simp (disch := decide) only [up_n, up_s, cp_n, rw_n, rw_s, up1_, if_true, if_false, ite_true, ite_false, reduceIte, eq_self, Int.reduceEq, true_and, and_true, not_true_eq_false, not_false_eq_true] at q1
      omega
    · intro u i j q0 q1
      simp (disch := decide) only [up_n, up_s, cp_n, rw_n, rw_s, up1_, if_true, if_false, ite_true, ite_false, reduceIte, eq_self, Int.reduceEq, true_and, and_true, not_true_eq_false, not_false_eq_true] at q1
      omega
    · intro u b q0 q1
      simp (disch := decide) only [up_n, up_s, cp_n, rw_n, rw_s, up1_, if_true, if_false, ite_true, ite_false, reduceIte, eq_self, Int.reduceEq, true_and, and_true, not_true_eq_false, not_false_eq_true] at q1
      omega
    · exact ⟨Or.inl rfl, Or.inl rfl, ⟨fun h => absurd (show (0 : Int) = 1 from h) (by decide), fun h => absurd (show (0 : Int) = 1 from h.2) (by decide)⟩, r3.2.2.2⟩
  · refine Two.of ?_
    by_cases hr : 0 ≤ a0 ∧ a0 < M 75 0
    · obtain ⟨u1, u2, u3, u4⟩ := h2 a0 (by omega) (by omega)
      refine fr_cgo k108 [some (.inr (.inl 0)), some (.inl a0), some (.inl a1), none] 0 0 [] 400 rfl rfl rfl rfl ?_
      repeat' (first | (refine And.intro (by first | omega | (simp (disch := decide) only [up_n, up_s, cp_n, rw_n, rw_s, up1_, if_true, if_false, ite_true, ite_false, reduceIte, eq_self, Int.reduceEq, true_and, and_true, not_true_eq_false, not_false_eq_true]; omega)) ?_) | (refine c_isRoutine (fun hc => ?_) (fun hc => ?_) <;> (try (simp (disch := decide) only [up_n, up_s, cp_n, rw_n, rw_s, up1_, if_true, if_false, ite_true, ite_false, reduceIte, eq_self, Int.reduceEq, true_and, and_true, not_true_eq_false, not_false_eq_true] at hc))) | (refine And.intro (fun hc => ?_) (fun hc => ?_) <;> (try (simp (disch := decide) only [up_n, up_s, cp_n, rw_n, rw_s, up1_, if_true, if_false, ite_true, ite_false, reduceIte, eq_self, Int.reduceEq, true_and, and_true, not_true_eq_false, not_false_eq_true] at hc)) <;> (try (exfalso; omega))) | (refine fun (hc : ¬ _) => ?_; try (simp (disch := decide) only [up_n, up_s, cp_n, rw_n, rw_s, up1_, if_true, if_false, ite_true, ite_false, reduceIte, eq_self, Int.reduceEq, true_and, and_true, not_true_eq_false, not_false_eq_true] at hc)) | (refine fun (hc : _ = _) => ?_; try (simp (disch := decide) only [up_n, up_s, cp_n, rw_n, rw_s, up1_, if_true, if_false, ite_true, ite_false, reduceIte, eq_self, Int.reduceEq, true_and, and_true, not_true_eq_false, not_false_eq_true] at hc)))
      all_goals first | (exfalso; omega) | refine ⟨rfl, _, rfl, ?_⟩
      all_goals (refine fr_cgo k145 [some (.inr (.inl 75)), some (.inl a0), some (.inl a1)] 0 0 [] 400 rfl rfl rfl rfl ?_)
      all_goals (repeat' (first | (refine And.intro (by first | omega | (simp (disch := decide) only [up_n, up_s, cp_n, rw_n, rw_s, up1_, if_true, if_false, ite_true, ite_false, reduceIte, eq_self, Int.reduceEq, true_and, and_true, not_true_eq_false, not_false_eq_true]; omega)) ?_) | (refine m_isRoutine (by first | omega | (simp (disch := decide) only [up_n, up_s, cp_n, rw_n, rw_s, up1_, if_true, if_false, ite_true, ite_false, reduceIte, eq_self, Int.reduceEq, true_and, and_true, not_true_eq_false, not_false_eq_true]; omega)) (fun hc => ?_) (fun hc => ?_) <;> (try (simp (disch := decide) only [up_n, up_s, cp_n, rw_n, rw_s, up1_, if_true, if_false, ite_true, ite_false, reduceIte, eq_self, Int.reduceEq, true_and, and_true, not_true_eq_false, not_false_eq_true] at hc))) | (refine m_in (fun hc => ?_) (fun hc => ?_) <;> (try (simp (disch := decide) only [up_n, up_s, cp_n, rw_n, rw_s, up1_, if_true, if_false, ite_true, ite_false, reduceIte, eq_self, Int.reduceEq, true_and, and_true, not_true_eq_false, not_false_eq_true] at hc))) | (refine And.intro (fun hc => ?_) (fun hc => ?_) <;> (try (simp (disch := decide) only [up_n, up_s, cp_n, rw_n, rw_s, up1_, if_true, if_false, ite_true, ite_false, reduceIte, eq_self, Int.reduceEq, true_and, and_true, not_true_eq_false, not_false_eq_true] at hc)) <;> (try (exfalso; omega))) | (refine fun (hc : ¬ _) => ?_; try (simp (disch := decide) only [up_n, up_s, cp_n, rw_n, rw_s, up1_, if_true, if_false, ite_true, ite_false, reduceIte, eq_self, Int.reduceEq, true_and, and_true, not_true_eq_false, not_false_eq_true] at hc)) | (refine fun (hc : _ = _) => ?_; try (simp (disch := decide) only [up_n, up_s, cp_n, rw_n, rw_s, up1_, if_true, if_false, ite_true, ite_false, reduceIte, eq_self, Int.reduceEq, true_and, and_true, not_true_eq_false, not_false_eq_true] at hc))))
      all_goals first | (exfalso; omega) | exact ⟨rfl, rfl, hN⟩
    · refine fr_cgo k108 [some (.inr (.inl 0)), some (.inl a0), some (.inl a1), none] 0 0 [] 400 rfl rfl rfl rfl ?_
      repeat' (first | (refine And.intro (by first | omega | (simp (disch := decide) only [up_n, up_s, cp_n, rw_n, rw_s, up1_, if_true, if_false, ite_true, ite_false, reduceIte, eq_self, Int.reduceEq, true_and, and_true, not_true_eq_false, not_false_eq_true]; omega)) ?_) | (refine c_isRoutine (fun hc => ?_) (fun hc => ?_) <;> (try (simp (disch := decide) only [up_n, up_s, cp_n, rw_n, rw_s, up1_, if_true, if_false, ite_true, ite_false, reduceIte, eq_self, Int.reduceEq, true_and, and_true, not_true_eq_false, not_false_eq_true] at hc))) | (refine And.intro (fun hc => ?_) (fun hc => ?_) <;> (try (simp (disch := decide) only [up_n, up_s, cp_n, rw_n, rw_s, up1_, if_true, if_false, ite_true, ite_false, reduceIte, eq_self, Int.reduceEq, true_and, and_true, not_true_eq_false, not_false_eq_true] at hc)) <;> (try (exfalso; omega))) | (refine fun (hc : ¬ _) => ?_; try (simp (disch := decide) only [up_n, up_s, cp_n, rw_n, rw_s, up1_, if_true, if_false, ite_true, ite_false, reduceIte, eq_self, Int.reduceEq, true_and, and_true, not_true_eq_false, not_false_eq_true] at hc)) | (refine fun (hc : _ = _) => ?_; try (simp (disch := decide) only [up_n, up_s, cp_n, rw_n, rw_s, up1_, if_true, if_false, ite_true, ite_false, reduceIte, eq_self, Int.reduceEq, true_and, and_true, not_true_eq_false, not_false_eq_true] at hc)))
      all_goals first | (exfalso; omega) | refine ⟨rfl, _, rfl, ?_⟩
      all_goals (refine fr_cgo k145 [some (.inr (.inl 75)), some (.inl a0), some (.inl a1)] 0 0 [] 400 rfl rfl rfl rfl ?_)
      all_goals (repeat' (first | (refine And.intro (by first | omega | (simp (disch := decide) only [up_n, up_s, cp_n, rw_n, rw_s, up1_, if_true, if_false, ite_true, ite_false, reduceIte, eq_self, Int.reduceEq, true_and, and_true, not_true_eq_false, not_false_eq_true]; omega)) ?_) | (refine m_isRoutine (by first | omega | (simp (disch := decide) only [up_n, up_s, cp_n, rw_n, rw_s, up1_, if_true, if_false, ite_true, ite_false, reduceIte, eq_self, Int.reduceEq, true_and, and_true, not_true_eq_false, not_false_eq_true]; omega)) (fun hc => ?_) (fun hc => ?_) <;> (try (simp (disch := decide) only [up_n, up_s, cp_n, rw_n, rw_s, up1_, if_true, if_false, ite_true, ite_false, reduceIte, eq_self, Int.reduceEq, true_and, and_true, not_true_eq_false, not_false_eq_true] at hc))) | (refine m_in (fun hc => ?_) (fun hc => ?_) <;> (try (simp (disch := decide) only [up_n, up_s, cp_n, rw_n, rw_s, up1_, if_true, if_false, ite_true, ite_false, reduceIte, eq_self, Int.reduceEq, true_and, and_true, not_true_eq_false, not_false_eq_true] at hc))) | (refine And.intro (fun hc => ?_) (fun hc => ?_) <;> (try (simp (disch := decide) only [up_n, up_s, cp_n, rw_n, rw_s, up1_, if_true, if_false, ite_true, ite_false, reduceIte, eq_self, Int.reduceEq, true_and, and_true, not_true_eq_false, not_false_eq_true] at hc)) <;> (try (exfalso; omega))) | (refine fun (hc : ¬ _) => ?_; try (simp (disch := decide) only [up_n, up_s, cp_n, rw_n, rw_s, up1_, if_true, if_false, ite_true, ite_false, reduceIte, eq_self, Int.reduceEq, true_and, and_true, not_true_eq_false, not_false_eq_true] at hc)) | (refine fun (hc : _ = _) => ?_; try (simp (disch := decide) only [up_n, up_s, cp_n, rw_n, rw_s, up1_, if_true, if_false, ite_true, ite_false, reduceIte, eq_self, Int.reduceEq, true_and, and_true, not_true_eq_false, not_false_eq_true] at hc))))
      all_goals first | (exfalso; omega) | exact ⟨rfl, rfl, hN⟩
