set_option maxHeartbeats 4000000 in
set_option maxRecDepth 100000 in
theorem c_restore_l {M : fr_M} {r u : Int} {Q : Option fr_V → fr_H → fr_M → Prop} (hr : 0 ≤ r ∧ r < 6) (hu : M 13 5 = u ∧ 0 ≤ u ∧ u < 12) (hn : 0 ≤ M 2 r ∧ M 2 r ≤ 9) (hf : ∀ i, 0 ≤ i → i < M 2 r → 0 ≤ M 16 (u * 9 + i) ∧ M 16 (u * 9 + i) < 40) (hj : ∀ i j, 0 ≤ i → i < M 2 r → 0 ≤ j → j < M 2 r → M 16 (u * 9 + i) = M 16 (u * 9 + j) → i = j) (h : ∀ g14 g15, cpr g14 (M 14) (M 16) (r * 9) (u * 9) (M 2 r) → (∀ i, 0 ≤ i → i < M 2 r → g15 (M 16 (u * 9 + i)) = i) → (∀ x, (∀ i, 0 ≤ i → i < M 2 r → M 16 (u * 9 + i) ≠ x) → g15 x = M 15 x) → Q none sh0 (rw_ (rw_ M 14 g14) 15 g15)) : ∀ (t : Nat) (i : Int) (g14 g15 : Int → Int), 0 ≤ i → i + t = M 2 r → cpr g14 (M 14) (M 16) (r * 9) (u * 9) i → (∀ j, 0 ≤ j → j < i → g15 (M 16 (u * 9 + j)) = j) → (∀ x, (∀ i, 0 ≤ i → i < M 2 r → M 16 (u * 9 + i) ≠ x) → g15 x = M 15 x) → fr_Run 55 none 18 [some (.inr (.inl 13)), some (.inl r), some (.inl i)] [] sh0 (rw_ (rw_ M 14 g14) 15 g15) 0 0 Q := by
  intro t
  induction t with
  | zero =>
    intro i g14 g15 q0 q1 q2 q3 q4
    have e : i = M 2 r := by omega
    subst e
    refine fr_go k55 [18] 400 rfl ?_
    repeat' (first | (refine And.intro (by first | omega | (simp (disch := decide) only [up_n, up_s, cp_n, rw_n, rw_s, up1_, if_true, if_false, ite_true, ite_false, reduceIte, eq_self, Int.reduceEq, true_and, and_true, not_true_eq_false, not_false_eq_true]; omega)) ?_) | (refine And.intro (fun hc => ?_) (fun hc => ?_) <;> (try (simp (disch := decide) only [up_n, up_s, cp_n, rw_n, rw_s, up1_, if_true, if_false, ite_true, ite_false, reduceIte, eq_self, Int.reduceEq, true_and, and_true, not_true_eq_false, not_false_eq_true] at hc)) <;> (try (exfalso; omega))) | (refine fun (hc : ¬ _) => ?_; try (simp (disch := decide) only [up_n, up_s, cp_n, rw_n, rw_s, up1_, if_true, if_false, ite_true, ite_false, reduceIte, eq_self, Int.reduceEq, true_and, and_true, not_true_eq_false, not_false_eq_true] at hc)) | (refine fun (hc : _ = _) => ?_; try (simp (disch := decide) only [up_n, up_s, cp_n, rw_n, rw_s, up1_, if_true, if_false, ite_true, ite_false, reduceIte, eq_self, Int.reduceEq, true_and, and_true, not_true_eq_false, not_false_eq_true] at hc)))
    all_goals first | (exfalso; omega) | exact h g14 g15 q2 q3 q4
  | succ t ih =>
    intro i g14 g15 q0 q1 q2 q3 q4
    have hfi := hf i q0 (by omega)
    refine fr_go k55 [18] 400 rfl ?_
    repeat' (first | (refine And.intro (by first | omega | (simp (disch := decide) only [up_n, up_s, cp_n, rw_n, rw_s, up1_, if_true, if_false, ite_true, ite_false, reduceIte, eq_self, Int.reduceEq, true_and, and_true, not_true_eq_false, not_false_eq_true]; omega)) ?_) | (refine And.intro (fun hc => ?_) (fun hc => ?_) <;> (try (simp (disch := decide) only [up_n, up_s, cp_n, rw_n, rw_s, up1_, if_true, if_false, ite_true, ite_false, reduceIte, eq_self, Int.reduceEq, true_and, and_true, not_true_eq_false, not_false_eq_true] at hc)) <;> (try (exfalso; omega))) | (refine fun (hc : ¬ _) => ?_; try (simp (disch := decide) only [up_n, up_s, cp_n, rw_n, rw_s, up1_, if_true, if_false, ite_true, ite_false, reduceIte, eq_self, Int.reduceEq, true_and, and_true, not_true_eq_false, not_false_eq_true] at hc)) | (refine fun (hc : _ = _) => ?_; try (simp (disch := decide) only [up_n, up_s, cp_n, rw_n, rw_s, up1_, if_true, if_false, ite_true, ite_false, reduceIte, eq_self, Int.reduceEq, true_and, and_true, not_true_eq_false, not_false_eq_true] at hc)))
    all_goals first | (exfalso; omega) | skip
    simp (disch := decide) only [up_n, up_s, cp_n, rw_n, rw_s, up1_, if_true, if_false, ite_true, ite_false, reduceIte, eq_self, Int.reduceEq, true_and, and_true, not_true_eq_false, not_false_eq_true]
    rw [hu.1]
    refine c_put hr (by omega) hfi ?_
    repeat' (first | (refine And.intro (by first | omega | (simp (disch := decide) only [up_n, up_s, cp_n, rw_n, rw_s, up1_, if_true, if_false, ite_true, ite_false, reduceIte, eq_self, Int.reduceEq, true_and, and_true, not_true_eq_false, not_false_eq_true]; omega)) ?_) | (refine And.intro (fun hc => ?_) (fun hc => ?_) <;> (try (simp (disch := decide) only [up_n, up_s, cp_n, rw_n, rw_s, up1_, if_true, if_false, ite_true, ite_false, reduceIte, eq_self, Int.reduceEq, true_and, and_true, not_true_eq_false, not_false_eq_true] at hc)) <;> (try (exfalso; omega))) | (refine fun (hc : ¬ _) => ?_; try (simp (disch := decide) only [up_n, up_s, cp_n, rw_n, rw_s, up1_, if_true, if_false, ite_true, ite_false, reduceIte, eq_self, Int.reduceEq, true_and, and_true, not_true_eq_false, not_false_eq_true] at hc)) | (refine fun (hc : _ = _) => ?_; try (simp (disch := decide) only [up_n, up_s, cp_n, rw_n, rw_s, up1_, if_true, if_false, ite_true, ite_false, reduceIte, eq_self, Int.reduceEq, true_and, and_true, not_true_eq_false, not_false_eq_true] at hc)))
    simp (disch := decide) only [up_rw, rw_u, up_up, rw_rw, rw_cm]
    refine ih (i + 1) _ _ (by omega) (by omega) (q2.step q0 rfl rfl) (fun j z0 z1 => ?_) (fun x hx => ?_)
    · rw [up1_]
      by_cases ej : j = i
      · rw [if_pos (by rw [ej]), ej]
      · rw [if_neg (fun ex => ej (hj j i z0 (by omega) q0 (by omega) ex))]
        exact q3 j z0 (by omega)
    · rw [up1_, if_neg (fun ex => hx i q0 (by omega) ex.symm)]
      exact q4 x hx
set_option maxHeartbeats 4000000 in
set_option maxRecDepth 100000 in
theorem c_restore {M : fr_M} {r u : Int} {Q : Option fr_V → fr_H → fr_M → Prop} (hr : 0 ≤ r ∧ r < 6) (hu : M 13 5 = u + 1 ∧ 0 ≤ u ∧ u < 12) (hru : M 17 u = r) (hn : 0 ≤ M 2 r ∧ M 2 r ≤ 9) (hf : ∀ i, 0 ≤ i → i < M 2 r → 0 ≤ M 16 (u * 9 + i) ∧ M 16 (u * 9 + i) < 40) (hj : ∀ i j, 0 ≤ i → i < M 2 r → 0 ≤ j → j < M 2 r → M 16 (u * 9 + i) = M 16 (u * 9 + j) → i = j) (h : ∀ g14 g15, cpr g14 (M 14) (M 16) (r * 9) (u * 9) (M 2 r) → (∀ i, 0 ≤ i → i < M 2 r → g15 (M 16 (u * 9 + i)) = i) → (∀ x, (∀ i, 0 ≤ i → i < M 2 r → M 16 (u * 9 + i) ≠ x) → g15 x = M 15 x) → Q none sh0 (rw_ (rw_ (fr_up M 13 5 u) 14 g14) 15 g15)) : fr_Call 55 [.inr (.inl 13)] sh0 M Q := by
  refine fr_cgo k55 [some (.inr (.inl 13)), none, none] 0 0 [18] 400 rfl rfl rfl rfl ?_
  repeat' (first | (refine And.intro (by first | omega | (simp (disch := decide) only [up_n, up_s, cp_n, rw_n, rw_s, up1_, if_true, if_false, ite_true, ite_false, reduceIte, eq_self, Int.reduceEq, true_and, and_true, not_true_eq_false, not_false_eq_true]; omega)) ?_) | (refine And.intro (fun hc => ?_) (fun hc => ?_) <;> (try (simp (disch := decide) only [up_n, up_s, cp_n, rw_n, rw_s, up1_, if_true, if_false, ite_true, ite_false, reduceIte, eq_self, Int.reduceEq, true_and, and_true, not_true_eq_false, not_false_eq_true] at hc)) <;> (try (exfalso; omega))) | (refine fun (hc : ¬ _) => ?_; try (simp (disch := decide) only [up_n, up_s, cp_n, rw_n, rw_s, up1_, if_true, if_false, ite_true, ite_false, reduceIte, eq_self, Int.reduceEq, true_and, and_true, not_true_eq_false, not_false_eq_true] at hc)) | (refine fun (hc : _ = _) => ?_; try (simp (disch := decide) only [up_n, up_s, cp_n, rw_n, rw_s, up1_, if_true, if_false, ite_true, ite_false, reduceIte, eq_self, Int.reduceEq, true_and, and_true, not_true_eq_false, not_false_eq_true] at hc)))
  all_goals first | (exfalso; omega) | skip
  simp (disch := decide) only [up_n, up_s, cp_n, rw_n, rw_s, up1_, if_true, if_false, ite_true, ite_false, reduceIte, eq_self, Int.reduceEq, true_and, and_true, not_true_eq_false, not_false_eq_true]
  have e0 : M 13 5 - 1 = u := by omega
  rw [e0, hru]
  refine q_run (c_restore_l (M := fr_up M 13 5 u) (r := r) (u := u) hr ⟨rfl, hu.2.1, hu.2.2⟩ hn hf hj h (M 2 r).toNat 0 (M 14) (M 15) (by omega) (by simp (disch := decide) only [up_n, up_s, cp_n, rw_n, rw_s, up1_, if_true, if_false, ite_true, ite_false, reduceIte, eq_self, Int.reduceEq, true_and, and_true, not_true_eq_false, not_false_eq_true]; omega) cpr.zero (fun j z0 z1 => absurd z1 (by omega)) (fun x hx => rfl)) ?_
  exact (congrArg (fun m => rw_ m 15 (M 15)) (rw_id (k := 14))).trans (rw_id (k := 15))
set_option maxHeartbeats 4000000 in
set_option maxRecDepth 100000 in
theorem m_undo_l {M : fr_M} {r u : Int} {Q : Option fr_V → fr_H → fr_M → Prop} (hr : 0 ≤ r ∧ r < 6) (hu : M 75 18 = u ∧ 0 ≤ u ∧ u < 12) (hru : M 88 u = r) (h : ∀ g, cpr g (M 78) (M 89) (9 * r) (9 * u) 9 → Q (some (.inl u)) sh0 (rw_ M 78 g)) : ∀ (t : Nat) (i : Int) (g : Int → Int), 0 ≤ i → i + t = 9 → cpr g (M 78) (M 89) (9 * r) (9 * u) i → fr_Run 154 none 13 [some (.inr (.inl 75)), some (.inl i)] [] sh0 (rw_ M 78 g) 0 0 Q := by
  intro t
  induction t with
  | zero =>
    intro i g q0 q1 q2
    have e : i = 9 := by omega
    subst e
    refine fr_go k154 [13] 400 rfl ?_
    repeat' (first | (refine And.intro (by first | omega | (simp (disch := decide) only [up_n, up_s, cp_n, rw_n, rw_s, up1_, if_true, if_false, ite_true, ite_false, reduceIte, eq_self, Int.reduceEq, true_and, and_true, not_true_eq_false, not_false_eq_true]; omega)) ?_) | (refine And.intro (fun hc => ?_) (fun hc => ?_) <;> (try (simp (disch := decide) only [up_n, up_s, cp_n, rw_n, rw_s, up1_, if_true, if_false, ite_true, ite_false, reduceIte, eq_self, Int.reduceEq, true_and, and_true, not_true_eq_false, not_false_eq_true] at hc)) <;> (try (exfalso; omega))) | (refine fun (hc : ¬ _) => ?_; try (simp (disch := decide) only [up_n, up_s, cp_n, rw_n, rw_s, up1_, if_true, if_false, ite_true, ite_false, reduceIte, eq_self, Int.reduceEq, true_and, and_true, not_true_eq_false, not_false_eq_true] at hc)) | (refine fun (hc : _ = _) => ?_; try (simp (disch := decide) only [up_n, up_s, cp_n, rw_n, rw_s, up1_, if_true, if_false, ite_true, ite_false, reduceIte, eq_self, Int.reduceEq, true_and, and_true, not_true_eq_false, not_false_eq_true] at hc)))
    all_goals first | (exfalso; omega) | skip
    show Q (some (.inl _)) sh0 _
    simp (disch := decide) only [up_n, up_s, cp_n, rw_n, rw_s, up1_, if_true, if_false, ite_true, ite_false, reduceIte, eq_self, Int.reduceEq, true_and, and_true, not_true_eq_false, not_false_eq_true]
    rw [hu.1]
    exact h g q2
  | succ t ih =>
    intro i g q0 q1 q2
    have hu1 := hu.1
    subst hu1
    subst hru
    refine fr_go k154 [13] 400 rfl ?_
    repeat' (first | (refine And.intro (by first | omega | (simp (disch := decide) only [up_n, up_s, cp_n, rw_n, rw_s, up1_, if_true, if_false, ite_true, ite_false, reduceIte, eq_self, Int.reduceEq, true_and, and_true, not_true_eq_false, not_false_eq_true]; omega)) ?_) | (refine And.intro (fun hc => ?_) (fun hc => ?_) <;> (try (simp (disch := decide) only [up_n, up_s, cp_n, rw_n, rw_s, up1_, if_true, if_false, ite_true, ite_false, reduceIte, eq_self, Int.reduceEq, true_and, and_true, not_true_eq_false, not_false_eq_true] at hc)) <;> (try (exfalso; omega))) | (refine fun (hc : ¬ _) => ?_; try (simp (disch := decide) only [up_n, up_s, cp_n, rw_n, rw_s, up1_, if_true, if_false, ite_true, ite_false, reduceIte, eq_self, Int.reduceEq, true_and, and_true, not_true_eq_false, not_false_eq_true] at hc)) | (refine fun (hc : _ = _) => ?_; try (simp (disch := decide) only [up_n, up_s, cp_n, rw_n, rw_s, up1_, if_true, if_false, ite_true, ite_false, reduceIte, eq_self, Int.reduceEq, true_and, and_true, not_true_eq_false, not_false_eq_true] at hc)))
    all_goals first | (exfalso; omega) | skip
    simp (disch := decide) only [up_rw, rw_u, up_up, rw_rw, rw_cm]
    exact ih (i + 1) _ (by omega) (by omega) (q2.step q0 rfl rfl)
set_option maxHeartbeats 4000000 in
set_option maxRecDepth 100000 in
theorem op_undo {n : Int} {M : fr_M} (hR : Rel n M) (hn : n ≤ 512) : Two 120 154 [] M (Rel (n + 1)) := by
  obtain ⟨h0, h1, h2, h3, h4, h5, h6, h7, h8, o1, o2, o3, k1, k2, k3, k4, k5, t1, t2, s1, r1, r1', r2, r2', r3, r4, l⟩ := id hR
  obtain ⟨p1, p2, p3, p4, p5, p6⟩ := id h1
  obtain ⟨e13, e18, e18'⟩ := id k1
  have hN := hR.next
  refine Two.of ?_
  by_cases hs : M 75 18 = 0
  · refine fr_cgo k120 [some (.inr (.inl 0))] 0 0 [] 400 rfl rfl rfl rfl ?_
    repeat' (first | (refine And.intro (by first | omega | (simp (disch := decide) only [up_n, up_s, cp_n, rw_n, rw_s, up1_, if_true, if_false, ite_true, ite_false, reduceIte, eq_self, Int.reduceEq, true_and, and_true, not_true_eq_false, not_false_eq_true]; omega)) ?_) | (refine And.intro (fun hc => ?_) (fun hc => ?_) <;> (try (simp (disch := decide) only [up_n, up_s, cp_n, rw_n, rw_s, up1_, if_true, if_false, ite_true, ite_false, reduceIte, eq_self, Int.reduceEq, true_and, and_true, not_true_eq_false, not_false_eq_true] at hc)) <;> (try (exfalso; omega))) | (refine fun (hc : ¬ _) => ?_; try (simp (disch := decide) only [up_n, up_s, cp_n, rw_n, rw_s, up1_, if_true, if_false, ite_true, ite_false, reduceIte, eq_self, Int.reduceEq, true_and, and_true, not_true_eq_false, not_false_eq_true] at hc)) | (refine fun (hc : _ = _) => ?_; try (simp (disch := decide) only [up_n, up_s, cp_n, rw_n, rw_s, up1_, if_true, if_false, ite_true, ite_false, reduceIte, eq_self, Int.reduceEq, true_and, and_true, not_true_eq_false, not_false_eq_true] at hc)))
    all_goals first | (exfalso; omega) | refine ⟨rfl, _, rfl, ?_⟩
    all_goals (refine fr_cgo k154 [some (.inr (.inl 75)), none] 0 0 [] 400 rfl rfl rfl rfl ?_)
    all_goals (repeat' (first | (refine And.intro (by first | omega | (simp (disch := decide) only [up_n, up_s, cp_n, rw_n, rw_s, up1_, if_true, if_false, ite_true, ite_false, reduceIte, eq_self, Int.reduceEq, true_and, and_true, not_true_eq_false, not_false_eq_true]; omega)) ?_) | (refine And.intro (fun hc => ?_) (fun hc => ?_) <;> (try (simp (disch := decide) only [up_n, up_s, cp_n, rw_n, rw_s, up1_, if_true, if_false, ite_true, ite_false, reduceIte, eq_self, Int.reduceEq, true_and, and_true, not_true_eq_false, not_false_eq_true] at hc)) <;> (try (exfalso; omega))) | (refine fun (hc : ¬ _) => ?_; try (simp (disch := decide) only [up_n, up_s, cp_n, rw_n, rw_s, up1_, if_true, if_false, ite_true, ite_false, reduceIte, eq_self, Int.reduceEq, true_and, and_true, not_true_eq_false, not_false_eq_true] at hc)) | (refine fun (hc : _ = _) => ?_; try (simp (disch := decide) only [up_n, up_s, cp_n, rw_n, rw_s, up1_, if_true, if_false, ite_true, ite_false, reduceIte, eq_self, Int.reduceEq, true_and, and_true, not_true_eq_false, not_false_eq_true] at hc))))
    all_goals first | (exfalso; omega) | exact ⟨rfl, rfl, hN⟩
  · obtain ⟨u, hu⟩ : ∃ u, u = M 75 18 - 1 := ⟨_, rfl⟩
    obtain ⟨x1, x2, x3, x4, x5⟩ := k2 u (by omega) (by omega)
    have hm := h2 (M 88 u) x2 (by omega)
    have hk3 := fun i => k3 u i (by omega) (by omega)
    refine fr_cgo k120 [some (.inr (.inl 0))] 0 0 [] 400 rfl rfl rfl rfl ?_
    repeat' (first | (refine And.intro (by first | omega | (simp (disch := decide) only [up_n, up_s, cp_n, rw_n, rw_s, up1_, if_true, if_false, ite_true, ite_false, reduceIte, eq_self, Int.reduceEq, true_and, and_true, not_true_eq_false, not_false_eq_true]; omega)) ?_) | (refine And.intro (fun hc => ?_) (fun hc => ?_) <;> (try (simp (disch := decide) only [up_n, up_s, cp_n, rw_n, rw_s, up1_, if_true, if_false, ite_true, ite_false, reduceIte, eq_self, Int.reduceEq, true_and, and_true, not_true_eq_false, not_false_eq_true] at hc)) <;> (try (exfalso; omega))) | (refine fun (hc : ¬ _) => ?_; try (simp (disch := decide) only [up_n, up_s, cp_n, rw_n, rw_s, up1_, if_true, if_false, ite_true, ite_false, reduceIte, eq_self, Int.reduceEq, true_and, and_true, not_true_eq_false, not_false_eq_true] at hc)) | (refine fun (hc : _ = _) => ?_; try (simp (disch := decide) only [up_n, up_s, cp_n, rw_n, rw_s, up1_, if_true, if_false, ite_true, ite_false, reduceIte, eq_self, Int.reduceEq, true_and, and_true, not_true_eq_false, not_false_eq_true] at hc)))
    all_goals first | (exfalso; omega) | skip
    refine c_restore (r := M 88 u) (u := u) (by omega) (by omega) x1 (by omega) (fun i q0 q1 => ?_) (fun i j q0 q1 q2 q3 q4 => ?_) (fun g14 g15 hg hg1 hg2 => ?_)
    · have := hk3 i q0 (by omega)
      omega
    · rw [(hk3 i q0 (by omega)).1, (hk3 j q2 (by omega)).1] at q4
      exact k4 u i j (by omega) (by omega) q0 (by omega) q2 (by omega) q4
    · repeat' (first | (refine And.intro (by first | omega | (simp (disch := decide) only [up_n, up_s, cp_n, rw_n, rw_s, up1_, if_true, if_false, ite_true, ite_false, reduceIte, eq_self, Int.reduceEq, true_and, and_true, not_true_eq_false, not_false_eq_true]; omega)) ?_) | (refine c_disturb ?_) | (refine And.intro (fun hc => ?_) (fun hc => ?_) <;> (try (simp (disch := decide) only [up_n, up_s, cp_n, rw_n, rw_s, up1_, if_true, if_false, ite_true, ite_false, reduceIte, eq_self, Int.reduceEq, true_and, and_true, not_true_eq_false, not_false_eq_true] at hc)) <;> (try (exfalso; omega))) | (refine fun (hc : ¬ _) => ?_; try (simp (disch := decide) only [up_n, up_s, cp_n, rw_n, rw_s, up1_, if_true, if_false, ite_true, ite_false, reduceIte, eq_self, Int.reduceEq, true_and, and_true, not_true_eq_false, not_false_eq_true] at hc)) | (refine fun (hc : _ = _) => ?_; try (simp (disch := decide) only [up_n, up_s, cp_n, rw_n, rw_s, up1_, if_true, if_false, ite_true, ite_false, reduceIte, eq_self, Int.reduceEq, true_and, and_true, not_true_eq_false, not_false_eq_true] at hc)))
      refine ⟨rfl, _, rfl, ?_⟩
      refine fr_cgo k154 [some (.inr (.inl 75)), none] 0 0 [13] 400 rfl rfl rfl rfl ?_
      repeat' (first | (refine And.intro (by first | omega | (simp (disch := decide) only [up_n, up_s, cp_n, rw_n, rw_s, up1_, if_true, if_false, ite_true, ite_false, reduceIte, eq_self, Int.reduceEq, true_and, and_true, not_true_eq_false, not_false_eq_true]; omega)) ?_) | (refine And.intro (fun hc => ?_) (fun hc => ?_) <;> (try (simp (disch := decide) only [up_n, up_s, cp_n, rw_n, rw_s, up1_, if_true, if_false, ite_true, ite_false, reduceIte, eq_self, Int.reduceEq, true_and, and_true, not_true_eq_false, not_false_eq_true] at hc)) <;> (try (exfalso; omega))) | (refine fun (hc : ¬ _) => ?_; try (simp (disch := decide) only [up_n, up_s, cp_n, rw_n, rw_s, up1_, if_true, if_false, ite_true, ite_false, reduceIte, eq_self, Int.reduceEq, true_and, and_true, not_true_eq_false, not_false_eq_true] at hc)) | (refine fun (hc : _ = _) => ?_; try (simp (disch := decide) only [up_n, up_s, cp_n, rw_n, rw_s, up1_, if_true, if_false, ite_true, ite_false, reduceIte, eq_self, Int.reduceEq, true_and, and_true, not_true_eq_false, not_false_eq_true] at hc)))
      all_goals first | (exfalso; omega) | skip
      simp (disch := decide) only [up_n, up_s, cp_n, rw_n, rw_s, up1_, if_true, if_false, ite_true, ite_false, reduceIte, eq_self, Int.reduceEq, true_and, and_true, not_true_eq_false, not_false_eq_true]
      rw [show M 75 18 - 1 = u from hu.symm]
      refine q_run (m_undo_l (M := fr_up (fr_up (rw_ (rw_ (fr_up M 13 5 u) 14 g14) 15 g15) 29 18 0) 75 18 u) (r := M 88 u) (u := u) (by omega) ⟨rfl, by omega, by omega⟩ rfl ?_ 9 0 (M 78) (by omega) (by omega) cpr.zero) rw_id
      intro g hg3
      have hg3 : cpr g (M 78) (M 89) (9 * M 88 u) (9 * u) 9 := hg3
      have oo := O_new (M := M) (r := M 88 u) (g14 := g14) (g15 := g15) (g78 := g) h1 h2 h4 o1 o2 o3 ⟨x2, x3⟩ (fun i q0 q1 => ?_) (fun j hj => (hg j).2 (by omega)) (fun j hj => (hg3 j).2 hj) (fun b q0 q1 q2 => ?_) (fun b q0 q1 q2 => ?_) ?_
      · refine ⟨rfl, rfl, by omega, h1, h2, h3, h4, h5, h6, h7, h8, oo.1, oo.2.1, oo.2.2, ⟨rfl, by show 0 ≤ u; omega, by show u ≤ 12; omega⟩, fun u' z0 z1 => k2 u' z0 ?_, fun u' i z0 z1 => k3 u' i z0 ?_, fun u' i j z0 z1 => k4 u' i j z0 ?_, fun u' b z0 z1 => k5 u' b z0 ?_, t1, t2, s1, r1, r1', r2, r2', r3, r4, l.off rfl rfl rfl⟩
        all_goals (have z1 : u' < u := z1; omega)
      · have z := hk3 i q0 q1
        have y := (hg (M 88 u * 9 + i)).1 (by omega)
        have w := (hg3 (9 * M 88 u + i)).1 (by omega)
        rw [show u * 9 + (M 88 u * 9 + i - M 88 u * 9) = u * 9 + i by omega] at y
        rw [show 9 * u + (9 * M 88 u + i - 9 * M 88 u) = 9 * u + i by omega] at w
        have v := hg1 i q0 (by omega)
        rw [z.1] at y v
        rw [y, w]
        exact ⟨rfl, z.2.1, z.2.2.1, z.2.2.2, v⟩
      · refine hg2 b (fun i z0 z1 => ?_)
        have z := hk3 i z0 (by omega)
        rw [z.1]
        intro ex
        rw [ex] at z
        omega
      · obtain ⟨i, y1, y2, y3⟩ := k5 u b (by omega) (by omega) q0 q1 q2
        refine ⟨i, y1, y2, ?_⟩
        rw [(hg3 (9 * M 88 u + i)).1 (by omega), show 9 * u + (9 * M 88 u + i - 9 * M 88 u) = 9 * u + i by omega]
        exact y3
      · rw [(hg3 (9 * M 88 u)).1 (by omega), show 9 * u + (9 * M 88 u - 9 * M 88 u) = 9 * u by omega]
        exact x5
