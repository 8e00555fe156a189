theorem cp_n {M : fr_M} {a b k : Nat} {x y z i : Int} (h : k ≠ b) : fr_cp M a x b y z k i = M k i := by
  unfold fr_cp
  rw [if_neg h]
theorem cp_i {M : fr_M} {a b : Nat} {z i : Int} (h : 0 ≤ i ∧ i < z) : fr_cp M a 0 b 0 z b i = M a i := by
  unfold fr_cp
  rw [if_pos rfl, if_pos (by omega)]
  congr 1
  omega
theorem cp_0 {M : fr_M} {a b : Nat} : fr_cp M a 0 b 0 0 = M := by
  funext k i
  unfold fr_cp
  split
  · rw [if_neg (by omega)]
  · rfl
theorem cp_s {M : fr_M} {a b : Nat} {j : Int} (hj : 0 ≤ j) (hab : a ≠ b) : fr_up (fr_cp M a 0 b 0 j) b j (fr_cp M a 0 b 0 j a j) = fr_cp M a 0 b 0 (j + 1) := by
  funext k i
  have e : fr_cp M a 0 b 0 j a j = M a j := by
    unfold fr_cp
    rw [if_neg hab]
  rw [e]
  unfold fr_up fr_cp
  by_cases hk : k = b
  · rw [if_pos hk, if_pos hk, if_pos hk]
    by_cases hi : i = j
    · rw [if_pos hi, if_pos (by omega)]
      rw [hi]
      congr 1
      omega
    · rw [if_neg hi]
      by_cases hc : 0 ≤ i ∧ i < 0 + j
      · rw [if_pos hc, if_pos (by omega)]
      · rw [if_neg hc, if_neg (by omega)]
  · rw [if_neg hk, if_neg hk, if_neg hk]
theorem kp_c {M M' : fr_M} {a b : Nat} {x y z : Int} (h : ∀ k i, rl k i = true → M' k i = M k i) (q : ∀ i, rl b i = false) : ∀ k i, rl k i = true → fr_cp M' a x b y z k i = M k i := by
  intro k i hk
  unfold fr_cp
  split
  · next e => subst e; rw [q i] at hk; cases hk
  · exact h k i hk
set_option maxHeartbeats 4000000 in
set_option maxRecDepth 100000 in
theorem m_learn_l {M : fr_M} {Q : Option fr_V → fr_H → fr_M → Prop} (h : fr_Run 202 none 20 [some (.inr (.inl 75)), some (.inl 160)] [] sh0 (fr_cp M 109 0 85 0 160) 0 0 Q) : ∀ (t : Nat) (j : Int), 0 ≤ j → j + t = 160 → fr_Run 202 none 7 [some (.inr (.inl 75)), some (.inl j)] [] sh0 (fr_cp M 109 0 85 0 j) 0 0 Q := by
  intro t
  induction t with
  | zero =>
    intro j h0 h1
    have e : j = 160 := by omega
    subst e
    refine fr_go k202 [7, 20] 400 rfl ?_
    repeat' (first | (refine And.intro (by first | omega | (simp (disch := decide) only [up_n, up_s, cp_n, if_true, if_false, ite_true, ite_false, reduceIte, not_true_eq_false, not_false_eq_true]; omega)) ?_) | (refine And.intro (fun hc => ?_) (fun hc => ?_) <;> (try (simp (disch := decide) only [up_n, up_s, cp_n, if_true, if_false, ite_true, ite_false, reduceIte, not_true_eq_false, not_false_eq_true] at hc)) <;> (try (exfalso; omega))) | (refine fun (hc : ¬ _) => ?_; try (simp (disch := decide) only [up_n, up_s, cp_n, if_true, if_false, ite_true, ite_false, reduceIte, not_true_eq_false, not_false_eq_true] at hc)) | (refine fun (hc : _ = _) => ?_; try (simp (disch := decide) only [up_n, up_s, cp_n, if_true, if_false, ite_true, ite_false, reduceIte, not_true_eq_false, not_false_eq_true] at hc)))
    all_goals first | exact h | (exfalso; omega)
  | succ t ih =>
    intro j h0 h1
    refine fr_go k202 [7, 20] 400 rfl ?_
    repeat' (first | (refine And.intro (by first | omega | (simp (disch := decide) only [up_n, up_s, cp_n, if_true, if_false, ite_true, ite_false, reduceIte, not_true_eq_false, not_false_eq_true]; omega)) ?_) | (refine And.intro (fun hc => ?_) (fun hc => ?_) <;> (try (simp (disch := decide) only [up_n, up_s, cp_n, if_true, if_false, ite_true, ite_false, reduceIte, not_true_eq_false, not_false_eq_true] at hc)) <;> (try (exfalso; omega))) | (refine fun (hc : ¬ _) => ?_; try (simp (disch := decide) only [up_n, up_s, cp_n, if_true, if_false, ite_true, ite_false, reduceIte, not_true_eq_false, not_false_eq_true] at hc)) | (refine fun (hc : _ = _) => ?_; try (simp (disch := decide) only [up_n, up_s, cp_n, if_true, if_false, ite_true, ite_false, reduceIte, not_true_eq_false, not_false_eq_true] at hc)))
    all_goals first | (exfalso; omega) | skip
    rw [cp_s h0 (by decide)]
    exact ih (j + 1) (by omega) (by omega)
set_option maxHeartbeats 4000000 in
set_option maxRecDepth 100000 in
theorem op_learn {n : Int} {M : fr_M} (hR : Rel n M) (hn : n ≤ 512) : Two 135 202 [] M (Rel (n + 1)) := by
  obtain ⟨h0, h1, h2, h3, h4, h5, h6, h7, h8, o1, o2, o3, k1, k2, k3, k4, k5, t1, t2, s1, r1, r1', r2, r2', r3, r4, l⟩ := id hR
  obtain ⟨z1, z2, z3, z4⟩ := id r3
  obtain ⟨x1, x2, x3, x4, x5, x6⟩ := id r1
  have hN := hR.next
  have z9 : M 45 0 = 0 ∨ M 45 0 = 1 := by rw [x1]; exact x2
  refine Two.of ?_
  refine fr_cgo k135 [some (.inr (.inl 0))] 0 0 [] 400 rfl rfl rfl rfl ?_
  repeat' (first | (refine And.intro (by first | omega | (simp (disch := decide) only [up_n, up_s, cp_n, if_true, if_false, ite_true, ite_false, reduceIte, not_true_eq_false, not_false_eq_true]; omega)) ?_) | (refine And.intro (fun hc => ?_) (fun hc => ?_) <;> (try (simp (disch := decide) only [up_n, up_s, cp_n, if_true, if_false, ite_true, ite_false, reduceIte, not_true_eq_false, not_false_eq_true] at hc)) <;> (try (exfalso; omega))) | (refine fun (hc : ¬ _) => ?_; try (simp (disch := decide) only [up_n, up_s, cp_n, if_true, if_false, ite_true, ite_false, reduceIte, not_true_eq_false, not_false_eq_true] at hc)) | (refine fun (hc : _ = _) => ?_; try (simp (disch := decide) only [up_n, up_s, cp_n, if_true, if_false, ite_true, ite_false, reduceIte, not_true_eq_false, not_false_eq_true] at hc)))
  all_goals first | (exfalso; omega) | refine ⟨rfl, _, rfl, ?_⟩
  all_goals (refine fr_cgo k202 [some (.inr (.inl 75)), none] 0 0 [7] 400 rfl rfl rfl rfl ?_)
  all_goals (repeat' (first | (refine And.intro (by first | omega | (simp (disch := decide) only [up_n, up_s, cp_n, if_true, if_false, ite_true, ite_false, reduceIte, not_true_eq_false, not_false_eq_true]; omega)) ?_) | (refine And.intro (fun hc => ?_) (fun hc => ?_) <;> (try (simp (disch := decide) only [up_n, up_s, cp_n, if_true, if_false, ite_true, ite_false, reduceIte, not_true_eq_false, not_false_eq_true] at hc)) <;> (try (exfalso; omega))) | (refine fun (hc : ¬ _) => ?_; try (simp (disch := decide) only [up_n, up_s, cp_n, if_true, if_false, ite_true, ite_false, reduceIte, not_true_eq_false, not_false_eq_true] at hc)) | (refine fun (hc : _ = _) => ?_; try (simp (disch := decide) only [up_n, up_s, cp_n, if_true, if_false, ite_true, ite_false, reduceIte, not_true_eq_false, not_false_eq_true] at hc))))
  all_goals first | (exfalso; omega) | exact ⟨rfl, rfl, hN⟩ | skip
  have hm : M 45 0 = 1 := by omega
  have z4 := z4 hm
  have x6 := (x6 (by omega)).2.1
  have hh := m_learn_l (M := fr_cp M 48 0 12 0 160) (Q := fun r2 sh2 M2 => sh2 = sh0 ∧ r2 = some (.inl (fr_cp M 48 0 12 0 160 45 2)) ∧ Rel (n + 1) M2) ?_ 160 0 (by omega) (by omega)
  · rw [cp_0] at hh
    exact hh
  · refine fr_go k202 [] 400 rfl ?_
    repeat' (first | (refine And.intro (by first | omega | (simp (disch := decide) only [up_n, up_s, cp_n, if_true, if_false, ite_true, ite_false, reduceIte, not_true_eq_false, not_false_eq_true]; omega)) ?_) | (refine And.intro (fun hc => ?_) (fun hc => ?_) <;> (try (simp (disch := decide) only [up_n, up_s, cp_n, if_true, if_false, ite_true, ite_false, reduceIte, not_true_eq_false, not_false_eq_true] at hc)) <;> (try (exfalso; omega))) | (refine fun (hc : ¬ _) => ?_; try (simp (disch := decide) only [up_n, up_s, cp_n, if_true, if_false, ite_true, ite_false, reduceIte, not_true_eq_false, not_false_eq_true] at hc)) | (refine fun (hc : _ = _) => ?_; try (simp (disch := decide) only [up_n, up_s, cp_n, if_true, if_false, ite_true, ite_false, reduceIte, not_true_eq_false, not_false_eq_true] at hc)))
    refine ⟨rfl, sv ?_, by omega, h1, h2, h3, h4, h5, h6, ?_, h8, o1, o2, o3, k1, k2, k3, k4, k5, t1, t2, s1, r1, r1', r2, r2', r3, r4, l.keep (kp_c (kp_c kp_r (fun _ => rfl)) (fun _ => rfl))⟩
    · simp (disch := decide) only [up_n, up_s, cp_n, if_true, if_false, ite_true, ite_false, reduceIte, not_true_eq_false, not_false_eq_true]
      exact x6
    · intro i q0 q1
      have e := z4 i q0 q1
      have e1 : fr_cp (fr_cp M 48 0 12 0 160) 109 0 85 0 160 12 i = M 48 i := by
        rw [cp_n (by decide), cp_i (by omega)]
      have e2 : fr_cp (fr_cp M 48 0 12 0 160) 109 0 85 0 160 85 i = M 109 i := by
        rw [cp_i (by omega), cp_n (by decide)]
      rw [e1, e2]
      omega
