def tw (M : fr_M) (x : Int) (f : Int → Int) (y : Int) (g : Int → Int) : fr_M := fun k i => if k = 42 then (if i = 1 then x else M 42 i) else if k = 43 then f i else if k = 75 then (if i = 17 then y else M 75 i) else if k = 87 then g i else M k i
theorem kp_t {M : fr_M} {x y : Int} {f g : Int → Int} : ∀ k i, rl k i = true → tw M x f y g k i = M k i := by
  intro k i h
  unfold tw
  by_cases h1 : k = 42
  · subst h1; cases h
  · rw [if_neg h1]
    by_cases h2 : k = 43
    · subst h2; cases h
    · rw [if_neg h2]
      by_cases h3 : k = 75
      · subst h3
        rw [if_pos rfl]
        by_cases h5 : i = 17
        · subst h5; cases h
        · rw [if_neg h5]
      · rw [if_neg h3]
        by_cases h4 : k = 87
        · subst h4; cases h
        · rw [if_neg h4]
theorem tw_eq {b : Int64} {n s : Int} {M M1 M2 : fr_M} (c : CI b n s M M1 n) (d : DI b n s M1 M2 n) : M2 = tw M (s + n) (M2 43) (s + n) (M2 87) := by
  obtain ⟨c1, c2, c3, c4⟩ := c
  obtain ⟨d1, d2, d3, d4⟩ := d
  funext k i
  unfold tw
  by_cases h1 : k = 42
  · subst h1
    rw [if_pos rfl, d4 42 i (by decide) (by omega)]
    by_cases h5 : i = 1
    · subst h5
      rw [if_pos rfl]; exact c1
    · rw [if_neg h5]
      exact c4 42 i (by decide) (by omega)
  · rw [if_neg h1]
    by_cases h2 : k = 43
    · subst h2; rw [if_pos rfl]
    · rw [if_neg h2]
      by_cases h3 : k = 75
      · subst h3
        rw [if_pos rfl]
        by_cases h5 : i = 17
        · subst h5
          rw [if_pos rfl]; exact d1
        · rw [if_neg h5, d4 75 i (by decide) (by omega)]
          exact c4 75 i (by decide) (by omega)
      · rw [if_neg h3]
        by_cases h4 : k = 87
        · subst h4; rw [if_pos rfl]
        · rw [if_neg h4, d4 k i h4 (by omega)]
          exact c4 k i h2 (by omega)
set_option maxHeartbeats 4000000 in
set_option maxRecDepth 100000 in
theorem say_post {n : Int} {M M1 : fr_M} (hR : Rel n M) {a0 : Int64} {a1 : Int} (ha : 1 ≤ a1 ∧ a1 ≤ 8) (hs : M 42 1 + a1 ≤ 200) (hci : CI a0 a1 (M 42 1) M M1 a1) : fr_Call 190 [.inr (.inl 75), .inr (.inr (.inl a0)), .inl a1] sh0 M1 (fun r2 sh2 M2 => sh2 = sh0 ∧ r2 = some (.inl (M 42 1 + a1)) ∧ Rel (n + 1) M2) := by
  obtain ⟨h0, h1, h2, h3, h4, h5, h6, h7, h8, o1, o2, o3, k1, k2, k3, k4, k5, t1, t2, s1, r1, r1', r2, r2', r3, r4, l⟩ := id hR
  obtain ⟨u1, u2, u3⟩ := id t1
  have e75 : M1 75 17 = M 42 1 := by rw [hci.2.2.2 75 17 (by decide) (by omega)]; omega
  refine fr_cgo k190 [some (.inr (.inl 75)), some (.inr (.inr (.inl a0))), none, some (.inl a1), none] 0 0 [19] 400 rfl rfl rfl rfl ?_
  repeat' (first | (refine And.intro (by first | omega | (simp (disch := decide) only [up_n, up_s, cp_n, if_true, if_false, ite_true, ite_false, reduceIte, not_true_eq_false, not_false_eq_true]; omega)) ?_) | (refine m_in (fun hc => ?_) (fun hc => ?_) <;> (try (simp (disch := decide) only [up_n, up_s, cp_n, if_true, if_false, ite_true, ite_false, reduceIte, not_true_eq_false, not_false_eq_true] at hc))) | (refine And.intro (fun hc => ?_) (fun hc => ?_) <;> (try (simp (disch := decide) only [up_n, up_s, cp_n, if_true, if_false, ite_true, ite_false, reduceIte, not_true_eq_false, not_false_eq_true] at hc)) <;> (try (exfalso; omega))) | (refine fun (hc : ¬ _) => ?_; try (simp (disch := decide) only [up_n, up_s, cp_n, if_true, if_false, ite_true, ite_false, reduceIte, not_true_eq_false, not_false_eq_true] at hc)) | (refine fun (hc : _ = _) => ?_; try (simp (disch := decide) only [up_n, up_s, cp_n, if_true, if_false, ite_true, ite_false, reduceIte, not_true_eq_false, not_false_eq_true] at hc)))
  all_goals first | (exfalso; omega) | skip
  refine m_say_l (M := M1) (b := a0) (n := a1) (s := M 42 1) ha (by omega) (fun M2 hdi => ?_) a1.toNat (a1 - 1) M1 (by omega) (by omega) ?_
  · refine ⟨rfl, rfl, ?_⟩
    have f43 : ∀ i, M2 43 i = M1 43 i := fun i => hdi.2.2.2 43 i (by decide) (by omega)
    have f87 : ∀ i, M1 87 i = M 87 i := fun i => hci.2.2.2 87 i (by decide) (by omega)
    have ht2 : ∀ i, 0 ≤ i → i < M 42 1 + a1 → 0 ≤ M2 87 i ∧ M2 87 i ≤ 255 ∧ M2 43 i = (if M2 87 i < 128 then M2 87 i else M2 87 i - 256) := by
      intro i q0 q1
      by_cases q : i < M 42 1
      · rw [f43, hci.2.2.1 i q0 q, hdi.2.2.1 i q0 q, f87]
        exact t2 i q0 (by omega)
      · have w1 := hci.2.1 (i - M 42 1) (by omega) (by omega)
        have w2 := hdi.2.1 (i - M 42 1) (by omega) (by omega)
        have w3 : M 42 1 + (i - M 42 1) = i := by omega
        rw [w3] at w1 w2
        have w4 := bt_in a0 (a1 - 1 - (i - M 42 1))
        rw [f43, w1, w2]
        exact ⟨w4.1, w4.2, rfl⟩
    rw [tw_eq hci hdi]
    generalize M2 43 = f at ht2 ⊢
    generalize M2 87 = g at ht2 ⊢
    exact ⟨by omega, h1, h2, h3, h4, h5, h6, h7, h8, o1, o2, o3, k1, k2, k3, k4, k5, ⟨rfl, (show 0 ≤ M 42 1 + a1 by omega), hs⟩, ht2, s1, r1, r1', r2, r2', r3, r4, l.keep kp_t⟩
  · exact ⟨by rw [e75]; omega, fun j q0 q1 => absurd q1 (by omega), fun _ _ _ => rfl, fun _ _ _ _ => rfl⟩
set_option maxHeartbeats 4000000 in
set_option maxRecDepth 100000 in
theorem op_say {n : Int} {M : fr_M} (hR : Rel n M) (hn : n ≤ 512) (a0 : Int64) (a1 : Int)  (g1 : fr_in a1) : Two 128 190 [.inr (.inr (.inl a0)), .inl a1] M (Rel (n + 1)) := by
  have t1 : T1 M := by
    obtain ⟨h0, h1, h2, h3, h4, h5, h6, h7, h8, o1, o2, o3, k1, k2, k3, k4, k5, t1, t2, s1, r1, r1', r2, r2', r3, r4, l⟩ := id hR
    exact t1
  obtain ⟨u1, u2, u3⟩ := id t1
  have hN := hR.next
  refine Two.of ?_
  refine fr_cgo k128 [some (.inr (.inl 0)), some (.inr (.inr (.inl a0))), none, some (.inl a1), none] 0 0 [21] 400 rfl rfl rfl rfl ?_
  repeat' (first | (refine And.intro (by first | omega | (simp (disch := decide) only [up_n, up_s, cp_n, if_true, if_false, ite_true, ite_false, reduceIte, not_true_eq_false, not_false_eq_true]; omega)) ?_) | (refine And.intro (fun hc => ?_) (fun hc => ?_) <;> (try (simp (disch := decide) only [up_n, up_s, cp_n, if_true, if_false, ite_true, ite_false, reduceIte, not_true_eq_false, not_false_eq_true] at hc)) <;> (try (exfalso; omega))) | (refine fun (hc : ¬ _) => ?_; try (simp (disch := decide) only [up_n, up_s, cp_n, if_true, if_false, ite_true, ite_false, reduceIte, not_true_eq_false, not_false_eq_true] at hc)) | (refine fun (hc : _ = _) => ?_; try (simp (disch := decide) only [up_n, up_s, cp_n, if_true, if_false, ite_true, ite_false, reduceIte, not_true_eq_false, not_false_eq_true] at hc)))
  any_goals (refine c_say_l (M := M) (b := a0) (n := a1) (s := M 42 1) (by omega) (by omega) (fun M1 hci => ⟨rfl, _, rfl, say_post hR (by omega) (by omega) hci⟩) a1.toNat (a1 - 1) M (by omega) (by omega) ?_)
  all_goals first | (exfalso; omega) | exact ⟨by omega, fun j q0 q1 => absurd q1 (by omega), fun _ _ _ => rfl, fun _ _ _ _ => rfl⟩ | refine ⟨rfl, _, rfl, ?_⟩
  all_goals (refine fr_cgo k190 [some (.inr (.inl 75)), some (.inr (.inr (.inl a0))), none, some (.inl a1), none] 0 0 [19] 400 rfl rfl rfl rfl ?_)
  all_goals (repeat' (first | (refine And.intro (by first | omega | (simp (disch := decide) only [up_n, up_s, cp_n, if_true, if_false, ite_true, ite_false, reduceIte, not_true_eq_false, not_false_eq_true]; omega)) ?_) | (refine m_in (fun hc => ?_) (fun hc => ?_) <;> (try (simp (disch := decide) only [up_n, up_s, cp_n, if_true, if_false, ite_true, ite_false, reduceIte, not_true_eq_false, not_false_eq_true] at hc))) | (refine And.intro (fun hc => ?_) (fun hc => ?_) <;> (try (simp (disch := decide) only [up_n, up_s, cp_n, if_true, if_false, ite_true, ite_false, reduceIte, not_true_eq_false, not_false_eq_true] at hc)) <;> (try (exfalso; omega))) | (refine fun (hc : ¬ _) => ?_; try (simp (disch := decide) only [up_n, up_s, cp_n, if_true, if_false, ite_true, ite_false, reduceIte, not_true_eq_false, not_false_eq_true] at hc)) | (refine fun (hc : _ = _) => ?_; try (simp (disch := decide) only [up_n, up_s, cp_n, if_true, if_false, ite_true, ite_false, reduceIte, not_true_eq_false, not_false_eq_true] at hc))))
  all_goals first | (exfalso; omega) | exact ⟨rfl, rfl, hN⟩
