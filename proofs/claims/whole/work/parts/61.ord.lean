theorem K_keep {M : fr_M} {r : Int} {g16 g17 g88 g89 : Int → Int} (h1 : P1 M) (h2 : P2 M) (o1 : O1 M) (o2 : O2 M) (o3 : O3 M) (k1 : K1 M) (k2 : K2 M) (k3 : K3 M) (k4 : K4 M) (k5 : K5 M) (hr : 0 ≤ r ∧ r < M 75 0) (hm : 0 < M 76 r) (s1 : KS (M 13 5) (M 17) (M 16) (fun i => M 14 (r * 9 + i)) r g17 g16) (s2 : KS (M 75 18) (M 88) (M 89) (fun i => M 78 (9 * r + i)) r g88 g89) : let M' := rw_ (rw_ (rw_ (rw_ (fr_up (fr_up M 13 5 (ku (M 13 5))) 75 18 (ku (M 75 18))) 16 g16) 17 g17) 88 g88) 89 g89
    K1 M' ∧ K2 M' ∧ K3 M' ∧ K4 M' ∧ K5 M' := by
  obtain ⟨e1, e2, e3⟩ := k1
  obtain ⟨p1, p2, p3, p4, p5, p6⟩ := id h1
  rw [e1] at s1
  obtain ⟨d, hd1, hd2⟩ : ∃ d : Int, (M 75 18 = 12 → d = 1) ∧ (M 75 18 ≠ 12 → d = 0) := by
    by_cases e : M 75 18 = 12
    · exact ⟨1, by omega, by omega⟩
    · exact ⟨0, by omega, by omega⟩
  obtain ⟨a1, a2, a3, a4⟩ := s1 d hd1 hd2
  obtain ⟨b1, b2, b3, b4⟩ := s2 d hd1 hd2
  have hu : ku (M 75 18) = M 75 18 - d + 1 := by
    unfold ku
    split <;> omega
  have hm9 := (h2 r (by omega) (by omega)).2.2.1
  show (ku (M 13 5) = ku (M 75 18) ∧ 0 ≤ ku (M 75 18) ∧ ku (M 75 18) ≤ 12) ∧ (∀ u, 0 ≤ u → u < ku (M 75 18) → g17 u = g88 u ∧ 0 ≤ g88 u ∧ g88 u < M 75 0 ∧ 0 < M 76 (g88 u) ∧ g89 (9 * u) = M 77 (9 * g88 u)) ∧ (∀ u i, 0 ≤ u → u < ku (M 75 18) → 0 ≤ i → i < M 76 (g88 u) → g16 (u * 9 + i) = g89 (9 * u + i) ∧ 0 ≤ g89 (9 * u + i) ∧ g89 (9 * u + i) < M 75 4 ∧ M 79 (g89 (9 * u + i)) = g88 u) ∧ (∀ u i j, 0 ≤ u → u < ku (M 75 18) → 0 ≤ i → i < M 76 (g88 u) → 0 ≤ j → j < M 76 (g88 u) → g89 (9 * u + i) = g89 (9 * u + j) → i = j) ∧ (∀ u b, 0 ≤ u → u < ku (M 75 18) → 0 ≤ b → b < M 75 4 → M 79 b = g88 u → ∃ i, 0 ≤ i ∧ i < M 76 (g88 u) ∧ g89 (9 * u + i) = b)
  rw [e1, hu]
  refine ⟨by omega, fun u q0 q1 => ?_, fun u i q0 q1 q2 q3 => ?_, fun u i j q0 q1 q2 q3 q4 q5 q6 => ?_, fun u b q0 q1 q2 q3 q4 => ?_⟩
  · by_cases e : u = M 75 18 - d
    · rw [e, a2, b2]
      have x : g89 (9 * (M 75 18 - d) + 0) = M 78 (9 * r + 0) := b4 0 (by omega) (by omega)
      have y := o3 r (by omega) (by omega) hm
      rw [show 9 * (M 75 18 - d) + 0 = 9 * (M 75 18 - d) by omega, show 9 * r + 0 = 9 * r by omega] at x
      rw [x, y]
      exact ⟨rfl, hr.1, hr.2, hm, rfl⟩
    · rw [a1 u q0 (by omega), b1 u q0 (by omega), b3 (9 * u) (by omega) (by omega), show 9 * u + 9 * d = 9 * (u + d) by omega]
      exact k2 (u + d) (by omega) (by omega)
  · by_cases e : u = M 75 18 - d
    · subst e
      rw [b2] at q3 ⊢
      have x := b4 i q2 (by omega)
      have y := a4 i q2 (by omega)
      have z := o1 r i (by omega) (by omega) q2 q3
      rw [x, show (M 75 18 - d) * 9 + i = 9 * (M 75 18 - d) + i by omega, y]
      exact ⟨z.1, z.2.1, z.2.2.1, z.2.2.2.1⟩
    · have w := (h2 (M 88 (u + d)))
      have w2 := k2 (u + d) (by omega) (by omega)
      rw [b1 u q0 (by omega)] at q3 ⊢
      have w := (h2 (M 88 (u + d)) (by omega) (by omega)).2.2.1
      rw [b3 (9 * u + i) (by omega) (by omega), a3 (u * 9 + i) (by omega) (by omega), show 9 * u + i + 9 * d = 9 * (u + d) + i by omega, show u * 9 + i + 9 * d = (u + d) * 9 + i by omega]
      exact k3 (u + d) i (by omega) (by omega) q2 q3
  · by_cases e : u = M 75 18 - d
    · subst e
      rw [b2] at q3 q5
      rw [b4 i q2 (by omega), b4 j q4 (by omega)] at q6
      have z := (o1 r i (by omega) (by omega) q2 q3).2.2.2.2
      have z2 := (o1 r j (by omega) (by omega) q4 q5).2.2.2.2
      have q6 : M 78 (9 * r + i) = M 78 (9 * r + j) := q6
      rw [q6] at z
      omega
    · have w2 := k2 (u + d) (by omega) (by omega)
      rw [b1 u q0 (by omega)] at q3 q5
      have w := (h2 (M 88 (u + d)) (by omega) (by omega)).2.2.1
      rw [b3 (9 * u + i) (by omega) (by omega), b3 (9 * u + j) (by omega) (by omega), show 9 * u + i + 9 * d = 9 * (u + d) + i by omega, show 9 * u + j + 9 * d = 9 * (u + d) + j by omega] at q6
      exact k4 (u + d) i j (by omega) (by omega) q2 q3 q4 q5 q6
  · by_cases e : u = M 75 18 - d
    · subst e
      rw [b2] at q4 ⊢
      have z := o2 b q2 q3
      rw [q4] at z
      refine ⟨M 15 b, z.1, z.2.1, ?_⟩
      rw [b4 (M 15 b) z.1 (by omega)]
      exact z.2.2
    · have w2 := k2 (u + d) (by omega) (by omega)
      rw [b1 u q0 (by omega)] at q4 ⊢
      have w := (h2 (M 88 (u + d)) (by omega) (by omega)).2.2.1
      obtain ⟨i, x1, x2, x3⟩ := k5 (u + d) b (by omega) (by omega) q2 q3 q4
      refine ⟨i, x1, x2, ?_⟩
      rw [b3 (9 * u + i) (by omega) (by omega), show 9 * u + i + 9 * d = 9 * (u + d) + i by omega]
      exact x3
/-- one ROUTINE's order becomes another one -/
theorem O_new {M : fr_M} {r : Int} {g14 g15 g78 : Int → Int} (h1 : P1 M) (h2 : P2 M) (h4 : P4 M) (o1 : O1 M) (o2 : O2 M) (o3 : O3 M) (hr : 0 ≤ r ∧ r < M 75 0) (a : ∀ i, 0 ≤ i → i < M 76 r → g14 (r * 9 + i) = g78 (9 * r + i) ∧ 0 ≤ g78 (9 * r + i) ∧ g78 (9 * r + i) < M 75 4 ∧ M 79 (g78 (9 * r + i)) = r ∧ g15 (g78 (9 * r + i)) = i) (b1 : ∀ j, ¬ (9 * r ≤ j ∧ j < 9 * r + 9) → g14 j = M 14 j) (b2 : ∀ j, ¬ (9 * r ≤ j ∧ j < 9 * r + 9) → g78 j = M 78 j) (c : ∀ b, 0 ≤ b → b < M 75 4 → M 79 b ≠ r → g15 b = M 15 b) (d : ∀ b, 0 ≤ b → b < M 75 4 → M 79 b = r → ∃ i, 0 ≤ i ∧ i < M 76 r ∧ g78 (9 * r + i) = b) (e : g78 (9 * r) = M 77 (9 * r)) : let M' := rw_ (rw_ (rw_ M 14 g14) 15 g15) 78 g78
    O1 M' ∧ O2 M' ∧ O3 M' := by
  obtain ⟨p1, p2, p3, p4, p5, p6⟩ := id h1
  show (∀ r i, 0 ≤ r → r < 6 → 0 ≤ i → i < M 76 r → g14 (r * 9 + i) = g78 (9 * r + i) ∧ 0 ≤ g78 (9 * r + i) ∧ g78 (9 * r + i) < M 75 4 ∧ M 79 (g78 (9 * r + i)) = r ∧ g15 (g78 (9 * r + i)) = i) ∧ (∀ b, 0 ≤ b → b < M 75 4 → 0 ≤ g15 b ∧ g15 b < M 76 (M 79 b) ∧ g78 (9 * M 79 b + g15 b) = b) ∧ (∀ r, 0 ≤ r → r < 6 → 0 < M 76 r → g78 (9 * r) = M 77 (9 * r))
  refine ⟨fun r' i q0 q1 q2 q3 => ?_, fun b q0 q1 => ?_, fun r' q0 q1 q2 => ?_⟩
  · by_cases er : r' = r
    · subst er
      exact a i q2 q3
    · have w := (h2 r' q0 q1).2.2.1
      have z := o1 r' i q0 q1 q2 q3
      rw [b1 _ (by omega), b2 _ (by omega), c _ z.2.1 z.2.2.1 (by omega)]
      exact z
  · by_cases er : M 79 b = r
    · obtain ⟨i, x1, x2, x3⟩ := d b q0 q1 er
      have z := (a i x1 x2).2.2.2.2
      rw [x3] at z
      rw [er, z]
      exact ⟨x1, x2, x3⟩
    · have z := o2 b q0 q1
      have y := h4 b q0 q1
      have w := (h2 (M 79 b) (by omega) (by omega)).2.2.1
      rw [c b q0 q1 er, b2 _ (by omega)]
      exact z
  · by_cases er : r' = r
    · subst er
      exact e
    · rw [b2 _ (by omega)]
      exact o3 r' q0 q1 q2
/-- the one at a place comes to another one, those between move by one -/
def mvf (f : Int → Int) (o a b : Int) : Int → Int := fun j => if o + a ≤ j ∧ j < o + b then f (j + 1) else if o + b < j ∧ j ≤ o + a then f (j - 1) else if j = o + b then f (o + a) else f j
