theorem pig : ∀ (m : Nat) (g : Nat → Nat), (∀ i, i < m + 1 → g i < m) → ∃ i j, i < j ∧ j < m + 1 ∧ g i = g j
  | 0, g, h => absurd (h 0 (by omega)) (by omega)
  | m + 1, g, h => by
    by_cases e : ∃ i, i < m + 1 ∧ g i = g (m + 1)
    · obtain ⟨i, hi, e⟩ := e
      exact ⟨i, m + 1, hi, by omega, e⟩
    · have hne : ∀ i, i < m + 1 → g i ≠ g (m + 1) := fun i hi q => e ⟨i, hi, q⟩
      have hl := h (m + 1) (by omega)
      obtain ⟨i, j, hij, hj, q⟩ := pig m (fun i => if g i > g (m + 1) then g i - 1 else g i) (fun i hi => by
        have := h i (by omega)
        have := hne i hi
        show (if g i > g (m + 1) then g i - 1 else g i) < m
        split <;> omega)
      have q : (if g i > g (m + 1) then g i - 1 else g i) = (if g j > g (m + 1) then g j - 1 else g j) := q
      have a := hne i (by omega)
      have b := hne j hj
      refine ⟨i, j, hij, by omega, ?_⟩
      split at q <;> split at q <;> omega
def Pm (m : Int) (rk : Int → Int) : Prop := rk 0 = 0 ∧ (∀ i, 0 ≤ i → i < m → 0 ≤ rk i ∧ rk i < m) ∧ (∀ i j, 0 ≤ i → i < m → 0 ≤ j → j < m → rk i = rk j → i = j)
theorem sur_of {m : Int} {rk : Int → Int} (h1 : ∀ i, 0 ≤ i → i < m → 0 ≤ rk i ∧ rk i < m) (h2 : ∀ i j, 0 ≤ i → i < m → 0 ≤ j → j < m → rk i = rk j → i = j) {x : Int} (hx : 0 ≤ x ∧ x < m) : ∃ i, (0 ≤ i ∧ i < m) ∧ rk i = x := by
  apply Classical.byContradiction
  intro hc
  have hn : ∀ i, 0 ≤ i → i < m → rk i ≠ x := fun i i0 i1 q => hc ⟨i, ⟨i0, i1⟩, q⟩
  obtain ⟨i, j, hij, hj, q⟩ := pig m.toNat (fun i => if i < m.toNat then (rk (i : Int)).toNat else x.toNat) (fun i hi => by
    show (if i < m.toNat then (rk (i : Int)).toNat else x.toNat) < m.toNat
    split
    · have := h1 (i : Int) (by omega) (by omega)
      omega
    · omega)
  have q : (if i < m.toNat then (rk (i : Int)).toNat else x.toNat) = (if j < m.toNat then (rk (j : Int)).toNat else x.toNat) := q
  rw [if_pos (by omega)] at q
  have a := h1 (i : Int) (by omega) (by omega)
  by_cases ej : j < m.toNat
  · rw [if_pos ej] at q
    have b := h1 (j : Int) (by omega) (by omega)
    have := h2 (i : Int) (j : Int) (by omega) (by omega) (by omega) (by omega) (by omega)
    omega
  · rw [if_neg ej] at q
    exact hn (i : Int) (by omega) (by omega) (by omega)
set_option maxHeartbeats 4000000 in
set_option maxRecDepth 100000 in
theorem c_wr_l {M : fr_M} {r m : Int} {Q : Option fr_V → fr_H → fr_M → Prop} (hr : 0 ≤ r ∧ r < 6) (hm : M 2 r = m ∧ 0 ≤ m ∧ m ≤ 9) (hk : ∀ i, 0 ≤ i → i < m → 0 ≤ M 74 i ∧ M 74 i < 9) (hb : ∀ i, 0 ≤ i → i < m → 0 ≤ M 3 (r * 9 + M 74 i) ∧ M 3 (r * 9 + M 74 i) < 40) (hinj : ∀ i j, 0 ≤ i → i < m → 0 ≤ j → j < m → M 3 (r * 9 + M 74 i) = M 3 (r * 9 + M 74 j) → i = j) (h : ∀ g14 g15, (∀ j, 0 ≤ j → j < m → g14 (r * 9 + j) = M 3 (r * 9 + M 74 j)) → (∀ j, ¬ (9 * r ≤ j ∧ j < 9 * r + 9) → g14 j = M 14 j) → (∀ j, 0 ≤ j → j < m → g15 (M 3 (r * 9 + M 74 j)) = j) → (∀ b, (∀ j, 0 ≤ j → j < m → M 3 (r * 9 + M 74 j) ≠ b) → g15 b = M 15 b) → Q none sh0 (rw_ (rw_ M 14 g14) 15 g15)) : ∀ (t : Nat) (i : Int) (g14 g15 : Int → Int), 0 ≤ i → i + t = m → (∀ j, 0 ≤ j → j < i → g14 (r * 9 + j) = M 3 (r * 9 + M 74 j)) → (∀ j, ¬ (9 * r ≤ j ∧ j < 9 * r + 9) → g14 j = M 14 j) → (∀ j, 0 ≤ j → j < i → g15 (M 3 (r * 9 + M 74 j)) = j) → (∀ b, (∀ j, 0 ≤ j → j < i → M 3 (r * 9 + M 74 j) ≠ b) → g15 b = M 15 b) → fr_Run 51 none 2 [some (.inr (.inl 13)), some (.inl r), some (.inr (.inl 74)), some (.inl i)] [] sh0 (rw_ (rw_ M 14 g14) 15 g15) 0 0 Q := by
  intro t
  induction t with
  | zero =>
    intro i g14 g15 q0 q1 q2 q3 q4 q5
    have e : i = m := by omega
    subst e
    have hh := h g14 g15 q2 q3 q4 q5
    clear h
    refine fr_go k51 [2] 400 rfl ?_
    repeat' (first | (refine And.intro (by first | omega | (simp (disch := decide) only [up_n, up_s, cp_n, rw_n, rw_s, up1_, if_true, if_false, ite_true, ite_false, reduceIte, eq_self, Int.reduceEq, true_and, and_true, not_true_eq_false, not_false_eq_true]; omega)) ?_) | (refine And.intro (fun hc => ?_) (fun hc => ?_) <;> (try (simp (disch := decide) only [up_n, up_s, cp_n, rw_n, rw_s, up1_, if_true, if_false, ite_true, ite_false, reduceIte, eq_self, Int.reduceEq, true_and, and_true, not_true_eq_false, not_false_eq_true] at hc)) <;> (try (exfalso; omega))) | (refine fun (hc : ¬ _) => ?_; try (simp (disch := decide) only [up_n, up_s, cp_n, rw_n, rw_s, up1_, if_true, if_false, ite_true, ite_false, reduceIte, eq_self, Int.reduceEq, true_and, and_true, not_true_eq_false, not_false_eq_true] at hc)) | (refine fun (hc : _ = _) => ?_; try (simp (disch := decide) only [up_n, up_s, cp_n, rw_n, rw_s, up1_, if_true, if_false, ite_true, ite_false, reduceIte, eq_self, Int.reduceEq, true_and, and_true, not_true_eq_false, not_false_eq_true] at hc)))
    all_goals first | (exfalso; omega) | exact hh
  | succ t ih =>
    intro i g14 g15 q0 q1 q2 q3 q4 q5
    have hbi := hb i q0 (by omega)
    have hki := hk i q0 (by omega)
    have hh := ih (i + 1) (up1 g14 (r * 9 + i) (M 3 (r * 9 + M 74 i))) (up1 g15 (M 3 (r * 9 + M 74 i)) i) (by omega) (by omega) (fun j a0 a1 => by
      rw [up1_]
      by_cases e : j = i
      · rw [if_pos (by omega), e]
      · rw [if_neg (by omega)]
        exact q2 j a0 (by omega)) (fun j hj => by
      rw [up1_, if_neg (by omega)]
      exact q3 j hj) (fun j a0 a1 => by
      rw [up1_]
      by_cases e : j = i
      · rw [if_pos (by rw [e]), e]
      · rw [if_neg (fun q => e (hinj j i a0 (by omega) q0 (by omega) q))]
        exact q4 j a0 (by omega)) (fun b hbb => by
      rw [up1_, if_neg (fun q => hbb i q0 (by omega) q.symm)]
      exact q5 b (fun j a0 a1 => hbb j a0 (by omega)))
    clear ih h hb hk hinj q2 q3 q4 q5
    refine fr_go k51 [2] 400 rfl ?_
    repeat' (first | (refine And.intro (by first | omega | (simp (disch := decide) only [up_n, up_s, cp_n, rw_n, rw_s, up1_, if_true, if_false, ite_true, ite_false, reduceIte, eq_self, Int.reduceEq, true_and, and_true, not_true_eq_false, not_false_eq_true]; omega)) ?_) | (refine c_ownBlock (by omega) (by simp (disch := decide) only [up_n, up_s, cp_n, rw_n, rw_s, up1_, if_true, if_false, ite_true, ite_false, reduceIte, eq_self, Int.reduceEq, true_and, and_true, not_true_eq_false, not_false_eq_true]; omega) ?_) | (refine And.intro (fun hc => ?_) (fun hc => ?_) <;> (try (simp (disch := decide) only [up_n, up_s, cp_n, rw_n, rw_s, up1_, if_true, if_false, ite_true, ite_false, reduceIte, eq_self, Int.reduceEq, true_and, and_true, not_true_eq_false, not_false_eq_true] at hc)) <;> (try (exfalso; omega))) | (refine fun (hc : ¬ _) => ?_; try (simp (disch := decide) only [up_n, up_s, cp_n, rw_n, rw_s, up1_, if_true, if_false, ite_true, ite_false, reduceIte, eq_self, Int.reduceEq, true_and, and_true, not_true_eq_false, not_false_eq_true] at hc)) | (refine fun (hc : _ = _) => ?_; try (simp (disch := decide) only [up_n, up_s, cp_n, rw_n, rw_s, up1_, if_true, if_false, ite_true, ite_false, reduceIte, eq_self, Int.reduceEq, true_and, and_true, not_true_eq_false, not_false_eq_true] at hc)))
    all_goals first | (exfalso; omega) | (exfalso; simp (disch := decide) only [up_n, up_s, cp_n, rw_n, rw_s, up1_, if_true, if_false, ite_true, ite_false, reduceIte, eq_self, Int.reduceEq, true_and, and_true, not_true_eq_false, not_false_eq_true] at *; omega) | skip
    all_goals (show fr_Call 45 _ sh0 _ _)
    simp (disch := decide) only [up_n, up_s, cp_n, rw_n, rw_s, up1_, if_true, if_false, ite_true, ite_false, reduceIte, eq_self, Int.reduceEq, true_and, and_true, not_true_eq_false, not_false_eq_true]
    refine c_put hr (by omega) hbi ?_
    repeat' (first | (refine And.intro (by first | omega | (simp (disch := decide) only [up_n, up_s, cp_n, rw_n, rw_s, up1_, if_true, if_false, ite_true, ite_false, reduceIte, eq_self, Int.reduceEq, true_and, and_true, not_true_eq_false, not_false_eq_true]; omega)) ?_) | (refine And.intro (fun hc => ?_) (fun hc => ?_) <;> (try (simp (disch := decide) only [up_n, up_s, cp_n, rw_n, rw_s, up1_, if_true, if_false, ite_true, ite_false, reduceIte, eq_self, Int.reduceEq, true_and, and_true, not_true_eq_false, not_false_eq_true] at hc)) <;> (try (exfalso; omega))) | (refine fun (hc : ¬ _) => ?_; try (simp (disch := decide) only [up_n, up_s, cp_n, rw_n, rw_s, up1_, if_true, if_false, ite_true, ite_false, reduceIte, eq_self, Int.reduceEq, true_and, and_true, not_true_eq_false, not_false_eq_true] at hc)) | (refine fun (hc : _ = _) => ?_; try (simp (disch := decide) only [up_n, up_s, cp_n, rw_n, rw_s, up1_, if_true, if_false, ite_true, ite_false, reduceIte, eq_self, Int.reduceEq, true_and, and_true, not_true_eq_false, not_false_eq_true] at hc)))
    simp (disch := decide) only [up_rw, rw_u, up_up, rw_rw, rw_cm]
    exact hh
set_option maxHeartbeats 4000000 in
set_option maxRecDepth 100000 in
theorem c_writeRanks {M : fr_M} {r m : Int} {Q : Option fr_V → fr_H → fr_M → Prop} (hr : 0 ≤ r ∧ r < 6) (hm : M 2 r = m ∧ 0 ≤ m ∧ m ≤ 9) (hk : ∀ i, 0 ≤ i → i < m → 0 ≤ M 74 i ∧ M 74 i < 9) (hb : ∀ i, 0 ≤ i → i < m → 0 ≤ M 3 (r * 9 + M 74 i) ∧ M 3 (r * 9 + M 74 i) < 40) (hinj : ∀ i j, 0 ≤ i → i < m → 0 ≤ j → j < m → M 3 (r * 9 + M 74 i) = M 3 (r * 9 + M 74 j) → i = j) (h : ∀ g14 g15, (∀ j, 0 ≤ j → j < m → g14 (r * 9 + j) = M 3 (r * 9 + M 74 j)) → (∀ j, ¬ (9 * r ≤ j ∧ j < 9 * r + 9) → g14 j = M 14 j) → (∀ j, 0 ≤ j → j < m → g15 (M 3 (r * 9 + M 74 j)) = j) → (∀ b, (∀ j, 0 ≤ j → j < m → M 3 (r * 9 + M 74 j) ≠ b) → g15 b = M 15 b) → Q none sh0 (rw_ (rw_ M 14 g14) 15 g15)) : fr_Call 51 [.inr (.inl 13), .inl r, .inr (.inl 74)] sh0 M Q := by
  refine fr_cgo k51 [some (.inr (.inl 13)), some (.inl r), some (.inr (.inl 74)), none] 0 0 [2] 400 rfl rfl rfl rfl ?_
  repeat' (first | (refine And.intro (by first | omega | (simp (disch := decide) only [up_n, up_s, cp_n, rw_n, rw_s, up1_, if_true, if_false, ite_true, ite_false, reduceIte, eq_self, Int.reduceEq, true_and, and_true, not_true_eq_false, not_false_eq_true]; omega)) ?_) | (refine And.intro (fun hc => ?_) (fun hc => ?_) <;> (try (simp (disch := decide) only [up_n, up_s, cp_n, rw_n, rw_s, up1_, if_true, if_false, ite_true, ite_false, reduceIte, eq_self, Int.reduceEq, true_and, and_true, not_true_eq_false, not_false_eq_true] at hc)) <;> (try (exfalso; omega))) | (refine fun (hc : ¬ _) => ?_; try (simp (disch := decide) only [up_n, up_s, cp_n, rw_n, rw_s, up1_, if_true, if_false, ite_true, ite_false, reduceIte, eq_self, Int.reduceEq, true_and, and_true, not_true_eq_false, not_false_eq_true] at hc)) | (refine fun (hc : _ = _) => ?_; try (simp (disch := decide) only [up_n, up_s, cp_n, rw_n, rw_s, up1_, if_true, if_false, ite_true, ite_false, reduceIte, eq_self, Int.reduceEq, true_and, and_true, not_true_eq_false, not_false_eq_true] at hc)))
  refine q_run (c_wr_l hr hm hk hb hinj h m.toNat 0 (M 14) (M 15) (by omega) (by omega) (fun j a0 a1 => by omega) (fun j hj => rfl) (fun j a0 a1 => by omega) (fun b hbb => rfl)) ?_
  exact (congrArg (fun x => rw_ x 15 (M 15)) (rw_id (k := 14))).trans (rw_id (k := 15))
/-- what holds before the search of the class, and of the reference -/
def CZ (M : fr_M) (r m : Int) (Z : fr_M) : Prop := Z 18 2 = m ∧ PT (cf M r) m m (Z 19) ∧ (∀ i, 0 ≤ i → i < m → Z 74 i = M 5 (M 14 (r * 9 + i))) ∧ (∀ k i, pk k i → Z k i = M k i)
