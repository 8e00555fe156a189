set_option maxHeartbeats 4000000 in
set_option maxRecDepth 100000 in
theorem m_bs2 {M : fr_M} {r n s l x i : Int} {g : Int → Int} {Q : Option fr_V → fr_H → fr_M → Prop} (hR : RC M r n) (hs : 0 ≤ s ∧ s < b2 n) (hl : 0 ≤ l ∧ l < n) (hx : 1 ≤ x ∧ x < n) (hbx : btt s x = 1) (heq : cf M r l x + M 91 (9 * (s - b2 x) + x) = M 91 (9 * s + l)) (hno : ∀ y, 0 ≤ y → y < x → btt s y = 1 → cf M r l y + M 91 (9 * (s - b2 y) + y) ≠ M 91 (9 * s + l)) (hv : ∀ k, 0 ≤ k → k < n → btt s k = 1 → 0 ≤ M 91 (9 * (s - b2 k) + k) ∧ M 91 (9 * (s - b2 k) + k) ≤ 6000000 * pcn s) (h : ∀ x8 x9, fr_Run 162 none 105 [some (.inr (.inl 75)), some (.inl r), some (.inl n), some (.inl s), some (.inl l), some (.inl i), some (.inl (M 77 (9 * r + l))), some (.inl x), x8, x9] [] sh0 (rw_ M 78 g) 0 0 Q) : ∀ (t : Nat) (j : Int) (x9 : Option fr_V), 0 ≤ j → j + t = x → fr_Run 162 none 46 [some (.inr (.inl 75)), some (.inl r), some (.inl n), some (.inl s), some (.inl l), some (.inl i), some (.inl (M 77 (9 * r + l))), some (.inl (-1)), some (.inl j), x9] [] sh0 (rw_ M 78 g) 0 0 Q := by
  have hr := hR.1
  have hn9 := hR.2.2.1
  have hbn := (bit_shl (k := n) (by omega)).2
  have hpc := pcn_b (s := s)
  have hbl := hR.bl hl
  have h85 := hR.2.2.2.2.2
  have ec : ∀ j, 0 ≤ j → j < n → cs (rw_ M 78 g) (M 77 (9 * r + l)) (M 77 (9 * r + j)) = cf M r l j := fun j j0 j1 => by
    show cs M (M 77 (9 * r + l)) (M 77 (9 * r + j)) = _
    unfold cf
    rw [if_neg (by omega)]
  intro t
  induction t with
  | zero =>
    intro j x9 q0 q1
    have e : j = x := by omega
    subst e
    have hsh := bit_shr (s := s) (k := j) (by omega) (by omega)
    have hsl := bit_shl (k := j) (by omega)
    have hbo := bit_out (s := s) (k := j) (by omega) (by omega) hbx
    have hvj := hv j q0 (by omega) hbx
    have hfj := cf_b (j := j) hR hl
    have hbj := hR.bl (k := j) (by omega)
    have ecj := ec j q0 (by omega)
    have hand : fr_and s (fr_xor (fr_shl 1 j) (-1)) = s - b2 j := by
      rw [hsl.1]
      exact hbo.1
    rw [← hand] at hvj heq
    have h9 : fr_Run 162 none 46 [some (.inr (.inl 75)), some (.inl r), some (.inl n), some (.inl s), some (.inl l), some (.inl i), some (.inl (M 77 (9 * r + l))), some (.inl j), some (.inl (j + 1)), some (.inl 1)] [] sh0 (rw_ M 78 g) 0 0 Q := by
      have hh := h (some (.inl (j + 1))) (some (.inl 1))
      clear h hv hno ec
      refine fr_go k162 [46, 105] 400 rfl ?_
      repeat' (first | (refine And.intro (by first | omega | (simp (disch := decide) only [up_n, up_s, cp_n, rw_n, rw_s, up1_, if_true, if_false, ite_true, ite_false, reduceIte, eq_self, Int.reduceEq, true_and, and_true, not_true_eq_false, not_false_eq_true]; omega)) ?_) | (refine And.intro (fun hc => ?_) (fun hc => ?_) <;> (try (simp (disch := decide) only [up_n, up_s, cp_n, rw_n, rw_s, up1_, if_true, if_false, ite_true, ite_false, reduceIte, eq_self, Int.reduceEq, true_and, and_true, not_true_eq_false, not_false_eq_true] at hc)) <;> (try (exfalso; omega))) | (refine fun (hc : ¬ _) => ?_; try (simp (disch := decide) only [up_n, up_s, cp_n, rw_n, rw_s, up1_, if_true, if_false, ite_true, ite_false, reduceIte, eq_self, Int.reduceEq, true_and, and_true, not_true_eq_false, not_false_eq_true] at hc)) | (refine fun (hc : _ = _) => ?_; try (simp (disch := decide) only [up_n, up_s, cp_n, rw_n, rw_s, up1_, if_true, if_false, ite_true, ite_false, reduceIte, eq_self, Int.reduceEq, true_and, and_true, not_true_eq_false, not_false_eq_true] at hc)))
      all_goals first | (exfalso; omega) | exact hh
    clear h hv hno ec
    generalize cf M r l j = v at heq hfj ecj
    refine fr_go k162 [46, 105] 400 rfl ?_
    repeat' (first | (refine And.intro (by first | omega | (simp (disch := decide) only [up_n, up_s, cp_n, rw_n, rw_s, up1_, if_true, if_false, ite_true, ite_false, reduceIte, eq_self, Int.reduceEq, true_and, and_true, not_true_eq_false, not_false_eq_true]; omega)) ?_) | (refine And.intro (fun hc => ?_) (fun hc => ?_) <;> (try (simp (disch := decide) only [up_n, up_s, cp_n, rw_n, rw_s, up1_, if_true, if_false, ite_true, ite_false, reduceIte, eq_self, Int.reduceEq, true_and, and_true, not_true_eq_false, not_false_eq_true] at hc)) <;> (try (exfalso; omega))) | (refine fun (hc : ¬ _) => ?_; try (simp (disch := decide) only [up_n, up_s, cp_n, rw_n, rw_s, up1_, if_true, if_false, ite_true, ite_false, reduceIte, eq_self, Int.reduceEq, true_and, and_true, not_true_eq_false, not_false_eq_true] at hc)) | (refine fun (hc : _ = _) => ?_; try (simp (disch := decide) only [up_n, up_s, cp_n, rw_n, rw_s, up1_, if_true, if_false, ite_true, ite_false, reduceIte, eq_self, Int.reduceEq, true_and, and_true, not_true_eq_false, not_false_eq_true] at hc)))
    all_goals first | (exfalso; omega) | skip
    all_goals (show fr_Call 159 _ sh0 _ _)
    simp (disch := decide) only [up_n, up_s, cp_n, rw_n, rw_s, up1_, if_true, if_false, ite_true, ite_false, reduceIte, eq_self, Int.reduceEq, true_and, and_true, not_true_eq_false, not_false_eq_true]
    refine m_cost hbl.1 hbl.2.1 h85 ?_
    rw [ecj]
    repeat' (first | (refine And.intro (by first | omega | (simp (disch := decide) only [up_n, up_s, cp_n, rw_n, rw_s, up1_, if_true, if_false, ite_true, ite_false, reduceIte, eq_self, Int.reduceEq, true_and, and_true, not_true_eq_false, not_false_eq_true]; omega)) ?_) | (refine And.intro (fun hc => ?_) (fun hc => ?_) <;> (try (simp (disch := decide) only [up_n, up_s, cp_n, rw_n, rw_s, up1_, if_true, if_false, ite_true, ite_false, reduceIte, eq_self, Int.reduceEq, true_and, and_true, not_true_eq_false, not_false_eq_true] at hc)) <;> (try (exfalso; omega))) | (refine fun (hc : ¬ _) => ?_; try (simp (disch := decide) only [up_n, up_s, cp_n, rw_n, rw_s, up1_, if_true, if_false, ite_true, ite_false, reduceIte, eq_self, Int.reduceEq, true_and, and_true, not_true_eq_false, not_false_eq_true] at hc)) | (refine fun (hc : _ = _) => ?_; try (simp (disch := decide) only [up_n, up_s, cp_n, rw_n, rw_s, up1_, if_true, if_false, ite_true, ite_false, reduceIte, eq_self, Int.reduceEq, true_and, and_true, not_true_eq_false, not_false_eq_true] at hc)))
    all_goals first | (exfalso; omega) | (exfalso; simp (disch := decide) only [up_n, up_s, cp_n, rw_n, rw_s, up1_, if_true, if_false, ite_true, ite_false, reduceIte, eq_self, Int.reduceEq, true_and, and_true, not_true_eq_false, not_false_eq_true] at *; omega) | exact h9
  | succ t ih =>
    intro j x9 q0 q1
    have hh := fun x9 => ih (j + 1) x9 (by omega) (by omega)
    have hsh := bit_shr (s := s) (k := j) (by omega) (by omega)
    have h01 := bt_01 (s := s) (k := j)
    by_cases e : btt s j = 1
    · have hsl := bit_shl (k := j) (by omega)
      have hbo := bit_out (s := s) (k := j) (by omega) (by omega) e
      have hvj := hv j q0 (by omega) e
      have hfj := cf_b (j := j) hR hl
      have hbj := hR.bl (k := j) (by omega)
      have ecj := ec j q0 (by omega)
      have hnj := hno j q0 (by omega) e
      have hand : fr_and s (fr_xor (fr_shl 1 j) (-1)) = s - b2 j := by
        rw [hsl.1]
        exact hbo.1
      rw [← hand] at hvj hnj
      clear h hv hno ec ih heq
      generalize cf M r l j = v at hnj hfj ecj
      refine fr_go k162 [46, 105] 400 rfl ?_
      repeat' (first | (refine And.intro (by first | omega | (simp (disch := decide) only [up_n, up_s, cp_n, rw_n, rw_s, up1_, if_true, if_false, ite_true, ite_false, reduceIte, eq_self, Int.reduceEq, true_and, and_true, not_true_eq_false, not_false_eq_true]; omega)) ?_) | (refine And.intro (fun hc => ?_) (fun hc => ?_) <;> (try (simp (disch := decide) only [up_n, up_s, cp_n, rw_n, rw_s, up1_, if_true, if_false, ite_true, ite_false, reduceIte, eq_self, Int.reduceEq, true_and, and_true, not_true_eq_false, not_false_eq_true] at hc)) <;> (try (exfalso; omega))) | (refine fun (hc : ¬ _) => ?_; try (simp (disch := decide) only [up_n, up_s, cp_n, rw_n, rw_s, up1_, if_true, if_false, ite_true, ite_false, reduceIte, eq_self, Int.reduceEq, true_and, and_true, not_true_eq_false, not_false_eq_true] at hc)) | (refine fun (hc : _ = _) => ?_; try (simp (disch := decide) only [up_n, up_s, cp_n, rw_n, rw_s, up1_, if_true, if_false, ite_true, ite_false, reduceIte, eq_self, Int.reduceEq, true_and, and_true, not_true_eq_false, not_false_eq_true] at hc)))
      all_goals first | (exfalso; omega) | skip
      all_goals (show fr_Call 159 _ sh0 _ _)
      simp (disch := decide) only [up_n, up_s, cp_n, rw_n, rw_s, up1_, if_true, if_false, ite_true, ite_false, reduceIte, eq_self, Int.reduceEq, true_and, and_true, not_true_eq_false, not_false_eq_true]
      refine m_cost hbl.1 hbl.2.1 h85 ?_
      rw [ecj]
      repeat' (first | (refine And.intro (by first | omega | (simp (disch := decide) only [up_n, up_s, cp_n, rw_n, rw_s, up1_, if_true, if_false, ite_true, ite_false, reduceIte, eq_self, Int.reduceEq, true_and, and_true, not_true_eq_false, not_false_eq_true]; omega)) ?_) | (refine And.intro (fun hc => ?_) (fun hc => ?_) <;> (try (simp (disch := decide) only [up_n, up_s, cp_n, rw_n, rw_s, up1_, if_true, if_false, ite_true, ite_false, reduceIte, eq_self, Int.reduceEq, true_and, and_true, not_true_eq_false, not_false_eq_true] at hc)) <;> (try (exfalso; omega))) | (refine fun (hc : ¬ _) => ?_; try (simp (disch := decide) only [up_n, up_s, cp_n, rw_n, rw_s, up1_, if_true, if_false, ite_true, ite_false, reduceIte, eq_self, Int.reduceEq, true_and, and_true, not_true_eq_false, not_false_eq_true] at hc)) | (refine fun (hc : _ = _) => ?_; try (simp (disch := decide) only [up_n, up_s, cp_n, rw_n, rw_s, up1_, if_true, if_false, ite_true, ite_false, reduceIte, eq_self, Int.reduceEq, true_and, and_true, not_true_eq_false, not_false_eq_true] at hc)))
      all_goals first | (exfalso; omega) | (exfalso; simp (disch := decide) only [up_n, up_s, cp_n, rw_n, rw_s, up1_, if_true, if_false, ite_true, ite_false, reduceIte, eq_self, Int.reduceEq, true_and, and_true, not_true_eq_false, not_false_eq_true] at *; omega) | exact hh _
    · clear h hv hno ec ih heq
      refine fr_go k162 [46, 105] 400 rfl ?_
      repeat' (first | (refine And.intro (by first | omega | (simp (disch := decide) only [up_n, up_s, cp_n, rw_n, rw_s, up1_, if_true, if_false, ite_true, ite_false, reduceIte, eq_self, Int.reduceEq, true_and, and_true, not_true_eq_false, not_false_eq_true]; omega)) ?_) | (refine And.intro (fun hc => ?_) (fun hc => ?_) <;> (try (simp (disch := decide) only [up_n, up_s, cp_n, rw_n, rw_s, up1_, if_true, if_false, ite_true, ite_false, reduceIte, eq_self, Int.reduceEq, true_and, and_true, not_true_eq_false, not_false_eq_true] at hc)) <;> (try (exfalso; omega))) | (refine fun (hc : ¬ _) => ?_; try (simp (disch := decide) only [up_n, up_s, cp_n, rw_n, rw_s, up1_, if_true, if_false, ite_true, ite_false, reduceIte, eq_self, Int.reduceEq, true_and, and_true, not_true_eq_false, not_false_eq_true] at hc)) | (refine fun (hc : _ = _) => ?_; try (simp (disch := decide) only [up_n, up_s, cp_n, rw_n, rw_s, up1_, if_true, if_false, ite_true, ite_false, reduceIte, eq_self, Int.reduceEq, true_and, and_true, not_true_eq_false, not_false_eq_true] at hc)))
      all_goals first | (exfalso; omega) | exact hh _
set_option maxHeartbeats 4000000 in
set_option maxRecDepth 100000 in
theorem m_bs1 {M : fr_M} {r n : Int} {f : Int → Int → Int} {g21 rk : Int → Int} {Q : Option fr_V → fr_H → fr_M → Prop} (hR : RC M r n) (ef : cf M r = f) (hC : CT_ f n g21 (-1) 0) (hL : LT_ f n (M 91) (b2 n) 0) (w : WLK f g21 n rk (n - 1).toNat) (h : ∀ g, (∀ i, 0 ≤ i → i < n → g (9 * r + i) = M 77 (9 * r + rk i)) → (∀ j, ¬ (9 * r ≤ j ∧ j < 9 * r + 9) → g j = M 78 j) → Q none sh0 (rw_ M 78 g)) : ∀ (t k : Nat) (g : Int → Int) (x6 x7 x8 x9 : Option fr_V), (k : Int) + 1 + t = n → (∀ i, 0 ≤ i → i ≤ (k : Int) → g (9 * r + i) = M 77 (9 * r + rk i)) → (∀ j, ¬ (9 * r ≤ j ∧ j < 9 * r + 9) → g j = M 78 j) → fr_Run 162 none 30 [some (.inr (.inl 75)), some (.inl r), some (.inl n), some (.inl (2 * (b2 (n - 1) - 1 - TS rk k))), some (.inl (rk (k : Int))), some (.inl ((k : Int) + 1)), x6, x7, x8, x9] [] sh0 (rw_ M 78 g) 0 0 Q := by
  have hr := hR.1
  have hn9 := hR.2.2.1
  have hf : ∀ i j, 0 ≤ i → i < n → 0 ≤ f i j ∧ f i j ≤ 6000000 := fun i j i0 i1 => by
    rw [← ef]
    exact cf_b hR ⟨i0, i1⟩
  have hbn := (bit_shl (k := n) (by omega)).2
  intro t
  induction t with
  | zero =>
    intro k g x6 x7 x8 x9 q0 q1 q2
    have hh := h g (fun i i0 i1 => q1 i i0 (by omega)) q2
    clear h
    refine fr_go k162 [30] 400 rfl ?_
    repeat' (first | (refine And.intro (by first | omega | (simp (disch := decide) only [up_n, up_s, cp_n, rw_n, rw_s, up1_, if_true, if_false, ite_true, ite_false, reduceIte, eq_self, Int.reduceEq, true_and, and_true, not_true_eq_false, not_false_eq_true]; omega)) ?_) | (refine And.intro (fun hc => ?_) (fun hc => ?_) <;> (try (simp (disch := decide) only [up_n, up_s, cp_n, rw_n, rw_s, up1_, if_true, if_false, ite_true, ite_false, reduceIte, eq_self, Int.reduceEq, true_and, and_true, not_true_eq_false, not_false_eq_true] at hc)) <;> (try (exfalso; omega))) | (refine fun (hc : ¬ _) => ?_; try (simp (disch := decide) only [up_n, up_s, cp_n, rw_n, rw_s, up1_, if_true, if_false, ite_true, ite_false, reduceIte, eq_self, Int.reduceEq, true_and, and_true, not_true_eq_false, not_false_eq_true] at hc)) | (refine fun (hc : _ = _) => ?_; try (simp (disch := decide) only [up_n, up_s, cp_n, rw_n, rw_s, up1_, if_true, if_false, ite_true, ite_false, reduceIte, eq_self, Int.reduceEq, true_and, and_true, not_true_eq_false, not_false_eq_true] at hc)))
    all_goals first | (exfalso; omega) | exact hh
  | succ t ih =>
    intro k g x6 x7 x8 x9 q0 q1 q2
    obtain ⟨w1, w2, w3, w4, w5, w6⟩ := walk_eq hn9 hf hC hL w k (by omega)
    have hLs : LT_ f n (M 91) (2 * (b2 (n - 1) - 1 - TS rk k)) 0 := fun s' l' a0 a1 c0 c1 hlt => hL s' l' a0 a1 c0 c1 (by omega)
    have hv := hLs.in_ hn9 w1
    have hbx := hR.bl (k := rk ((k : Int) + 1)) (by omega)
    have hsl := bit_shl (k := rk ((k : Int) + 1)) (by omega)
    have hbo := bit_out (s := 2 * (b2 (n - 1) - 1 - TS rk k)) (k := rk ((k : Int) + 1)) (by omega) (by omega) w4.1
    have hi := fun x6 x7 x8 x9 => ih (k + 1) (up1 g (9 * r + ((k : Int) + 1)) (M 77 (9 * r + rk ((k : Int) + 1)))) x6 x7 x8 x9 (by omega) (fun i i0 i1 => by
      rw [up1_]
      by_cases e : i = (k : Int) + 1
      · rw [if_pos (by omega), e]
      · rw [if_neg (by omega)]
        exact q1 i i0 (by omega)) (fun j hj => by
      rw [up1_, if_neg (by omega)]
      exact q2 j hj)
    rw [w6, show ((k + 1 : Nat) : Int) = (k : Int) + 1 by omega, ← hbo.1, ← hsl.1] at hi
    rw [← ef] at w4 w5
    generalize 2 * (b2 (n - 1) - 1 - TS rk k) = s at *
    generalize rk (k : Int) = l at *
    generalize rk ((k : Int) + 1) = x at *
    have h2 := m_bs2 (M := M) (r := r) (n := n) (s := s) (l := l) (x := x) (i := (k : Int) + 1) (g := g) (Q := Q) hR w1 w2 w3 w4.1 w4.2 w5 hv (fun x8 x9 => by
      clear ih h w4 w5 hv hLs hL q1 q2 hf
      refine fr_go k162 [30] 400 rfl ?_
      repeat' (first | (refine And.intro (by first | omega | (simp (disch := decide) only [up_n, up_s, cp_n, rw_n, rw_s, up1_, if_true, if_false, ite_true, ite_false, reduceIte, eq_self, Int.reduceEq, true_and, and_true, not_true_eq_false, not_false_eq_true]; omega)) ?_) | (refine And.intro (fun hc => ?_) (fun hc => ?_) <;> (try (simp (disch := decide) only [up_n, up_s, cp_n, rw_n, rw_s, up1_, if_true, if_false, ite_true, ite_false, reduceIte, eq_self, Int.reduceEq, true_and, and_true, not_true_eq_false, not_false_eq_true] at hc)) <;> (try (exfalso; omega))) | (refine fun (hc : ¬ _) => ?_; try (simp (disch := decide) only [up_n, up_s, cp_n, rw_n, rw_s, up1_, if_true, if_false, ite_true, ite_false, reduceIte, eq_self, Int.reduceEq, true_and, and_true, not_true_eq_false, not_false_eq_true] at hc)) | (refine fun (hc : _ = _) => ?_; try (simp (disch := decide) only [up_n, up_s, cp_n, rw_n, rw_s, up1_, if_true, if_false, ite_true, ite_false, reduceIte, eq_self, Int.reduceEq, true_and, and_true, not_true_eq_false, not_false_eq_true] at hc)))
      all_goals first | (exfalso; omega) | skip
      simp (disch := decide) only [up_n, up_s, cp_n, rw_n, rw_s, up1_, if_true, if_false, ite_true, ite_false, reduceIte, eq_self, Int.reduceEq, true_and, and_true, not_true_eq_false, not_false_eq_true]
      simp (disch := decide) only [up_rw, rw_u, up_up, rw_rw, rw_cm]
      exact hi _ _ _ _) x.toNat 0 x9 (by omega) (by omega)
    clear ih h w4 w5 hv hLs hL q1 q2 hf hi
    refine fr_go k162 [30, 46] 400 rfl ?_
    repeat' (first | (refine And.intro (by first | omega | (simp (disch := decide) only [up_n, up_s, cp_n, rw_n, rw_s, up1_, if_true, if_false, ite_true, ite_false, reduceIte, eq_self, Int.reduceEq, true_and, and_true, not_true_eq_false, not_false_eq_true]; omega)) ?_) | (refine And.intro (fun hc => ?_) (fun hc => ?_) <;> (try (simp (disch := decide) only [up_n, up_s, cp_n, rw_n, rw_s, up1_, if_true, if_false, ite_true, ite_false, reduceIte, eq_self, Int.reduceEq, true_and, and_true, not_true_eq_false, not_false_eq_true] at hc)) <;> (try (exfalso; omega))) | (refine fun (hc : ¬ _) => ?_; try (simp (disch := decide) only [up_n, up_s, cp_n, rw_n, rw_s, up1_, if_true, if_false, ite_true, ite_false, reduceIte, eq_self, Int.reduceEq, true_and, and_true, not_true_eq_false, not_false_eq_true] at hc)) | (refine fun (hc : _ = _) => ?_; try (simp (disch := decide) only [up_n, up_s, cp_n, rw_n, rw_s, up1_, if_true, if_false, ite_true, ite_false, reduceIte, eq_self, Int.reduceEq, true_and, and_true, not_true_eq_false, not_false_eq_true] at hc)))
    all_goals first | (exfalso; omega) | exact h2
set_option maxHeartbeats 4000000 in
set_option maxRecDepth 100000 in
theorem m_best {M : fr_M} {r n : Int} {f : Int → Int → Int} {g21 rk : Int → Int} {Q : Option fr_V → fr_H → fr_M → Prop} (hR : RC M r n) (ef : cf M r = f) (hC : CT_ f n g21 (-1) 0) (w : WLK f g21 n rk (n - 1).toNat) (h : ∀ g91 g, (∀ i, 0 ≤ i → i < n → g (9 * r + i) = M 77 (9 * r + rk i)) → (∀ j, ¬ (9 * r ≤ j ∧ j < 9 * r + 9) → g j = M 78 j) → Q none sh0 (rw_ (rw_ M 91 g91) 78 g)) : fr_Call 162 [.inr (.inl 75), .inl r] sh0 M Q := by
  have hr := hR.1
  have hn := hR.2.1
  have hn9 := hR.2.2.1
  have hbn := bit_shl (k := n) (by omega)
  have hb2 := b2_s hn9
  have hb0 := hR.bl (k := 0) (by omega)
  rw [show 9 * r + 0 = 9 * r by omega] at hb0
  refine fr_cgo k162 [some (.inr (.inl 75)), some (.inl r), none, none, none, none, none, none, none, none] 0 0 [30] 400 rfl rfl rfl rfl ?_
  repeat' (first | (refine And.intro (by first | omega | (simp (disch := decide) only [up_n, up_s, cp_n, rw_n, rw_s, up1_, if_true, if_false, ite_true, ite_false, reduceIte, eq_self, Int.reduceEq, true_and, and_true, not_true_eq_false, not_false_eq_true]; omega)) ?_) | (refine And.intro (fun hc => ?_) (fun hc => ?_) <;> (try (simp (disch := decide) only [up_n, up_s, cp_n, rw_n, rw_s, up1_, if_true, if_false, ite_true, ite_false, reduceIte, eq_self, Int.reduceEq, true_and, and_true, not_true_eq_false, not_false_eq_true] at hc)) <;> (try (exfalso; omega))) | (refine fun (hc : ¬ _) => ?_; try (simp (disch := decide) only [up_n, up_s, cp_n, rw_n, rw_s, up1_, if_true, if_false, ite_true, ite_false, reduceIte, eq_self, Int.reduceEq, true_and, and_true, not_true_eq_false, not_false_eq_true] at hc)) | (refine fun (hc : _ = _) => ?_; try (simp (disch := decide) only [up_n, up_s, cp_n, rw_n, rw_s, up1_, if_true, if_false, ite_true, ite_false, reduceIte, eq_self, Int.reduceEq, true_and, and_true, not_true_eq_false, not_false_eq_true] at hc)))
  all_goals first | (exfalso; omega) | skip
  refine m_makeTable hR (fun g91 hL => ?_)
  rw [ef] at hL
  have hh := m_bs1 (M := rw_ M 91 g91) (r := r) (n := n) (f := f) (g21 := g21) (rk := rk) (Q := Q) (hR.cg (fun k i hk => rw_n (by omega))) (by rw [← ef]; rfl) hC hL w (fun g a b => h g91 g a b) (n - 1).toNat 0 (up1 (M 78) (9 * r) (M 77 (9 * r))) none none none none (by omega) (fun i i0 i1 => by
    have e : i = 0 := by omega
    subst e
    rw [w.1, show 9 * r + 0 = 9 * r by omega, up1_, if_pos rfl]
    rfl) (fun j hj => by
    rw [up1_, if_neg (by omega)]
    rfl)
  rw [show rk ((0 : Nat) : Int) = 0 from w.1] at hh
  have e1 : 2 * (b2 (n - 1) - 1 - TS rk 0) = fr_shl 1 n - 2 := by
    rw [show TS rk 0 = 0 from rfl]
    omega
  rw [e1] at hh
  clear h
  have hs' : fr_shl 1 (M 76 r) = fr_shl 1 n := by rw [hn]
  repeat' (first | (refine And.intro (by first | omega | (simp (disch := decide) only [up_n, up_s, cp_n, rw_n, rw_s, up1_, if_true, if_false, ite_true, ite_false, reduceIte, eq_self, Int.reduceEq, true_and, and_true, not_true_eq_false, not_false_eq_true]; omega)) ?_) | (refine And.intro (fun hc => ?_) (fun hc => ?_) <;> (try (simp (disch := decide) only [up_n, up_s, cp_n, rw_n, rw_s, up1_, if_true, if_false, ite_true, ite_false, reduceIte, eq_self, Int.reduceEq, true_and, and_true, not_true_eq_false, not_false_eq_true] at hc)) <;> (try (exfalso; omega))) | (refine fun (hc : ¬ _) => ?_; try (simp (disch := decide) only [up_n, up_s, cp_n, rw_n, rw_s, up1_, if_true, if_false, ite_true, ite_false, reduceIte, eq_self, Int.reduceEq, true_and, and_true, not_true_eq_false, not_false_eq_true] at hc)) | (refine fun (hc : _ = _) => ?_; try (simp (disch := decide) only [up_n, up_s, cp_n, rw_n, rw_s, up1_, if_true, if_false, ite_true, ite_false, reduceIte, eq_self, Int.reduceEq, true_and, and_true, not_true_eq_false, not_false_eq_true] at hc)))
  all_goals first | (exfalso; omega) | (exfalso; simp (disch := decide) only [up_n, up_s, cp_n, rw_n, rw_s, up1_, if_true, if_false, ite_true, ite_false, reduceIte, eq_self, Int.reduceEq, true_and, and_true, not_true_eq_false, not_false_eq_true] at *; omega) | skip
  simp (disch := decide) only [up_n, up_s, cp_n, rw_n, rw_s, up1_, if_true, if_false, ite_true, ite_false, reduceIte, eq_self, Int.reduceEq, true_and, and_true, not_true_eq_false, not_false_eq_true]
  rw [hn]
  refine q_run hh ?_
  exact ((rw_up (M := rw_ M 91 g91) (k := 78) (g := M 78) (i := 9 * r) (v := M 77 (9 * r))).symm).trans (congrArg (fun m => fr_up m 78 (9 * r) (M 77 (9 * r))) (rw_id (M := rw_ M 91 g91) (k := 78)))
set_option maxHeartbeats 4000000 in
set_option maxRecDepth 100000 in
theorem op_ord1 {n : Int} {M : fr_M} (hR : Rel n M) (hn : n ≤ 512) {r : Int} (hr : 0 ≤ r ∧ r < M 75 0) (hm : 0 < M 76 r) : Two 119 172 [.inl r, .inl 1] M (Rel (n + 1)) := by
  have hRC := hR.pc.rc hr hm
  have hn9 := hRC.2.2.1
  have hr6 := hRC.1
  have hf : ∀ i j, 0 ≤ i → i < M 76 r → 0 ≤ cf M r i j ∧ cf M r i j ≤ 6000000 := fun i j i0 i1 => cf_b hRC ⟨i0, i1⟩
  refine ord_fr hR hn hr hm (by omega) (fun rk => ∃ g21, CT_ (cf M r) (M 76 r) g21 (-1) 0 ∧ WLK (cf M r) g21 (M 76 r) rk (M 76 r - 1).toNat) ?_ ?_
  · intro Z Q hZ h
    refine fr_go k119 [68] 400 rfl ?_
    repeat' (first | (refine And.intro (by first | omega | (simp (disch := decide) only [up_n, up_s, cp_n, rw_n, rw_s, up1_, if_true, if_false, ite_true, ite_false, reduceIte, eq_self, Int.reduceEq, true_and, and_true, not_true_eq_false, not_false_eq_true]; omega)) ?_) | (refine And.intro (fun hc => ?_) (fun hc => ?_) <;> (try (simp (disch := decide) only [up_n, up_s, cp_n, rw_n, rw_s, up1_, if_true, if_false, ite_true, ite_false, reduceIte, eq_self, Int.reduceEq, true_and, and_true, not_true_eq_false, not_false_eq_true] at hc)) <;> (try (exfalso; omega))) | (refine fun (hc : ¬ _) => ?_; try (simp (disch := decide) only [up_n, up_s, cp_n, rw_n, rw_s, up1_, if_true, if_false, ite_true, ite_false, reduceIte, eq_self, Int.reduceEq, true_and, and_true, not_true_eq_false, not_false_eq_true] at hc)) | (refine fun (hc : _ = _) => ?_; try (simp (disch := decide) only [up_n, up_s, cp_n, rw_n, rw_s, up1_, if_true, if_false, ite_true, ite_false, reduceIte, eq_self, Int.reduceEq, true_and, and_true, not_true_eq_false, not_false_eq_true] at hc)))
    all_goals first | (exfalso; omega) | skip
    refine c_find (f := cf M r) ⟨hZ.1, hn9⟩ hZ.2.1 hf (fun g21 g hC hW => ?_)
    repeat' (first | (refine And.intro (by first | omega | (simp (disch := decide) only [up_n, up_s, cp_n, rw_n, rw_s, up1_, if_true, if_false, ite_true, ite_false, reduceIte, eq_self, Int.reduceEq, true_and, and_true, not_true_eq_false, not_false_eq_true]; omega)) ?_) | (refine And.intro (fun hc => ?_) (fun hc => ?_) <;> (try (simp (disch := decide) only [up_n, up_s, cp_n, rw_n, rw_s, up1_, if_true, if_false, ite_true, ite_false, reduceIte, eq_self, Int.reduceEq, true_and, and_true, not_true_eq_false, not_false_eq_true] at hc)) <;> (try (exfalso; omega))) | (refine fun (hc : ¬ _) => ?_; try (simp (disch := decide) only [up_n, up_s, cp_n, rw_n, rw_s, up1_, if_true, if_false, ite_true, ite_false, reduceIte, eq_self, Int.reduceEq, true_and, and_true, not_true_eq_false, not_false_eq_true] at hc)) | (refine fun (hc : _ = _) => ?_; try (simp (disch := decide) only [up_n, up_s, cp_n, rw_n, rw_s, up1_, if_true, if_false, ite_true, ite_false, reduceIte, eq_self, Int.reduceEq, true_and, and_true, not_true_eq_false, not_false_eq_true] at hc)))
    refine h _ _ (fun k i hk => by rw [rw_n (by omega), rw_n (by omega)]) ⟨?_, fun i i0 i1 => ?_, fun i j i0 i1 j0 j1 e => ?_⟩ ⟨g21, hC, ?_⟩
    · rw [rw_at]
      exact hW.1
    · rw [rw_at]
      have a := (WLK.inv hn9 hW i.toNat (by omega)).2.2.2.1
      rw [show ((i.toNat : Nat) : Int) = i by omega] at a
      exact a
    · rw [rw_at] at e
      apply Classical.byContradiction
      intro q
      rcases (show i < j ∨ j < i by omega) with q | q
      · have a := WLK.inj hn9 hW (i := i.toNat) (j := j.toNat) (by omega) (by omega)
        rw [show ((i.toNat : Nat) : Int) = i by omega, show ((j.toNat : Nat) : Int) = j by omega] at a
        exact a e
      · have a := WLK.inj hn9 hW (i := j.toNat) (j := i.toNat) (by omega) (by omega)
        rw [show ((i.toNat : Nat) : Int) = i by omega, show ((j.toNat : Nat) : Int) = j by omega] at a
        exact a e.symm
    · rw [rw_at]
      exact hW
  · intro W Q rk hW hP hΦ h
    obtain ⟨g21, hC, hK⟩ := hΦ
    refine fr_go k172 [71] 400 rfl ?_
    repeat' (first | (refine And.intro (by first | omega | (simp (disch := decide) only [up_n, up_s, cp_n, rw_n, rw_s, up1_, if_true, if_false, ite_true, ite_false, reduceIte, eq_self, Int.reduceEq, true_and, and_true, not_true_eq_false, not_false_eq_true]; omega)) ?_) | (refine And.intro (fun hc => ?_) (fun hc => ?_) <;> (try (simp (disch := decide) only [up_n, up_s, cp_n, rw_n, rw_s, up1_, if_true, if_false, ite_true, ite_false, reduceIte, eq_self, Int.reduceEq, true_and, and_true, not_true_eq_false, not_false_eq_true] at hc)) <;> (try (exfalso; omega))) | (refine fun (hc : ¬ _) => ?_; try (simp (disch := decide) only [up_n, up_s, cp_n, rw_n, rw_s, up1_, if_true, if_false, ite_true, ite_false, reduceIte, eq_self, Int.reduceEq, true_and, and_true, not_true_eq_false, not_false_eq_true] at hc)) | (refine fun (hc : _ = _) => ?_; try (simp (disch := decide) only [up_n, up_s, cp_n, rw_n, rw_s, up1_, if_true, if_false, ite_true, ite_false, reduceIte, eq_self, Int.reduceEq, true_and, and_true, not_true_eq_false, not_false_eq_true] at hc)))
    all_goals first | (exfalso; omega) | skip
    refine m_best (f := cf M r) (hRC.cg (fun k i hk => hW k i (by omega))) (by funext i j; exact cf_cg (fun k i hk => hW k i (by omega))) hC hK (fun g91 g a b => ?_)
    repeat' (first | (refine And.intro (by first | omega | (simp (disch := decide) only [up_n, up_s, cp_n, rw_n, rw_s, up1_, if_true, if_false, ite_true, ite_false, reduceIte, eq_self, Int.reduceEq, true_and, and_true, not_true_eq_false, not_false_eq_true]; omega)) ?_) | (refine And.intro (fun hc => ?_) (fun hc => ?_) <;> (try (simp (disch := decide) only [up_n, up_s, cp_n, rw_n, rw_s, up1_, if_true, if_false, ite_true, ite_false, reduceIte, eq_self, Int.reduceEq, true_and, and_true, not_true_eq_false, not_false_eq_true] at hc)) <;> (try (exfalso; omega))) | (refine fun (hc : ¬ _) => ?_; try (simp (disch := decide) only [up_n, up_s, cp_n, rw_n, rw_s, up1_, if_true, if_false, ite_true, ite_false, reduceIte, eq_self, Int.reduceEq, true_and, and_true, not_true_eq_false, not_false_eq_true] at hc)) | (refine fun (hc : _ = _) => ?_; try (simp (disch := decide) only [up_n, up_s, cp_n, rw_n, rw_s, up1_, if_true, if_false, ite_true, ite_false, reduceIte, eq_self, Int.reduceEq, true_and, and_true, not_true_eq_false, not_false_eq_true] at hc)))
    refine h _ _ (fun k i hk => by rw [rw_n (by omega), rw_n (by omega)]) (fun i i0 i1 => ?_) (fun j hj => ?_)
    · rw [rw_at, a i i0 i1]
      exact hW 77 _ (by omega)
    · rw [rw_at, b j hj]
      exact hW 78 _ (by omega)
