def TW (p : fr_M) (lg : Int → Int) (b a W : Int) (g : Int → Int) (w : Int) (g' : Int → Int) : Prop := (∀ j, j < a ∨ W + 4 * w ≤ j → g' j = g j) ∧ g' a = sg 255 ∧ g' (a + 1) = sg 36 ∧ (∀ j, a + 2 ≤ j → j < W → g' j = 0) ∧ (∀ v m, 0 ≤ v → v < w → 0 ≤ m → m < 4 → g' (W + 4 * v + m) = sg (byo (ad p lg (p 84 (4 * b + v))) m))
set_option maxHeartbeats 4000000 in
set_option maxRecDepth 100000 in
theorem c_wt_l {N p : fr_M} {lg : Int → Int} {b a W n : Int} {g : Int → Int} {Q : Option fr_V → fr_H → fr_M → Prop} (hb : 0 ≤ b ∧ b < 40) (hW : a + 2 ≤ W ∧ W + 16 ≤ 9760) (ha : 0 ≤ a) (hn : N 8 b = n ∧ 0 ≤ n ∧ n ≤ 4) (hw : ∀ w, 0 ≤ w → w < n → N 11 (b * 4 + w) = p 84 (4 * b + w) ∧ (0 ≤ p 84 (4 * b + w) ∧ p 84 (4 * b + w) < 40) ∧ N 32 (p 84 (4 * b + w)) = ad p lg (p 84 (4 * b + w)) ∧ 0 ≤ ad p lg (p 84 (4 * b + w)) ∧ ad p lg (p 84 (4 * b + w)) ≤ 10000) (h : ∀ g', TW p lg b a W g n g' → Q none sh0 (rw_ (fr_up N 39 5 (W + 4 * n)) 40 g')) : ∀ (t : Nat) (w : Int) (g1 : Int → Int), 0 ≤ w → w + t = n → TW p lg b a W g w g1 → fr_Run 66 none 16 [some (.inr (.inl 39)), some (.inl b), some (.inl W), some (.inl w)] [] sh0 (rw_ (fr_up N 39 5 (W + 4 * w)) 40 g1) 0 0 Q := by
  intro t
  induction t with
  | zero =>
    intro w g1 q0 q1 q2
    have e : w = n := by omega
    subst e
    have hh := h g1 q2
    clear h hw
    refine fr_go k66 [16] 400 rfl ?_
    repeat' (first | (refine And.intro (by first | omega | (simp (disch := decide) only [up_n, up_s, cp_n, rw_n, rw_s, up1_, if_true, if_false, ite_true, ite_false, reduceIte, eq_self, Int.reduceEq, true_and, and_true, not_true_eq_false, not_false_eq_true]; omega)) ?_) | (refine And.intro (fun hc => ?_) (fun hc => ?_) <;> (try (simp (disch := decide) only [up_n, up_s, cp_n, rw_n, rw_s, up1_, if_true, if_false, ite_true, ite_false, reduceIte, eq_self, Int.reduceEq, true_and, and_true, not_true_eq_false, not_false_eq_true] at hc)) <;> (try (exfalso; omega))) | (refine fun (hc : ¬ _) => ?_; try (simp (disch := decide) only [up_n, up_s, cp_n, rw_n, rw_s, up1_, if_true, if_false, ite_true, ite_false, reduceIte, eq_self, Int.reduceEq, true_and, and_true, not_true_eq_false, not_false_eq_true] at hc)) | (refine fun (hc : _ = _) => ?_; try (simp (disch := decide) only [up_n, up_s, cp_n, rw_n, rw_s, up1_, if_true, if_false, ite_true, ite_false, reduceIte, eq_self, Int.reduceEq, true_and, and_true, not_true_eq_false, not_false_eq_true] at hc)))
    all_goals first | (exfalso; omega) | exact hh
  | succ t ih =>
    intro w g1 q0 q1 q2
    obtain ⟨y1, y2, y3, y4, y5⟩ := hw w q0 (by omega)
    have hh := ih (w + 1) (wr g1 (W + 4 * w) (ad p lg (p 84 (4 * b + w)))) (by omega) (by omega) (by
      obtain ⟨a1, a2, a3, a4, a5⟩ := q2
      refine ⟨fun j hj => ?_, ?_, ?_, fun j z0 z1 => ?_, fun v m z0 z1 z2 z3 => ?_⟩
      · rw [wr_n (by omega)]
        exact a1 j (by omega)
      · rw [wr_n (by omega)]
        exact a2
      · rw [wr_n (by omega)]
        exact a3
      · rw [wr_n (by omega)]
        exact a4 j z0 z1
      · by_cases e : v = w
        · subst e
          exact wr_at ⟨z2, z3⟩
        · rw [wr_n (by omega)]
          exact a5 v m z0 (by omega) z2 z3)
    rw [show W + 4 * (w + 1) = W + 4 * w + 4 by omega] at hh
    clear ih h hw q2
    refine fr_go k66 [16] 400 rfl ?_
    repeat' (first | (refine And.intro (by first | omega | (simp (disch := decide) only [up_n, up_s, cp_n, rw_n, rw_s, up1_, if_true, if_false, ite_true, ite_false, reduceIte, eq_self, Int.reduceEq, true_and, and_true, not_true_eq_false, not_false_eq_true]; omega)) ?_) | (refine c_wayOf (by omega) (by omega) (fun hc => ?_) (fun hc => ?_) <;> (try (simp (disch := decide) only [up_n, up_s, cp_n, rw_n, rw_s, up1_, if_true, if_false, ite_true, ite_false, reduceIte, eq_self, Int.reduceEq, true_and, and_true, not_true_eq_false, not_false_eq_true] at hc))) | (refine And.intro (fun hc => ?_) (fun hc => ?_) <;> (try (simp (disch := decide) only [up_n, up_s, cp_n, rw_n, rw_s, up1_, if_true, if_false, ite_true, ite_false, reduceIte, eq_self, Int.reduceEq, true_and, and_true, not_true_eq_false, not_false_eq_true] at hc)) <;> (try (exfalso; omega))) | (refine fun (hc : ¬ _) => ?_; try (simp (disch := decide) only [up_n, up_s, cp_n, rw_n, rw_s, up1_, if_true, if_false, ite_true, ite_false, reduceIte, eq_self, Int.reduceEq, true_and, and_true, not_true_eq_false, not_false_eq_true] at hc)) | (refine fun (hc : _ = _) => ?_; try (simp (disch := decide) only [up_n, up_s, cp_n, rw_n, rw_s, up1_, if_true, if_false, ite_true, ite_false, reduceIte, eq_self, Int.reduceEq, true_and, and_true, not_true_eq_false, not_false_eq_true] at hc)))
    all_goals first | (exfalso; omega) | (exfalso; simp (disch := decide) only [up_n, up_s, cp_n, rw_n, rw_s, up1_, if_true, if_false, ite_true, ite_false, reduceIte, eq_self, Int.reduceEq, true_and, and_true, not_true_eq_false, not_false_eq_true] at *; omega) | skip
    all_goals (show fr_Call 65 _ _ _ _)
    simp (disch := decide) only [up_n, up_s, cp_n, rw_n, rw_s, up1_, if_true, if_false, ite_true, ite_false, reduceIte, eq_self, Int.reduceEq, true_and, and_true, not_true_eq_false, not_false_eq_true]
    rw [y1, y3]
    refine c_word (by omega) (by omega) ?_
    repeat' (first | (refine And.intro (by first | omega | (simp (disch := decide) only [up_n, up_s, cp_n, rw_n, rw_s, up1_, if_true, if_false, ite_true, ite_false, reduceIte, eq_self, Int.reduceEq, true_and, and_true, not_true_eq_false, not_false_eq_true]; omega)) ?_) | (refine And.intro (fun hc => ?_) (fun hc => ?_) <;> (try (simp (disch := decide) only [up_n, up_s, cp_n, rw_n, rw_s, up1_, if_true, if_false, ite_true, ite_false, reduceIte, eq_self, Int.reduceEq, true_and, and_true, not_true_eq_false, not_false_eq_true] at hc)) <;> (try (exfalso; omega))) | (refine fun (hc : ¬ _) => ?_; try (simp (disch := decide) only [up_n, up_s, cp_n, rw_n, rw_s, up1_, if_true, if_false, ite_true, ite_false, reduceIte, eq_self, Int.reduceEq, true_and, and_true, not_true_eq_false, not_false_eq_true] at hc)) | (refine fun (hc : _ = _) => ?_; try (simp (disch := decide) only [up_n, up_s, cp_n, rw_n, rw_s, up1_, if_true, if_false, ite_true, ite_false, reduceIte, eq_self, Int.reduceEq, true_and, and_true, not_true_eq_false, not_false_eq_true] at hc)))
    exact hh
set_option maxHeartbeats 4000000 in
set_option maxRecDepth 100000 in
theorem c_wtable {N p : fr_M} {lg : Int → Int} {b a n : Int} {g : Int → Int} {Q : Option fr_V → fr_H → fr_M → Prop} (hb : 0 ≤ b ∧ b < 40) (ha : 0 ≤ a ∧ a ≤ 9700) (hn : N 8 b = n ∧ 0 ≤ n ∧ n ≤ 4) (hw : ∀ w, 0 ≤ w → w < n → N 11 (b * 4 + w) = p 84 (4 * b + w) ∧ (0 ≤ p 84 (4 * b + w) ∧ p 84 (4 * b + w) < 40) ∧ N 32 (p 84 (4 * b + w)) = ad p lg (p 84 (4 * b + w)) ∧ 0 ≤ ad p lg (p 84 (4 * b + w)) ∧ ad p lg (p 84 (4 * b + w)) ≤ 10000) (h : ∀ g', TW p lg b a ((a + 5) / 4 * 4) g n g' → Q none sh0 (rw_ (fr_up N 39 5 ((a + 5) / 4 * 4 + 4 * n)) 40 g')) : fr_Call 66 [.inr (.inl 39), .inl b] sh0 (rw_ (fr_up N 39 5 a) 40 g) Q := by
  refine fr_cgo k66 [some (.inr (.inl 39)), some (.inl b), none, none] 0 0 [16] 400 rfl rfl rfl rfl ?_
  repeat' (first | (refine And.intro (by first | omega | (simp (disch := decide) only [up_n, up_s, cp_n, rw_n, rw_s, up1_, if_true, if_false, ite_true, ite_false, reduceIte, eq_self, Int.reduceEq, true_and, and_true, not_true_eq_false, not_false_eq_true]; omega)) ?_) | (refine And.intro (fun hc => ?_) (fun hc => ?_) <;> (try (simp (disch := decide) only [up_n, up_s, cp_n, rw_n, rw_s, up1_, if_true, if_false, ite_true, ite_false, reduceIte, eq_self, Int.reduceEq, true_and, and_true, not_true_eq_false, not_false_eq_true] at hc)) <;> (try (exfalso; omega))) | (refine fun (hc : ¬ _) => ?_; try (simp (disch := decide) only [up_n, up_s, cp_n, rw_n, rw_s, up1_, if_true, if_false, ite_true, ite_false, reduceIte, eq_self, Int.reduceEq, true_and, and_true, not_true_eq_false, not_false_eq_true] at hc)) | (refine fun (hc : _ = _) => ?_; try (simp (disch := decide) only [up_n, up_s, cp_n, rw_n, rw_s, up1_, if_true, if_false, ite_true, ite_false, reduceIte, eq_self, Int.reduceEq, true_and, and_true, not_true_eq_false, not_false_eq_true] at hc)))
  refine c_wordsFrom (x := a) (by omega) ?_
  repeat' (first | (refine And.intro (by first | omega | (simp (disch := decide) only [up_n, up_s, cp_n, rw_n, rw_s, up1_, if_true, if_false, ite_true, ite_false, reduceIte, eq_self, Int.reduceEq, true_and, and_true, not_true_eq_false, not_false_eq_true]; omega)) ?_) | (refine And.intro (fun hc => ?_) (fun hc => ?_) <;> (try (simp (disch := decide) only [up_n, up_s, cp_n, rw_n, rw_s, up1_, if_true, if_false, ite_true, ite_false, reduceIte, eq_self, Int.reduceEq, true_and, and_true, not_true_eq_false, not_false_eq_true] at hc)) <;> (try (exfalso; omega))) | (refine fun (hc : ¬ _) => ?_; try (simp (disch := decide) only [up_n, up_s, cp_n, rw_n, rw_s, up1_, if_true, if_false, ite_true, ite_false, reduceIte, eq_self, Int.reduceEq, true_and, and_true, not_true_eq_false, not_false_eq_true] at hc)) | (refine fun (hc : _ = _) => ?_; try (simp (disch := decide) only [up_n, up_s, cp_n, rw_n, rw_s, up1_, if_true, if_false, ite_true, ite_false, reduceIte, eq_self, Int.reduceEq, true_and, and_true, not_true_eq_false, not_false_eq_true] at hc)))
  refine c_bput (by omega) (by omega) ?_
  repeat' (first | (refine And.intro (by first | omega | (simp (disch := decide) only [up_n, up_s, cp_n, rw_n, rw_s, up1_, if_true, if_false, ite_true, ite_false, reduceIte, eq_self, Int.reduceEq, true_and, and_true, not_true_eq_false, not_false_eq_true]; omega)) ?_) | (refine And.intro (fun hc => ?_) (fun hc => ?_) <;> (try (simp (disch := decide) only [up_n, up_s, cp_n, rw_n, rw_s, up1_, if_true, if_false, ite_true, ite_false, reduceIte, eq_self, Int.reduceEq, true_and, and_true, not_true_eq_false, not_false_eq_true] at hc)) <;> (try (exfalso; omega))) | (refine fun (hc : ¬ _) => ?_; try (simp (disch := decide) only [up_n, up_s, cp_n, rw_n, rw_s, up1_, if_true, if_false, ite_true, ite_false, reduceIte, eq_self, Int.reduceEq, true_and, and_true, not_true_eq_false, not_false_eq_true] at hc)) | (refine fun (hc : _ = _) => ?_; try (simp (disch := decide) only [up_n, up_s, cp_n, rw_n, rw_s, up1_, if_true, if_false, ite_true, ite_false, reduceIte, eq_self, Int.reduceEq, true_and, and_true, not_true_eq_false, not_false_eq_true] at hc)))
  refine c_bput (by omega) (by omega) ?_
  repeat' (first | (refine And.intro (by first | omega | (simp (disch := decide) only [up_n, up_s, cp_n, rw_n, rw_s, up1_, if_true, if_false, ite_true, ite_false, reduceIte, eq_self, Int.reduceEq, true_and, and_true, not_true_eq_false, not_false_eq_true]; omega)) ?_) | (refine And.intro (fun hc => ?_) (fun hc => ?_) <;> (try (simp (disch := decide) only [up_n, up_s, cp_n, rw_n, rw_s, up1_, if_true, if_false, ite_true, ite_false, reduceIte, eq_self, Int.reduceEq, true_and, and_true, not_true_eq_false, not_false_eq_true] at hc)) <;> (try (exfalso; omega))) | (refine fun (hc : ¬ _) => ?_; try (simp (disch := decide) only [up_n, up_s, cp_n, rw_n, rw_s, up1_, if_true, if_false, ite_true, ite_false, reduceIte, eq_self, Int.reduceEq, true_and, and_true, not_true_eq_false, not_false_eq_true] at hc)) | (refine fun (hc : _ = _) => ?_; try (simp (disch := decide) only [up_n, up_s, cp_n, rw_n, rw_s, up1_, if_true, if_false, ite_true, ite_false, reduceIte, eq_self, Int.reduceEq, true_and, and_true, not_true_eq_false, not_false_eq_true] at hc)))
  refine c_fill (by omega) (by omega) (by omega) (by omega) (fun g2 hg2 => ?_)
  repeat' (first | (refine And.intro (by first | omega | (simp (disch := decide) only [up_n, up_s, cp_n, rw_n, rw_s, up1_, if_true, if_false, ite_true, ite_false, reduceIte, eq_self, Int.reduceEq, true_and, and_true, not_true_eq_false, not_false_eq_true]; omega)) ?_) | (refine And.intro (fun hc => ?_) (fun hc => ?_) <;> (try (simp (disch := decide) only [up_n, up_s, cp_n, rw_n, rw_s, up1_, if_true, if_false, ite_true, ite_false, reduceIte, eq_self, Int.reduceEq, true_and, and_true, not_true_eq_false, not_false_eq_true] at hc)) <;> (try (exfalso; omega))) | (refine fun (hc : ¬ _) => ?_; try (simp (disch := decide) only [up_n, up_s, cp_n, rw_n, rw_s, up1_, if_true, if_false, ite_true, ite_false, reduceIte, eq_self, Int.reduceEq, true_and, and_true, not_true_eq_false, not_false_eq_true] at hc)) | (refine fun (hc : _ = _) => ?_; try (simp (disch := decide) only [up_n, up_s, cp_n, rw_n, rw_s, up1_, if_true, if_false, ite_true, ite_false, reduceIte, eq_self, Int.reduceEq, true_and, and_true, not_true_eq_false, not_false_eq_true] at hc)))
  have hh := c_wt_l (N := N) (p := p) (lg := lg) (b := b) (a := a) (W := (a + 5) / 4 * 4) (g := g) (Q := Q) hb (by omega) ha.1 hn hw h n.toNat 0 g2 (by omega) (by omega) ?_
  · rw [show (a + 5) / 4 * 4 + 4 * 0 = (a + 5) / 4 * 4 by omega] at hh
    exact hh
  · refine ⟨fun j hj => ?_, ?_, ?_, fun j z0 z1 => ?_, fun v m z0 z1 => by omega⟩
    · rw [hg2 j, if_neg (by omega), up1_, if_neg (by omega), up1_, if_neg (by omega)]
    · rw [hg2 a, if_neg (by omega), up1_, if_neg (by omega), up1_, if_pos rfl]
      rfl
    · rw [hg2 (a + 1), if_neg (by omega), up1_, if_pos rfl]
      rfl
    · rw [hg2 j, if_pos (by omega)]
      rfl
/-- what the writing of a BLOCK's bytes reads -/
def WN (p : fr_M) (lg : Int → Int) (N : fr_M) : Prop := (∀ b, 0 ≤ b → b < p 75 4 → N 32 b = ad p lg b ∧ N 37 b = tu p b ∧ N 6 b = p 80 b ∧ N 7 b = p 82 b ∧ N 8 b = p 83 b) ∧ (∀ s, 0 ≤ s → s < 2 * p 75 4 → N 34 s = tg p s ∧ N 36 s = lg s ∧ (lg s = 0 ∨ lg s = 1) ∧ (tg p s ≠ -1 → N 35 s = jb p lg s)) ∧ (∀ b w, 0 ≤ b → b < p 75 4 → 0 ≤ w → w < p 83 b → N 11 (b * 4 + w) = p 84 (4 * b + w)) ∧ (∀ b, 0 ≤ b → b < p 75 4 → p 82 b = 5 → N 9 b = p 86 b ∧ N 3 (p 86 b * 9 + 0) = p 77 (9 * p 86 b))
def WB (p : fr_M) (lg : Int → Int) (b a : Int) (g g' : Int → Int) : Prop := ∀ j, (a ≤ j ∧ j < ad p lg b → g' j = -112) ∧ (ad p lg b ≤ j ∧ j < ea p lg b → g' j = b) ∧ (ea p lg b ≤ j ∧ j < be p lg b → g' j = sg (eb p lg b (j - ea p lg b))) ∧ (j < a ∨ be p lg b ≤ j → g' j = g j)
theorem WB.of {p : fr_M} {lg : Int → Int} {b a : Int} {g g2 g' : Int → Int} (hb : 0 ≤ b ∧ b < 40) (hab : a ≤ ad p lg b ∧ ad p lg b ≤ ea p lg b ∧ ea p lg b ≤ be p lg b) (h2 : ∀ j, g2 j = if ad p lg b ≤ j ∧ j < ea p lg b then sg (b % 256) else if a ≤ j ∧ j < ad p lg b then sg (144 % 256) else g j) (h3 : ∀ m, 0 ≤ m → m < be p lg b - ea p lg b → g' (ea p lg b + m) = sg (eb p lg b m)) (h4 : ∀ j, j < ea p lg b ∨ be p lg b ≤ j → g' j = g2 j) : WB p lg b a g g' := by
  intro j
  refine ⟨fun q => ?_, fun q => ?_, fun q => ?_, fun q => ?_⟩
  · rw [h4 j (by omega), h2 j, if_neg (by omega), if_pos q]
    rfl
  · rw [h4 j (by omega), h2 j, if_pos q]
    unfold sg
    rw [if_pos (by omega)]
    omega
  · have := h3 (j - ea p lg b) (by omega) (by omega)
    rw [show ea p lg b + (j - ea p lg b) = j by omega] at this
    exact this
  · rw [h4 j (by omega), h2 j, if_neg (by omega), if_neg (by omega)]
