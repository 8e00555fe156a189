/-- how many WAYS are offered -/
def NW (k : Int) (f : Int → Int) (n : Int) : Prop := (k ≤ 1 → n = 0) ∧ (k = 2 ∨ k = 5 → n = 1) ∧ (k = 3 ∨ k = 6 → n = 2) ∧ (k = 4 → 0 ≤ n ∧ n ≤ 4 ∧ (∀ i, 0 ≤ i → i < n → f i ≠ -1) ∧ (n = 4 ∨ f n = -1))
theorem NW.uniq {k : Int} {f f' : Int → Int} {n n' : Int} (hk : 0 ≤ k ∧ k ≤ 6) (he : ∀ i, 0 ≤ i → i < 4 → f i = f' i) (h : NW k f n) (h' : NW k f' n') : n = n' := by
  obtain ⟨a1, a2, a3, a4⟩ := h
  obtain ⟨b1, b2, b3, b4⟩ := h'
  by_cases e : k = 4
  · obtain ⟨c1, c2, c3, c4⟩ := a4 e
    obtain ⟨d1, d2, d3, d4⟩ := b4 e
    clear a1 a2 a3 a4 b1 b2 b3 b4
    have x1 := c3 n'
    have x2 := d3 n
    have x3 := he n
    have x4 := he n'
    omega
  · clear a4 b4
    omega
theorem NW.rng {k : Int} {f : Int → Int} {n : Int} (hk : 0 ≤ k ∧ k ≤ 6) (h : NW k f n) : 0 ≤ n ∧ n ≤ 4 := by
  obtain ⟨a1, a2, a3, a4⟩ := h
  by_cases e : k = 4
  · obtain ⟨c1, c2, c3, c4⟩ := a4 e
    omega
  · clear a4
    omega
set_option maxHeartbeats 4000000 in
set_option maxRecDepth 100000 in
theorem c_ways_l {M : fr_M} {Q : Option fr_V → fr_H → fr_M → Prop} (h : ∀ n, 0 ≤ n → n ≤ 4 → (∀ i, 0 ≤ i → i < n → M 73 i ≠ -1) → (n = 4 ∨ M 73 n = -1) → Q (some (.inl n)) sh0 M) : ∀ (t : Nat) (i : Int), 0 ≤ i → i + t = 4 → (∀ j, 0 ≤ j → j < i → M 73 j ≠ -1) → fr_Run 109 none 25 [some (.inr (.inl 0)), some (.inl 4), some (.inl i), some (.inl i)] [] sh0 M 0 0 Q := by
  intro t
  induction t with
  | zero =>
    intro i q0 q1 q2
    refine fr_go k109 [25] 400 rfl ?_
    repeat' (first | (refine And.intro (by first | omega | (simp (disch := decide) only [up_n, up_s, cp_n, rw_n, rw_s, up1_, if_true, if_false, ite_true, ite_false, reduceIte, eq_self, Int.reduceEq, true_and, and_true, not_true_eq_false, not_false_eq_true]; omega)) ?_) | (refine And.intro (fun hc => ?_) (fun hc => ?_) <;> (try (simp (disch := decide) only [up_n, up_s, cp_n, rw_n, rw_s, up1_, if_true, if_false, ite_true, ite_false, reduceIte, eq_self, Int.reduceEq, true_and, and_true, not_true_eq_false, not_false_eq_true] at hc)) <;> (try (exfalso; omega))) | (refine fun (hc : ¬ _) => ?_; try (simp (disch := decide) only [up_n, up_s, cp_n, rw_n, rw_s, up1_, if_true, if_false, ite_true, ite_false, reduceIte, eq_self, Int.reduceEq, true_and, and_true, not_true_eq_false, not_false_eq_true] at hc)) | (refine fun (hc : _ = _) => ?_; try (simp (disch := decide) only [up_n, up_s, cp_n, rw_n, rw_s, up1_, if_true, if_false, ite_true, ite_false, reduceIte, eq_self, Int.reduceEq, true_and, and_true, not_true_eq_false, not_false_eq_true] at hc)))
    all_goals first | (exfalso; omega) | exact h i q0 (by omega) q2 (by omega)
  | succ t ih =>
    intro i q0 q1 q2
    refine fr_go k109 [25] 400 rfl ?_
    repeat' (first | (refine And.intro (by first | omega | (simp (disch := decide) only [up_n, up_s, cp_n, rw_n, rw_s, up1_, if_true, if_false, ite_true, ite_false, reduceIte, eq_self, Int.reduceEq, true_and, and_true, not_true_eq_false, not_false_eq_true]; omega)) ?_) | (refine And.intro (fun hc => ?_) (fun hc => ?_) <;> (try (simp (disch := decide) only [up_n, up_s, cp_n, rw_n, rw_s, up1_, if_true, if_false, ite_true, ite_false, reduceIte, eq_self, Int.reduceEq, true_and, and_true, not_true_eq_false, not_false_eq_true] at hc)) <;> (try (exfalso; omega))) | (refine fun (hc : ¬ _) => ?_; try (simp (disch := decide) only [up_n, up_s, cp_n, rw_n, rw_s, up1_, if_true, if_false, ite_true, ite_false, reduceIte, eq_self, Int.reduceEq, true_and, and_true, not_true_eq_false, not_false_eq_true] at hc)) | (refine fun (hc : _ = _) => ?_; try (simp (disch := decide) only [up_n, up_s, cp_n, rw_n, rw_s, up1_, if_true, if_false, ite_true, ite_false, reduceIte, eq_self, Int.reduceEq, true_and, and_true, not_true_eq_false, not_false_eq_true] at hc)))
    all_goals first | (exfalso; omega) | skip
    · exact h i q0 (by omega) q2 (by omega)
    · refine ih (i + 1) (by omega) (by omega) (fun j r0 r1 => ?_)
      by_cases e : j = i
      · subst e; assumption
      · exact q2 j r0 (by omega)
set_option maxHeartbeats 4000000 in
set_option maxRecDepth 100000 in
theorem c_waysOffered {M : fr_M} {k : Int} {Q : Option fr_V → fr_H → fr_M → Prop} (hk : 0 ≤ k ∧ k ≤ 6) (h : ∀ n, NW k (M 73) n → Q (some (.inl n)) sh0 M) : fr_Call 109 [.inr (.inl 0), .inl k] sh0 M Q := by
  by_cases e : k = 4
  · subst e
    refine fr_cgo k109 [some (.inr (.inl 0)), some (.inl 4), none, none] 0 0 [25] 400 rfl rfl rfl rfl ?_
    repeat' (first | (refine And.intro (by first | omega | (simp (disch := decide) only [up_n, up_s, cp_n, rw_n, rw_s, up1_, if_true, if_false, ite_true, ite_false, reduceIte, eq_self, Int.reduceEq, true_and, and_true, not_true_eq_false, not_false_eq_true]; omega)) ?_) | (refine And.intro (fun hc => ?_) (fun hc => ?_) <;> (try (simp (disch := decide) only [up_n, up_s, cp_n, rw_n, rw_s, up1_, if_true, if_false, ite_true, ite_false, reduceIte, eq_self, Int.reduceEq, true_and, and_true, not_true_eq_false, not_false_eq_true] at hc)) <;> (try (exfalso; omega))) | (refine fun (hc : ¬ _) => ?_; try (simp (disch := decide) only [up_n, up_s, cp_n, rw_n, rw_s, up1_, if_true, if_false, ite_true, ite_false, reduceIte, eq_self, Int.reduceEq, true_and, and_true, not_true_eq_false, not_false_eq_true] at hc)) | (refine fun (hc : _ = _) => ?_; try (simp (disch := decide) only [up_n, up_s, cp_n, rw_n, rw_s, up1_, if_true, if_false, ite_true, ite_false, reduceIte, eq_self, Int.reduceEq, true_and, and_true, not_true_eq_false, not_false_eq_true] at hc)))
    all_goals first | (exfalso; omega) | skip
    exact c_ways_l (fun n a1 a2 a3 a4 => h n ⟨by omega, by omega, by omega, fun _ => ⟨a1, a2, a3, a4⟩⟩) 4 0 (by omega) (by omega) (fun j r0 r1 => absurd r1 (by omega))
  · refine fr_cgo k109 [some (.inr (.inl 0)), some (.inl k), none, none] 0 0 [] 400 rfl rfl rfl rfl ?_
    repeat' (first | (refine And.intro (by first | omega | (simp (disch := decide) only [up_n, up_s, cp_n, rw_n, rw_s, up1_, if_true, if_false, ite_true, ite_false, reduceIte, eq_self, Int.reduceEq, true_and, and_true, not_true_eq_false, not_false_eq_true]; omega)) ?_) | (refine And.intro (fun hc => ?_) (fun hc => ?_) <;> (try (simp (disch := decide) only [up_n, up_s, cp_n, rw_n, rw_s, up1_, if_true, if_false, ite_true, ite_false, reduceIte, eq_self, Int.reduceEq, true_and, and_true, not_true_eq_false, not_false_eq_true] at hc)) <;> (try (exfalso; omega))) | (refine fun (hc : ¬ _) => ?_; try (simp (disch := decide) only [up_n, up_s, cp_n, rw_n, rw_s, up1_, if_true, if_false, ite_true, ite_false, reduceIte, eq_self, Int.reduceEq, true_and, and_true, not_true_eq_false, not_false_eq_true] at hc)) | (refine fun (hc : _ = _) => ?_; try (simp (disch := decide) only [up_n, up_s, cp_n, rw_n, rw_s, up1_, if_true, if_false, ite_true, ite_false, reduceIte, eq_self, Int.reduceEq, true_and, and_true, not_true_eq_false, not_false_eq_true] at hc)))
    all_goals first | (exfalso; omega) | exact h _ ⟨by omega, by omega, by omega, by omega⟩
/-- the WAYS that are offered are BLOCKS of the ROUTINE -/
def WK (f : Int → Int) (c : Int) (ro : Int → Int) (r n : Int) : Prop := ∀ i, 0 ≤ i → i < n → 0 ≤ f i ∧ f i < c ∧ ro (f i) = r
set_option maxHeartbeats 4000000 in
set_option maxRecDepth 100000 in
theorem c_end_l {M : fr_M} {b k a2 a3 a4 a5 n : Int} {Q : Option fr_V → fr_H → fr_M → Prop} (hP : 0 ≤ M 1 1 ∧ M 1 1 ≤ 40) (hb : 0 ≤ b ∧ b < 40) (hn : 0 ≤ n ∧ n ≤ 4) (h1 : WK (M 73) (M 1 1) (M 4) (M 4 b) n → fr_Run 110 none 73 [some (.inr (.inl 0)), some (.inl b), some (.inl k), some (.inl a2), some (.inl a3), some (.inl a4), some (.inl a5), some (.inl n), some (.inl n)] [] sh0 M 0 0 Q) (h0 : ¬ WK (M 73) (M 1 1) (M 4) (M 4 b) n → Q (some (.inl (-1))) sh0 M) : ∀ (t : Nat) (i : Int), 0 ≤ i → i + t = n → WK (M 73) (M 1 1) (M 4) (M 4 b) i → fr_Run 110 none 53 [some (.inr (.inl 0)), some (.inl b), some (.inl k), some (.inl a2), some (.inl a3), some (.inl a4), some (.inl a5), some (.inl n), some (.inl i)] [] sh0 M 0 0 Q := by
  intro t
  induction t with
  | zero =>
    intro i q0 q1 q2
    have e : i = n := by omega
    subst e
    refine fr_go k110 [53, 73] 400 rfl ?_
    repeat' (first | (refine And.intro (by first | omega | (simp (disch := decide) only [up_n, up_s, cp_n, rw_n, rw_s, up1_, if_true, if_false, ite_true, ite_false, reduceIte, eq_self, Int.reduceEq, true_and, and_true, not_true_eq_false, not_false_eq_true]; omega)) ?_) | (refine And.intro (fun hc => ?_) (fun hc => ?_) <;> (try (simp (disch := decide) only [up_n, up_s, cp_n, rw_n, rw_s, up1_, if_true, if_false, ite_true, ite_false, reduceIte, eq_self, Int.reduceEq, true_and, and_true, not_true_eq_false, not_false_eq_true] at hc)) <;> (try (exfalso; omega))) | (refine fun (hc : ¬ _) => ?_; try (simp (disch := decide) only [up_n, up_s, cp_n, rw_n, rw_s, up1_, if_true, if_false, ite_true, ite_false, reduceIte, eq_self, Int.reduceEq, true_and, and_true, not_true_eq_false, not_false_eq_true] at hc)) | (refine fun (hc : _ = _) => ?_; try (simp (disch := decide) only [up_n, up_s, cp_n, rw_n, rw_s, up1_, if_true, if_false, ite_true, ite_false, reduceIte, eq_self, Int.reduceEq, true_and, and_true, not_true_eq_false, not_false_eq_true] at hc)))
    all_goals first | (exfalso; omega) | exact h1 q2
  | succ t ih =>
    intro i q0 q1 q2
    refine fr_go k110 [53, 73] 400 rfl ?_
    repeat' (first | (refine And.intro (by first | omega | (simp (disch := decide) only [up_n, up_s, cp_n, rw_n, rw_s, up1_, if_true, if_false, ite_true, ite_false, reduceIte, eq_self, Int.reduceEq, true_and, and_true, not_true_eq_false, not_false_eq_true]; omega)) ?_) | (refine c_isBlockOf (by first | omega | (simp (disch := decide) only [up_n, up_s, cp_n, rw_n, rw_s, up1_, if_true, if_false, ite_true, ite_false, reduceIte, eq_self, Int.reduceEq, true_and, and_true, not_true_eq_false, not_false_eq_true]; omega)) (fun hc => ?_) (fun hc => ?_) <;> (try (simp (disch := decide) only [up_n, up_s, cp_n, rw_n, rw_s, up1_, if_true, if_false, ite_true, ite_false, reduceIte, eq_self, Int.reduceEq, true_and, and_true, not_true_eq_false, not_false_eq_true] at hc))) | (refine And.intro (fun hc => ?_) (fun hc => ?_) <;> (try (simp (disch := decide) only [up_n, up_s, cp_n, rw_n, rw_s, up1_, if_true, if_false, ite_true, ite_false, reduceIte, eq_self, Int.reduceEq, true_and, and_true, not_true_eq_false, not_false_eq_true] at hc)) <;> (try (exfalso; omega))) | (refine fun (hc : ¬ _) => ?_; try (simp (disch := decide) only [up_n, up_s, cp_n, rw_n, rw_s, up1_, if_true, if_false, ite_true, ite_false, reduceIte, eq_self, Int.reduceEq, true_and, and_true, not_true_eq_false, not_false_eq_true] at hc)) | (refine fun (hc : _ = _) => ?_; try (simp (disch := decide) only [up_n, up_s, cp_n, rw_n, rw_s, up1_, if_true, if_false, ite_true, ite_false, reduceIte, eq_self, Int.reduceEq, true_and, and_true, not_true_eq_false, not_false_eq_true] at hc)))
    all_goals first | (exfalso; omega) | skip
    · refine ih (i + 1) (by omega) (by omega) (fun j r0 r1 => ?_)
      by_cases e : j = i
      · subst e; omega
      · exact q2 j r0 (by omega)
    · refine h0 (fun hw => ?_)
      have := hw i q0 (by omega)
      omega
/-- what tellEnd and its like leave in the rows of WAYS and COUNTS -/
def WG (b n no : Int) (f g g' : Int → Int) (m : Int) : Prop := ∀ j, (4 * b ≤ j ∧ j < 4 * b + m → g' j = if j - 4 * b < n then f (j - 4 * b) else no) ∧ (¬ (4 * b ≤ j ∧ j < 4 * b + m) → g' j = g j)
def CG (b : Int) (g g' : Int → Int) (m : Int) : Prop := ∀ j, (4 * b ≤ j ∧ j < 4 * b + m → g' j = 0) ∧ (¬ (4 * b ≤ j ∧ j < 4 * b + m) → g' j = g j)
theorem WG.step {b n no : Int} {f g g' : Int → Int} {m i v : Int} (h : WG b n no f g g' m) (hm : 0 ≤ m) (hi : i = 4 * b + m) (hv : v = if m < n then f m else no) : WG b n no f g (up1 g' i v) (m + 1) := by
  intro j
  have := h j
  rw [up1_]
  subst hi
  by_cases e : j = 4 * b + m
  · refine ⟨fun _ => ?_, fun q => absurd (by omega) q⟩
    rw [if_pos e, hv, e, show 4 * b + m - 4 * b = m by omega]
  · rw [if_neg e]
    refine ⟨fun q => this.1 (by omega), fun q => this.2 (by omega)⟩
theorem CG.step {b : Int} {g g' : Int → Int} {m i : Int} (h : CG b g g' m) (hm : 0 ≤ m) (hi : i = 4 * b + m) : CG b g (up1 g' i 0) (m + 1) := by
  intro j
  have := h j
  rw [up1_]
  subst hi
  by_cases e : j = 4 * b + m
  · refine ⟨fun _ => ?_, fun q => absurd (by omega) q⟩
    rw [if_pos e]
  · rw [if_neg e]
    refine ⟨fun q => this.1 (by omega), fun q => this.2 (by omega)⟩
theorem WG.zero {b n no : Int} {f g : Int → Int} : WG b n no f g g 0 := fun j => ⟨fun q => absurd q (by omega), fun _ => rfl⟩
theorem CG.zero {b : Int} {g : Int → Int} : CG b g g 0 := fun j => ⟨fun q => absurd q (by omega), fun _ => rfl⟩
set_option maxHeartbeats 4000000 in
set_option maxRecDepth 100000 in
theorem c_tell_l {M : fr_M} {b k n : Int} {Q : Option fr_V → fr_H → fr_M → Prop} (hb : 0 ≤ b ∧ b < 40) (hn : 0 ≤ n ∧ n ≤ 4) (h : ∀ g11 g12, WG b n (-1) (M 73) (M 11) g11 4 → CG b (M 12) g12 4 → Q none sh0 (rw_ (rw_ M 11 g11) 12 g12)) : ∀ (t : Nat) (i : Int) (g11 g12 : Int → Int), 0 ≤ i → i + t = 4 → WG b n (-1) (M 73) (M 11) g11 i → CG b (M 12) g12 i → fr_Run 78 none 24 [some (.inr (.inl 1)), some (.inl b), some (.inl k), some (.inr (.inl 73)), some (.inl n), some (.inl i)] [] sh0 (rw_ (rw_ M 11 g11) 12 g12) 0 0 Q := by
  intro t
  induction t with
  | zero =>
    intro i g11 g12 q0 q1 q2 q3
    have e : i = 4 := by omega
    subst e
    refine fr_go k78 [24] 400 rfl ?_
    repeat' (first | (refine And.intro (by first | omega | (simp (disch := decide) only [up_n, up_s, cp_n, rw_n, rw_s, up1_, if_true, if_false, ite_true, ite_false, reduceIte, eq_self, Int.reduceEq, true_and, and_true, not_true_eq_false, not_false_eq_true]; omega)) ?_) | (refine And.intro (fun hc => ?_) (fun hc => ?_) <;> (try (simp (disch := decide) only [up_n, up_s, cp_n, rw_n, rw_s, up1_, if_true, if_false, ite_true, ite_false, reduceIte, eq_self, Int.reduceEq, true_and, and_true, not_true_eq_false, not_false_eq_true] at hc)) <;> (try (exfalso; omega))) | (refine fun (hc : ¬ _) => ?_; try (simp (disch := decide) only [up_n, up_s, cp_n, rw_n, rw_s, up1_, if_true, if_false, ite_true, ite_false, reduceIte, eq_self, Int.reduceEq, true_and, and_true, not_true_eq_false, not_false_eq_true] at hc)) | (refine fun (hc : _ = _) => ?_; try (simp (disch := decide) only [up_n, up_s, cp_n, rw_n, rw_s, up1_, if_true, if_false, ite_true, ite_false, reduceIte, eq_self, Int.reduceEq, true_and, and_true, not_true_eq_false, not_false_eq_true] at hc)))
    all_goals first | (exfalso; omega) | exact h g11 g12 q2 q3
  | succ t ih =>
    intro i g11 g12 q0 q1 q2 q3
    refine fr_go k78 [24] 400 rfl ?_
    repeat' (first | (refine And.intro (by first | omega | (simp (disch := decide) only [up_n, up_s, cp_n, rw_n, rw_s, up1_, if_true, if_false, ite_true, ite_false, reduceIte, eq_self, Int.reduceEq, true_and, and_true, not_true_eq_false, not_false_eq_true]; omega)) ?_) | (refine And.intro (fun hc => ?_) (fun hc => ?_) <;> (try (simp (disch := decide) only [up_n, up_s, cp_n, rw_n, rw_s, up1_, if_true, if_false, ite_true, ite_false, reduceIte, eq_self, Int.reduceEq, true_and, and_true, not_true_eq_false, not_false_eq_true] at hc)) <;> (try (exfalso; omega))) | (refine fun (hc : ¬ _) => ?_; try (simp (disch := decide) only [up_n, up_s, cp_n, rw_n, rw_s, up1_, if_true, if_false, ite_true, ite_false, reduceIte, eq_self, Int.reduceEq, true_and, and_true, not_true_eq_false, not_false_eq_true] at hc)) | (refine fun (hc : _ = _) => ?_; try (simp (disch := decide) only [up_n, up_s, cp_n, rw_n, rw_s, up1_, if_true, if_false, ite_true, ite_false, reduceIte, eq_self, Int.reduceEq, true_and, and_true, not_true_eq_false, not_false_eq_true] at hc)))
    all_goals first | (exfalso; omega) | skip
    all_goals (simp (disch := decide) only [up_rw, rw_u, up_up, rw_rw, rw_cm])
    all_goals (refine ih (i + 1) _ _ (by omega) (by omega) (q2.step q0 (by omega) ?_) (q3.step q0 (by omega)))
    · rw [if_neg (by omega)]
    · rw [if_pos (by omega)]; rfl
set_option maxHeartbeats 4000000 in
set_option maxRecDepth 100000 in
theorem c_tellEnd {M : fr_M} {b k n : Int} {Q : Option fr_V → fr_H → fr_M → Prop} (hb : 0 ≤ b ∧ b < 40) (hn : 0 ≤ n ∧ n ≤ 4) (h : ∀ g11 g12, WG b n (-1) (M 73) (M 11) g11 4 → CG b (M 12) g12 4 → Q none sh0 (rw_ (rw_ (fr_up (fr_up (fr_up M 7 b k) 8 b n) 9 b (if k = 5 then M 73 1 else -1)) 11 g11) 12 g12)) : fr_Call 78 [.inr (.inl 1), .inl b, .inl k, .inr (.inl 73), .inl n] sh0 M Q := by
  have hh := c_tell_l (M := fr_up (fr_up (fr_up M 7 b k) 8 b n) 9 b (if k = 5 then M 73 1 else -1)) (k := k) (Q := Q) hb hn h 4 0 (M 11) (M 12) (by omega) (by omega) WG.zero CG.zero
  have e : rw_ (rw_ (fr_up (fr_up (fr_up M 7 b k) 8 b n) 9 b (if k = 5 then M 73 1 else -1)) 11 (M 11)) 12 (M 12) = fr_up (fr_up (fr_up M 7 b k) 8 b n) 9 b (if k = 5 then M 73 1 else -1) := by
    have e1 := rw_id (M := fr_up (fr_up (fr_up M 7 b k) 8 b n) 9 b (if k = 5 then M 73 1 else -1)) (k := 11)
    have e2 := rw_id (M := fr_up (fr_up (fr_up M 7 b k) 8 b n) 9 b (if k = 5 then M 73 1 else -1)) (k := 12)
    exact (congrArg (fun m => rw_ m 12 (M 12)) e1).trans e2
  rw [e] at hh
  refine fr_cgo k78 [some (.inr (.inl 1)), some (.inl b), some (.inl k), some (.inr (.inl 73)), some (.inl n), none] 0 0 [24] 400 rfl rfl rfl rfl ?_
  repeat' (first | (refine And.intro (by first | omega | (simp (disch := decide) only [up_n, up_s, cp_n, rw_n, rw_s, up1_, if_true, if_false, ite_true, ite_false, reduceIte, eq_self, Int.reduceEq, true_and, and_true, not_true_eq_false, not_false_eq_true]; omega)) ?_) | (refine And.intro (fun hc => ?_) (fun hc => ?_) <;> (try (simp (disch := decide) only [up_n, up_s, cp_n, rw_n, rw_s, up1_, if_true, if_false, ite_true, ite_false, reduceIte, eq_self, Int.reduceEq, true_and, and_true, not_true_eq_false, not_false_eq_true] at hc)) <;> (try (exfalso; omega))) | (refine fun (hc : ¬ _) => ?_; try (simp (disch := decide) only [up_n, up_s, cp_n, rw_n, rw_s, up1_, if_true, if_false, ite_true, ite_false, reduceIte, eq_self, Int.reduceEq, true_and, and_true, not_true_eq_false, not_false_eq_true] at hc)) | (refine fun (hc : _ = _) => ?_; try (simp (disch := decide) only [up_n, up_s, cp_n, rw_n, rw_s, up1_, if_true, if_false, ite_true, ite_false, reduceIte, eq_self, Int.reduceEq, true_and, and_true, not_true_eq_false, not_false_eq_true] at hc)))
  · rw [if_neg (by omega)] at hh
    exact hh
  · rw [if_pos (by omega)] at hh
    exact hh
