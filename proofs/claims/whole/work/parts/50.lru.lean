/-- a whole row is another one -/
def rw_ (M : fr_M) (k : Nat) (g : Int → Int) : fr_M := fun k' j => if k' = k then g j else M k' j
theorem rw_id {M : fr_M} {k : Nat} : rw_ M k (M k) = M := by
  funext k' j
  unfold rw_
  split
  · next e => subst e; rfl
  · rfl
theorem rw_up {M : fr_M} {k : Nat} {g : Int → Int} {i v : Int} : fr_up (rw_ M k g) k i v = rw_ M k (fun j => if j = i then v else g j) := by
  funext k' j
  unfold fr_up rw_
  split
  · rfl
  · rfl
set_option maxHeartbeats 4000000 in
set_option maxRecDepth 100000 in
theorem c_heldPlace_l {M : fr_M} {p h : Int} {Q : Option fr_V → fr_H → fr_M → Prop} (hh : 0 ≤ h ∧ h ≤ 8) (h1 : ∀ i, 0 ≤ i → i < h → M 58 i = p → (∀ j, 0 ≤ j → j < i → M 58 j ≠ p) → Q (some (.inl i)) sh0 M) (h0 : (∀ j, 0 ≤ j → j < h → M 58 j ≠ p) → Q (some (.inl (-1))) sh0 M) : ∀ (t : Nat) (i : Int), 0 ≤ i → i + t = h → (∀ j, 0 ≤ j → j < i → M 58 j ≠ p) → fr_Run 102 none 2 [some (.inr (.inl 52)), some (.inl p), some (.inl h), some (.inl i)] [] sh0 M 0 0 Q := by
  intro t
  induction t with
  | zero =>
    intro i q0 q1 q2
    have e : i = h := by omega
    subst e
    refine fr_go k102 [2] 400 rfl ?_
    repeat' (first | (refine And.intro (by first | omega | (simp (disch := decide) only [up_n, up_s, cp_n, if_true, if_false, ite_true, ite_false, reduceIte, not_true_eq_false, not_false_eq_true]; omega)) ?_) | (refine And.intro (fun hc => ?_) (fun hc => ?_) <;> (try (simp (disch := decide) only [up_n, up_s, cp_n, if_true, if_false, ite_true, ite_false, reduceIte, not_true_eq_false, not_false_eq_true] at hc)) <;> (try (exfalso; omega))) | (refine fun (hc : ¬ _) => ?_; try (simp (disch := decide) only [up_n, up_s, cp_n, if_true, if_false, ite_true, ite_false, reduceIte, not_true_eq_false, not_false_eq_true] at hc)) | (refine fun (hc : _ = _) => ?_; try (simp (disch := decide) only [up_n, up_s, cp_n, if_true, if_false, ite_true, ite_false, reduceIte, not_true_eq_false, not_false_eq_true] at hc)))
    all_goals first | (exfalso; omega) | exact h0 q2
  | succ t ih =>
    intro i q0 q1 q2
    refine fr_go k102 [2] 400 rfl ?_
    repeat' (first | (refine And.intro (by first | omega | (simp (disch := decide) only [up_n, up_s, cp_n, if_true, if_false, ite_true, ite_false, reduceIte, not_true_eq_false, not_false_eq_true]; omega)) ?_) | (refine And.intro (fun hc => ?_) (fun hc => ?_) <;> (try (simp (disch := decide) only [up_n, up_s, cp_n, if_true, if_false, ite_true, ite_false, reduceIte, not_true_eq_false, not_false_eq_true] at hc)) <;> (try (exfalso; omega))) | (refine fun (hc : ¬ _) => ?_; try (simp (disch := decide) only [up_n, up_s, cp_n, if_true, if_false, ite_true, ite_false, reduceIte, not_true_eq_false, not_false_eq_true] at hc)) | (refine fun (hc : _ = _) => ?_; try (simp (disch := decide) only [up_n, up_s, cp_n, if_true, if_false, ite_true, ite_false, reduceIte, not_true_eq_false, not_false_eq_true] at hc)))
    all_goals first | (exfalso; omega) | skip
    · refine ih (i + 1) (by omega) (by omega) (fun j r0 r1 => ?_)
      by_cases e : j = i
      · subst e; exact hc
      · exact q2 j r0 (by omega)
    · exact h1 i q0 (by omega) hc q2
set_option maxHeartbeats 4000000 in
set_option maxRecDepth 100000 in
theorem c_heldPlace {M : fr_M} {p h : Int} {Q : Option fr_V → fr_H → fr_M → Prop} (hh : 0 ≤ h ∧ h ≤ 8) (h1 : ∀ i, 0 ≤ i → i < h → M 58 i = p → (∀ j, 0 ≤ j → j < i → M 58 j ≠ p) → Q (some (.inl i)) sh0 M) (h0 : (∀ j, 0 ≤ j → j < h → M 58 j ≠ p) → Q (some (.inl (-1))) sh0 M) : fr_Call 102 [.inr (.inl 52), .inl p, .inl h] sh0 M Q := by
  refine fr_cgo k102 [some (.inr (.inl 52)), some (.inl p), some (.inl h), none] 0 0 [2] 400 rfl rfl rfl rfl ?_
  repeat' (first | (refine And.intro (by first | omega | (simp (disch := decide) only [up_n, up_s, cp_n, if_true, if_false, ite_true, ite_false, reduceIte, not_true_eq_false, not_false_eq_true]; omega)) ?_) | (refine And.intro (fun hc => ?_) (fun hc => ?_) <;> (try (simp (disch := decide) only [up_n, up_s, cp_n, if_true, if_false, ite_true, ite_false, reduceIte, not_true_eq_false, not_false_eq_true] at hc)) <;> (try (exfalso; omega))) | (refine fun (hc : ¬ _) => ?_; try (simp (disch := decide) only [up_n, up_s, cp_n, if_true, if_false, ite_true, ite_false, reduceIte, not_true_eq_false, not_false_eq_true] at hc)) | (refine fun (hc : _ = _) => ?_; try (simp (disch := decide) only [up_n, up_s, cp_n, if_true, if_false, ite_true, ite_false, reduceIte, not_true_eq_false, not_false_eq_true] at hc)))
  exact c_heldPlace_l hh h1 h0 h.toNat 0 (by omega) (by omega) (fun j r0 r1 => absurd r1 (by omega))
def sf (f : Int → Int) (p i : Int) : Int → Int := fun j => if i < j ∧ j ≤ p then f (j - 1) else f j
/-- the row behind holdFirst -/
def hf (f : Int → Int) (p v : Int) : Int → Int := fun j => if 0 < j ∧ j ≤ p then f (j - 1) else if j = 0 ∧ 0 ≤ p then v else f j
theorem sf_step {M : fr_M} {f : Int → Int} {p i : Int} (h : 0 < i ∧ i ≤ p) : fr_up (rw_ M 58 (sf f p i)) 58 i (rw_ M 58 (sf f p i) 58 (i - 1)) = rw_ M 58 (sf f p (i - 1)) := by
  rw [rw_up]
  congr 1
  funext j
  have e : rw_ M 58 (sf f p i) 58 (i - 1) = f (i - 1) := by
    show sf f p i (i - 1) = _
    unfold sf
    rw [if_neg (by omega)]
  rw [e]
  unfold sf
  by_cases hj : j = i
  · rw [if_pos hj, if_pos (by omega), hj]
  · rw [if_neg hj]
    by_cases h2 : i < j ∧ j ≤ p
    · rw [if_pos h2, if_pos (by omega)]
    · rw [if_neg h2, if_neg (by omega)]
theorem sf_end {M : fr_M} {f : Int → Int} {p v : Int} (h : 0 ≤ p) : fr_up (rw_ M 58 (sf f p 0)) 58 0 v = rw_ M 58 (hf f p v) := by
  rw [rw_up]
  congr 1
  funext j
  unfold sf hf
  by_cases hj : j = 0
  · rw [if_pos hj, if_neg (by omega), if_pos (by omega)]
  · rw [if_neg hj]
    by_cases h2 : 0 < j ∧ j ≤ p
    · rw [if_pos h2, if_pos h2]
    · rw [if_neg h2, if_neg h2, if_neg (by omega)]
set_option maxHeartbeats 4000000 in
set_option maxRecDepth 100000 in
theorem c_holdFirst_l {M : fr_M} {p v : Int} {Q : Option fr_V → fr_H → fr_M → Prop} (hp : 0 ≤ p ∧ p < 8) (h : Q none sh0 (rw_ M 58 (hf (M 58) p v))) : ∀ (t : Nat) (i : Int), i = t → i ≤ p → fr_Run 103 none 2 [some (.inr (.inl 52)), some (.inl v), some (.inl p), some (.inl i)] [] sh0 (rw_ M 58 (sf (M 58) p i)) 0 0 Q := by
  intro t
  induction t with
  | zero =>
    intro i q0 q1
    have e : i = 0 := by omega
    subst e
    rw [← sf_end hp.1] at h
    refine fr_go k103 [2] 400 rfl ?_
    repeat' (first | (refine And.intro (by first | omega | (simp (disch := decide) only [up_n, up_s, cp_n, if_true, if_false, ite_true, ite_false, reduceIte, not_true_eq_false, not_false_eq_true]; omega)) ?_) | (refine And.intro (fun hc => ?_) (fun hc => ?_) <;> (try (simp (disch := decide) only [up_n, up_s, cp_n, if_true, if_false, ite_true, ite_false, reduceIte, not_true_eq_false, not_false_eq_true] at hc)) <;> (try (exfalso; omega))) | (refine fun (hc : ¬ _) => ?_; try (simp (disch := decide) only [up_n, up_s, cp_n, if_true, if_false, ite_true, ite_false, reduceIte, not_true_eq_false, not_false_eq_true] at hc)) | (refine fun (hc : _ = _) => ?_; try (simp (disch := decide) only [up_n, up_s, cp_n, if_true, if_false, ite_true, ite_false, reduceIte, not_true_eq_false, not_false_eq_true] at hc)))
    all_goals first | (exfalso; omega) | exact h
  | succ t ih =>
    intro i q0 q1
    have hs := sf_step (M := M) (f := M 58) (p := p) (i := i) (by omega)
    refine fr_go k103 [2] 400 rfl ?_
    repeat' (first | (refine And.intro (by first | omega | (simp (disch := decide) only [up_n, up_s, cp_n, if_true, if_false, ite_true, ite_false, reduceIte, not_true_eq_false, not_false_eq_true]; omega)) ?_) | (refine And.intro (fun hc => ?_) (fun hc => ?_) <;> (try (simp (disch := decide) only [up_n, up_s, cp_n, if_true, if_false, ite_true, ite_false, reduceIte, not_true_eq_false, not_false_eq_true] at hc)) <;> (try (exfalso; omega))) | (refine fun (hc : ¬ _) => ?_; try (simp (disch := decide) only [up_n, up_s, cp_n, if_true, if_false, ite_true, ite_false, reduceIte, not_true_eq_false, not_false_eq_true] at hc)) | (refine fun (hc : _ = _) => ?_; try (simp (disch := decide) only [up_n, up_s, cp_n, if_true, if_false, ite_true, ite_false, reduceIte, not_true_eq_false, not_false_eq_true] at hc)))
    all_goals first | (exfalso; omega) | skip
    rw [hs]
    have e : i + -1 = i - 1 := by omega
    rw [e]
    exact ih (i - 1) (by omega) (by omega)
set_option maxHeartbeats 4000000 in
set_option maxRecDepth 100000 in
theorem c_holdFirst {M : fr_M} {p v : Int} {Q : Option fr_V → fr_H → fr_M → Prop} (hp : -1 ≤ p ∧ p < 8) (h : Q none sh0 (rw_ M 58 (hf (M 58) p v))) : fr_Call 103 [.inr (.inl 52), .inl v, .inl p] sh0 M Q := by
  by_cases h0 : 0 ≤ p
  · refine fr_cgo k103 [some (.inr (.inl 52)), some (.inl v), some (.inl p), none] 0 0 [2] 400 rfl rfl rfl rfl ?_
    repeat' (first | (refine And.intro (by first | omega | (simp (disch := decide) only [up_n, up_s, cp_n, if_true, if_false, ite_true, ite_false, reduceIte, not_true_eq_false, not_false_eq_true]; omega)) ?_) | (refine And.intro (fun hc => ?_) (fun hc => ?_) <;> (try (simp (disch := decide) only [up_n, up_s, cp_n, if_true, if_false, ite_true, ite_false, reduceIte, not_true_eq_false, not_false_eq_true] at hc)) <;> (try (exfalso; omega))) | (refine fun (hc : ¬ _) => ?_; try (simp (disch := decide) only [up_n, up_s, cp_n, if_true, if_false, ite_true, ite_false, reduceIte, not_true_eq_false, not_false_eq_true] at hc)) | (refine fun (hc : _ = _) => ?_; try (simp (disch := decide) only [up_n, up_s, cp_n, if_true, if_false, ite_true, ite_false, reduceIte, not_true_eq_false, not_false_eq_true] at hc)))
    have e : rw_ M 58 (sf (M 58) p p) = M := by
      have e1 : sf (M 58) p p = M 58 := by
        funext j
        unfold sf
        rw [if_neg (by omega)]
      rw [e1]
      exact rw_id
    have hh := c_holdFirst_l (M := M) (v := v) (by omega) h p.toNat p (by omega) (by omega)
    rw [e] at hh
    exact hh
  · have e : rw_ M 58 (hf (M 58) p v) = M := by
      have e1 : hf (M 58) p v = M 58 := by
        funext j
        unfold hf
        rw [if_neg (by omega), if_neg (by omega)]
      rw [e1]
      exact rw_id
    rw [e] at h
    refine fr_cgo k103 [some (.inr (.inl 52)), some (.inl v), some (.inl p), none] 0 0 [] 400 rfl rfl rfl rfl ?_
    repeat' (first | (refine And.intro (by first | omega | (simp (disch := decide) only [up_n, up_s, cp_n, if_true, if_false, ite_true, ite_false, reduceIte, not_true_eq_false, not_false_eq_true]; omega)) ?_) | (refine And.intro (fun hc => ?_) (fun hc => ?_) <;> (try (simp (disch := decide) only [up_n, up_s, cp_n, if_true, if_false, ite_true, ite_false, reduceIte, not_true_eq_false, not_false_eq_true] at hc)) <;> (try (exfalso; omega))) | (refine fun (hc : ¬ _) => ?_; try (simp (disch := decide) only [up_n, up_s, cp_n, if_true, if_false, ite_true, ite_false, reduceIte, not_true_eq_false, not_false_eq_true] at hc)) | (refine fun (hc : _ = _) => ?_; try (simp (disch := decide) only [up_n, up_s, cp_n, if_true, if_false, ite_true, ite_false, reduceIte, not_true_eq_false, not_false_eq_true] at hc)))
    all_goals first | (exfalso; omega) | exact h
