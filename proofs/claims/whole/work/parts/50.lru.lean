/-- a whole row is another one -/
def rw_ (M : fr_M) (k : Nat) (g : Int → Int) : fr_M := fun k' j => if k' = k then g j else M k' j
theorem rw_id {M : fr_M} {k : Nat} : rw_ M k (M k) = M := by
  funext k' j
  unfold rw_
  split
  · next e => subst e; rfl
  · rfl
theorem rw_up {M : fr_M} {k : Nat} {g : Int → Int} {i v : Int} : fr_up (rw_ M k g) k i v = rw_ M k (fun j => if j = i then v else g j) := by
  funext k' j
  unfold fr_up rw_
  split
  · rfl
  · rfl
set_option maxHeartbeats 4000000 in
set_option maxRecDepth 100000 in
theorem c_heldPlace_l {M : fr_M} {p h : Int} {Q : Option fr_V → fr_H → fr_M → Prop} (hh : 0 ≤ h ∧ h ≤ 8) (h1 : ∀ i, 0 ≤ i → i < h → M 58 i = p → (∀ j, 0 ≤ j → j < i → M 58 j ≠ p) → Q (some (.inl i)) sh0 M) (h0 : (∀ j, 0 ≤ j → j < h → M 58 j ≠ p) → Q (some (.inl (-1))) sh0 M) : ∀ (t : Nat) (i : Int), 0 ≤ i → i + t = h → (∀ j, 0 ≤ j → j < i → M 58 j ≠ p) → fr_Run 102 none 2 [some (.inr (.inl 52)), some (.inl p), some (.inl h), some (.inl i)] [] sh0 M 0 0 Q := by
  intro t
  induction t with
  | zero =>
    intro i q0 q1 q2
    have e : i = h := by omega
    subst e
    refine fr_go k102 [2] 400 rfl ?_
    repeat' (first | (refine And.intro (by first | omega | (simp (disch := decide) only [up_n, up_s, cp_n, if_true, if_false, ite_true, ite_false, reduceIte, not_true_eq_false, not_false_eq_true]; omega)) ?_) | (refine And.intro (fun hc => ?_) (fun hc => ?_) <;> (try (simp (disch := decide) only [up_n, up_s, cp_n, if_true, if_false, ite_true, ite_false, reduceIte, not_true_eq_false, not_false_eq_true] at hc)) <;> (try (exfalso; omega))) | (refine fun (hc : ¬ _) => ?_; try (simp (disch := decide) only [up_n, up_s, cp_n, if_true, if_false, ite_true, ite_false, reduceIte, not_true_eq_false, not_false_eq_true] at hc)) | (refine fun (hc : _ = _) => ?_; try (simp (disch := decide) only [up_n, up_s, cp_n, if_true, if_false, ite_true, ite_false, reduceIte, not_true_eq_false, not_false_eq_true] at hc)))
    all_goals first | (exfalso; omega) | exact h0 q2
  | succ t ih =>
    intro i q0 q1 q2
    refine fr_go k102 [2] 400 rfl ?_
    repeat' (first | (refine And.intro (by first | omega | (simp (disch := decide) only [up_n, up_s, cp_n, if_true, if_false, ite_true, ite_false, reduceIte, not_true_eq_false, not_false_eq_true]; omega)) ?_) | (refine And.intro (fun hc => ?_) (fun hc => ?_) <;> (try (simp (disch := decide) only [up_n, up_s, cp_n, if_true, if_false, ite_true, ite_false, reduceIte, not_true_eq_false, not_false_eq_true] at hc)) <;> (try (exfalso; omega))) | (refine fun (hc : ¬ _) => ?_; try (simp (disch := decide) only [up_n, up_s, cp_n, if_true, if_false, ite_true, ite_false, reduceIte, not_true_eq_false, not_false_eq_true] at hc)) | (refine fun (hc : _ = _) => ?_; try (simp (disch := decide) only [up_n, up_s, cp_n, if_true, if_false, ite_true, ite_false, reduceIte, not_true_eq_false, not_false_eq_true] at hc)))
    all_goals first | (exfalso; omega) | skip
    · refine ih (i + 1) (by omega) (by omega) (fun j r0 r1 => ?_)
      by_cases e : j = i
      · subst e; exact hc
      · exact q2 j r0 (by omega)
    · exact h1 i q0 (by omega) hc q2
set_option maxHeartbeats 4000000 in
set_option maxRecDepth 100000 in
theorem c_heldPlace {M : fr_M} {p h : Int} {Q : Option fr_V → fr_H → fr_M → Prop} (hh : 0 ≤ h ∧ h ≤ 8) (h1 : ∀ i, 0 ≤ i → i < h → M 58 i = p → (∀ j, 0 ≤ j → j < i → M 58 j ≠ p) → Q (some (.inl i)) sh0 M) (h0 : (∀ j, 0 ≤ j → j < h → M 58 j ≠ p) → Q (some (.inl (-1))) sh0 M) : fr_Call 102 [.inr (.inl 52), .inl p, .inl h] sh0 M Q := by
  refine fr_cgo k102 [some (.inr (.inl 52)), some (.inl p), some (.inl h), none] 0 0 [2] 400 rfl rfl rfl rfl ?_
  repeat' (first | (refine And.intro (by first | omega | (simp (disch := decide) only [up_n, up_s, cp_n, if_true, if_false, ite_true, ite_false, reduceIte, not_true_eq_false, not_false_eq_true]; omega)) ?_) | (refine And.intro (fun hc => ?_) (fun hc => ?_) <;> (try (simp (disch := decide) only [up_n, up_s, cp_n, if_true, if_false, ite_true, ite_false, reduceIte, not_true_eq_false, not_false_eq_true] at hc)) <;> (try (exfalso; omega))) | (refine fun (hc : ¬ _) => ?_; try (simp (disch := decide) only [up_n, up_s, cp_n, if_true, if_false, ite_true, ite_false, reduceIte, not_true_eq_false, not_false_eq_true] at hc)) | (refine fun (hc : _ = _) => ?_; try (simp (disch := decide) only [up_n, up_s, cp_n, if_true, if_false, ite_true, ite_false, reduceIte, not_true_eq_false, not_false_eq_true] at hc)))
  exact c_heldPlace_l hh h1 h0 h.toNat 0 (by omega) (by omega) (fun j r0 r1 => absurd r1 (by omega))
