/-- a row where those between two places have moved by one; the last of them stands twice -/
def hol (f : Int → Int) (o a b : Int) : Int → Int := fun j => if o + a ≤ j ∧ j < o + b then f (j + 1) else if o + b < j ∧ j ≤ o + a then f (j - 1) else f j
theorem hol_0 {f : Int → Int} {o a : Int} : hol f o a a = f := by
  funext j
  unfold hol
  rw [if_neg (by omega), if_neg (by omega)]
theorem hol_up {f : Int → Int} {o a b i : Int} (h : a ≤ b) (hi : i = o + b) : up1 (hol f o a b) i (hol f o a b (i + 1)) = hol f o a (b + 1) := by
  funext j
  subst hi
  simp only [hol, up1]
  rw [if_neg (show ¬ (o + a ≤ o + b + 1 ∧ o + b + 1 < o + b) by omega), if_neg (show ¬ (o + b < o + b + 1 ∧ o + b + 1 ≤ o + a) by omega)]
  by_cases e : j = o + b
  · subst e
    rw [if_pos rfl, if_pos (by omega)]
  · rw [if_neg e]
    by_cases e1 : o + a ≤ j ∧ j < o + b
    · rw [if_pos e1, if_pos (by omega)]
    · rw [if_neg e1, if_neg (by omega), if_neg (by omega), if_neg (by omega)]
theorem hol_dn {f : Int → Int} {o a b i : Int} (h : b ≤ a) (hi : i = o + b) : up1 (hol f o a b) i (hol f o a b (i - 1)) = hol f o a (b - 1) := by
  funext j
  subst hi
  simp only [hol, up1]
  rw [if_neg (show ¬ (o + a ≤ o + b - 1 ∧ o + b - 1 < o + b) by omega), if_neg (show ¬ (o + b < o + b - 1 ∧ o + b - 1 ≤ o + a) by omega)]
  by_cases e : j = o + b
  · subst e
    rw [if_pos rfl, if_neg (by omega), if_pos (by omega)]
  · rw [if_neg e]
    by_cases e1 : o + b < j ∧ j ≤ o + a
    · rw [if_neg (by omega), if_pos e1, if_neg (by omega), if_pos (by omega)]
    · rw [if_neg (by omega), if_neg e1, if_neg (by omega), if_neg (by omega)]
theorem hol_end {f : Int → Int} {o a b i : Int} (hi : i = o + b) : up1 (hol f o a b) i (f (o + a)) = mvf f o a b := by
  funext j
  subst hi
  simp only [hol, up1, mvf]
  by_cases e : j = o + b
  · subst e
    rw [if_pos rfl, if_neg (by omega), if_neg (by omega), if_pos rfl]
  · rw [if_neg e, if_neg e]
set_option maxHeartbeats 4000000 in
set_option maxRecDepth 100000 in
theorem m_shifts_1 {M : fr_M} {r a b x : Int} {Q : Option fr_V → fr_H → fr_M → Prop} (hr : 0 ≤ r ∧ r < 6) (ha : 0 ≤ a) (hb : b < 9) (h : fr_Run 155 none 34 [some (.inr (.inl 75)), some (.inl r), some (.inl a), some (.inl b), some (.inl x), some (.inl b)] [] sh0 (rw_ M 78 (hol (M 78) (9 * r) a b)) 0 0 Q) : ∀ (t : Nat) (i : Int), a ≤ i → i + t = b → fr_Run 155 none 11 [some (.inr (.inl 75)), some (.inl r), some (.inl a), some (.inl b), some (.inl x), some (.inl i)] [] sh0 (rw_ M 78 (hol (M 78) (9 * r) a i)) 0 0 Q := by
  intro t
  induction t with
  | zero =>
    intro i q0 q1
    have e : i = b := by omega
    subst e
    refine fr_go k155 [11, 34] 400 rfl ?_
    repeat' (first | (refine And.intro (by first | omega | (simp (disch := decide) only [up_n, up_s, cp_n, rw_n, rw_s, up1_, if_true, if_false, ite_true, ite_false, reduceIte, eq_self, Int.reduceEq, true_and, and_true, not_true_eq_false, not_false_eq_true]; omega)) ?_) | (refine And.intro (fun hc => ?_) (fun hc => ?_) <;> (try (simp (disch := decide) only [up_n, up_s, cp_n, rw_n, rw_s, up1_, if_true, if_false, ite_true, ite_false, reduceIte, eq_self, Int.reduceEq, true_and, and_true, not_true_eq_false, not_false_eq_true] at hc)) <;> (try (exfalso; omega))) | (refine fun (hc : ¬ _) => ?_; try (simp (disch := decide) only [up_n, up_s, cp_n, rw_n, rw_s, up1_, if_true, if_false, ite_true, ite_false, reduceIte, eq_self, Int.reduceEq, true_and, and_true, not_true_eq_false, not_false_eq_true] at hc)) | (refine fun (hc : _ = _) => ?_; try (simp (disch := decide) only [up_n, up_s, cp_n, rw_n, rw_s, up1_, if_true, if_false, ite_true, ite_false, reduceIte, eq_self, Int.reduceEq, true_and, and_true, not_true_eq_false, not_false_eq_true] at hc)))
    all_goals first | (exfalso; omega) | exact h
  | succ t ih =>
    intro i q0 q1
    refine fr_go k155 [11, 34] 400 rfl ?_
    repeat' (first | (refine And.intro (by first | omega | (simp (disch := decide) only [up_n, up_s, cp_n, rw_n, rw_s, up1_, if_true, if_false, ite_true, ite_false, reduceIte, eq_self, Int.reduceEq, true_and, and_true, not_true_eq_false, not_false_eq_true]; omega)) ?_) | (refine And.intro (fun hc => ?_) (fun hc => ?_) <;> (try (simp (disch := decide) only [up_n, up_s, cp_n, rw_n, rw_s, up1_, if_true, if_false, ite_true, ite_false, reduceIte, eq_self, Int.reduceEq, true_and, and_true, not_true_eq_false, not_false_eq_true] at hc)) <;> (try (exfalso; omega))) | (refine fun (hc : ¬ _) => ?_; try (simp (disch := decide) only [up_n, up_s, cp_n, rw_n, rw_s, up1_, if_true, if_false, ite_true, ite_false, reduceIte, eq_self, Int.reduceEq, true_and, and_true, not_true_eq_false, not_false_eq_true] at hc)) | (refine fun (hc : _ = _) => ?_; try (simp (disch := decide) only [up_n, up_s, cp_n, rw_n, rw_s, up1_, if_true, if_false, ite_true, ite_false, reduceIte, eq_self, Int.reduceEq, true_and, and_true, not_true_eq_false, not_false_eq_true] at hc)))
    all_goals first | (exfalso; omega) | skip
    simp (disch := decide) only [up_rw, rw_u, up_up, rw_rw, rw_cm]
    rw [rw_s, hol_up q0 rfl]
    exact ih (i + 1) (by omega) (by omega)
set_option maxHeartbeats 4000000 in
set_option maxRecDepth 100000 in
theorem m_shifts_2 {M : fr_M} {r a b x : Int} {Q : Option fr_V → fr_H → fr_M → Prop} (hr : 0 ≤ r ∧ r < 6) (ha : a < 9) (hb : 0 ≤ b) (h : fr_Run 155 none 59 [some (.inr (.inl 75)), some (.inl r), some (.inl a), some (.inl b), some (.inl x), some (.inl b)] [] sh0 (rw_ M 78 (hol (M 78) (9 * r) a b)) 0 0 Q) : ∀ (t : Nat) (i : Int), i ≤ a → i - t = b → fr_Run 155 none 36 [some (.inr (.inl 75)), some (.inl r), some (.inl a), some (.inl b), some (.inl x), some (.inl i)] [] sh0 (rw_ M 78 (hol (M 78) (9 * r) a i)) 0 0 Q := by
  intro t
  induction t with
  | zero =>
    intro i q0 q1
    have e : i = b := by omega
    subst e
    refine fr_go k155 [36, 59] 400 rfl ?_
    repeat' (first | (refine And.intro (by first | omega | (simp (disch := decide) only [up_n, up_s, cp_n, rw_n, rw_s, up1_, if_true, if_false, ite_true, ite_false, reduceIte, eq_self, Int.reduceEq, true_and, and_true, not_true_eq_false, not_false_eq_true]; omega)) ?_) | (refine And.intro (fun hc => ?_) (fun hc => ?_) <;> (try (simp (disch := decide) only [up_n, up_s, cp_n, rw_n, rw_s, up1_, if_true, if_false, ite_true, ite_false, reduceIte, eq_self, Int.reduceEq, true_and, and_true, not_true_eq_false, not_false_eq_true] at hc)) <;> (try (exfalso; omega))) | (refine fun (hc : ¬ _) => ?_; try (simp (disch := decide) only [up_n, up_s, cp_n, rw_n, rw_s, up1_, if_true, if_false, ite_true, ite_false, reduceIte, eq_self, Int.reduceEq, true_and, and_true, not_true_eq_false, not_false_eq_true] at hc)) | (refine fun (hc : _ = _) => ?_; try (simp (disch := decide) only [up_n, up_s, cp_n, rw_n, rw_s, up1_, if_true, if_false, ite_true, ite_false, reduceIte, eq_self, Int.reduceEq, true_and, and_true, not_true_eq_false, not_false_eq_true] at hc)))
    all_goals first | (exfalso; omega) | exact h
  | succ t ih =>
    intro i q0 q1
    refine fr_go k155 [36, 59] 400 rfl ?_
    repeat' (first | (refine And.intro (by first | omega | (simp (disch := decide) only [up_n, up_s, cp_n, rw_n, rw_s, up1_, if_true, if_false, ite_true, ite_false, reduceIte, eq_self, Int.reduceEq, true_and, and_true, not_true_eq_false, not_false_eq_true]; omega)) ?_) | (refine And.intro (fun hc => ?_) (fun hc => ?_) <;> (try (simp (disch := decide) only [up_n, up_s, cp_n, rw_n, rw_s, up1_, if_true, if_false, ite_true, ite_false, reduceIte, eq_self, Int.reduceEq, true_and, and_true, not_true_eq_false, not_false_eq_true] at hc)) <;> (try (exfalso; omega))) | (refine fun (hc : ¬ _) => ?_; try (simp (disch := decide) only [up_n, up_s, cp_n, rw_n, rw_s, up1_, if_true, if_false, ite_true, ite_false, reduceIte, eq_self, Int.reduceEq, true_and, and_true, not_true_eq_false, not_false_eq_true] at hc)) | (refine fun (hc : _ = _) => ?_; try (simp (disch := decide) only [up_n, up_s, cp_n, rw_n, rw_s, up1_, if_true, if_false, ite_true, ite_false, reduceIte, eq_self, Int.reduceEq, true_and, and_true, not_true_eq_false, not_false_eq_true] at hc)))
    all_goals first | (exfalso; omega) | skip
    simp (disch := decide) only [up_rw, rw_u, up_up, rw_rw, rw_cm]
    rw [rw_s, hol_dn q0 rfl]
    exact ih (i - 1) (by omega) (by omega)
set_option maxHeartbeats 4000000 in
set_option maxRecDepth 100000 in
theorem m_shifts {M : fr_M} {r a b : Int} {Q : Option fr_V → fr_H → fr_M → Prop} (hr : 0 ≤ r ∧ r < 6) (ha : 0 ≤ a ∧ a < 9) (hb : 0 ≤ b ∧ b < 9) (h : Q none sh0 (rw_ M 78 (mvf (M 78) (9 * r) a b))) : fr_Call 155 [.inr (.inl 75), .inl r, .inl a, .inl b] sh0 M Q := by
  have he : ∀ y, fr_Run 155 none 59 [some (.inr (.inl 75)), some (.inl r), some (.inl a), some (.inl b), some (.inl (M 78 (9 * r + a))), some (.inl y)] [] sh0 (rw_ M 78 (hol (M 78) (9 * r) a b)) 0 0 Q := by
    intro y
    refine fr_go k155 [] 400 rfl ?_
    repeat' (first | (refine And.intro (by first | omega | (simp (disch := decide) only [up_n, up_s, cp_n, rw_n, rw_s, up1_, if_true, if_false, ite_true, ite_false, reduceIte, eq_self, Int.reduceEq, true_and, and_true, not_true_eq_false, not_false_eq_true]; omega)) ?_) | (refine And.intro (fun hc => ?_) (fun hc => ?_) <;> (try (simp (disch := decide) only [up_n, up_s, cp_n, rw_n, rw_s, up1_, if_true, if_false, ite_true, ite_false, reduceIte, eq_self, Int.reduceEq, true_and, and_true, not_true_eq_false, not_false_eq_true] at hc)) <;> (try (exfalso; omega))) | (refine fun (hc : ¬ _) => ?_; try (simp (disch := decide) only [up_n, up_s, cp_n, rw_n, rw_s, up1_, if_true, if_false, ite_true, ite_false, reduceIte, eq_self, Int.reduceEq, true_and, and_true, not_true_eq_false, not_false_eq_true] at hc)) | (refine fun (hc : _ = _) => ?_; try (simp (disch := decide) only [up_n, up_s, cp_n, rw_n, rw_s, up1_, if_true, if_false, ite_true, ite_false, reduceIte, eq_self, Int.reduceEq, true_and, and_true, not_true_eq_false, not_false_eq_true] at hc)))
    simp (disch := decide) only [up_rw, rw_u, up_up, rw_rw, rw_cm]
    rw [hol_end rfl]
    exact h
  by_cases hab : a ≤ b
  · refine fr_cgo k155 [some (.inr (.inl 75)), some (.inl r), some (.inl a), some (.inl b), none, none] 0 0 [11] 400 rfl rfl rfl rfl ?_
    repeat' (first | (refine And.intro (by first | omega | (simp (disch := decide) only [up_n, up_s, cp_n, rw_n, rw_s, up1_, if_true, if_false, ite_true, ite_false, reduceIte, eq_self, Int.reduceEq, true_and, and_true, not_true_eq_false, not_false_eq_true]; omega)) ?_) | (refine And.intro (fun hc => ?_) (fun hc => ?_) <;> (try (simp (disch := decide) only [up_n, up_s, cp_n, rw_n, rw_s, up1_, if_true, if_false, ite_true, ite_false, reduceIte, eq_self, Int.reduceEq, true_and, and_true, not_true_eq_false, not_false_eq_true] at hc)) <;> (try (exfalso; omega))) | (refine fun (hc : ¬ _) => ?_; try (simp (disch := decide) only [up_n, up_s, cp_n, rw_n, rw_s, up1_, if_true, if_false, ite_true, ite_false, reduceIte, eq_self, Int.reduceEq, true_and, and_true, not_true_eq_false, not_false_eq_true] at hc)) | (refine fun (hc : _ = _) => ?_; try (simp (disch := decide) only [up_n, up_s, cp_n, rw_n, rw_s, up1_, if_true, if_false, ite_true, ite_false, reduceIte, eq_self, Int.reduceEq, true_and, and_true, not_true_eq_false, not_false_eq_true] at hc)))
    refine q_run (m_shifts_1 (M := M) hr ha.1 hb.2 ?_ (b - a).toNat a (by omega) (by omega)) (by rw [hol_0]; exact rw_id)
    refine fr_go k155 [59] 400 rfl ?_
    repeat' (first | (refine And.intro (by first | omega | (simp (disch := decide) only [up_n, up_s, cp_n, rw_n, rw_s, up1_, if_true, if_false, ite_true, ite_false, reduceIte, eq_self, Int.reduceEq, true_and, and_true, not_true_eq_false, not_false_eq_true]; omega)) ?_) | (refine And.intro (fun hc => ?_) (fun hc => ?_) <;> (try (simp (disch := decide) only [up_n, up_s, cp_n, rw_n, rw_s, up1_, if_true, if_false, ite_true, ite_false, reduceIte, eq_self, Int.reduceEq, true_and, and_true, not_true_eq_false, not_false_eq_true] at hc)) <;> (try (exfalso; omega))) | (refine fun (hc : ¬ _) => ?_; try (simp (disch := decide) only [up_n, up_s, cp_n, rw_n, rw_s, up1_, if_true, if_false, ite_true, ite_false, reduceIte, eq_self, Int.reduceEq, true_and, and_true, not_true_eq_false, not_false_eq_true] at hc)) | (refine fun (hc : _ = _) => ?_; try (simp (disch := decide) only [up_n, up_s, cp_n, rw_n, rw_s, up1_, if_true, if_false, ite_true, ite_false, reduceIte, eq_self, Int.reduceEq, true_and, and_true, not_true_eq_false, not_false_eq_true] at hc)))
    all_goals first | (exfalso; omega) | exact he _
  · refine fr_cgo k155 [some (.inr (.inl 75)), some (.inl r), some (.inl a), some (.inl b), none, none] 0 0 [36] 400 rfl rfl rfl rfl ?_
    repeat' (first | (refine And.intro (by first | omega | (simp (disch := decide) only [up_n, up_s, cp_n, rw_n, rw_s, up1_, if_true, if_false, ite_true, ite_false, reduceIte, eq_self, Int.reduceEq, true_and, and_true, not_true_eq_false, not_false_eq_true]; omega)) ?_) | (refine And.intro (fun hc => ?_) (fun hc => ?_) <;> (try (simp (disch := decide) only [up_n, up_s, cp_n, rw_n, rw_s, up1_, if_true, if_false, ite_true, ite_false, reduceIte, eq_self, Int.reduceEq, true_and, and_true, not_true_eq_false, not_false_eq_true] at hc)) <;> (try (exfalso; omega))) | (refine fun (hc : ¬ _) => ?_; try (simp (disch := decide) only [up_n, up_s, cp_n, rw_n, rw_s, up1_, if_true, if_false, ite_true, ite_false, reduceIte, eq_self, Int.reduceEq, true_and, and_true, not_true_eq_false, not_false_eq_true] at hc)) | (refine fun (hc : _ = _) => ?_; try (simp (disch := decide) only [up_n, up_s, cp_n, rw_n, rw_s, up1_, if_true, if_false, ite_true, ite_false, reduceIte, eq_self, Int.reduceEq, true_and, and_true, not_true_eq_false, not_false_eq_true] at hc)))
    all_goals first | (exfalso; omega) | skip
    refine q_run (m_shifts_2 (M := M) hr ha.2 hb.1 (he b) (a - b).toNat a (by omega) (by omega)) (by rw [hol_0]; exact rw_id)
set_option maxHeartbeats 4000000 in
set_option maxRecDepth 100000 in
theorem c_shift_l {M : fr_M} {r n p b st_ ds : Int} {Q : Option fr_V → fr_H → fr_M → Prop} (hds : ds ≤ 9) (hr : 0 ≤ r ∧ r < 6) (hn : 0 ≤ n ∧ n ≤ 9) (hf : ∀ i, 0 ≤ i → i < n → 0 ≤ M 14 (r * 9 + i) ∧ M 14 (r * 9 + i) < 40) (hs : st_ = 1 ∨ st_ = -1) {a : Int} (ha : 0 ≤ a ∧ a < n) (hp : 0 ≤ p ∧ p < n) (hb : 0 ≤ b ∧ b < 40) (hba : M 14 (r * 9 + a) = b) (h : ∀ g15, (∀ i, 0 ≤ i → i < n → g15 (mvf (M 14) (r * 9) a p (r * 9 + i)) = i) → (∀ x, (∀ i, 0 ≤ i → i < n → M 14 (r * 9 + i) ≠ x) → g15 x = M 15 x) → Q none sh0 (rw_ (rw_ M 14 (mvf (M 14) (r * 9) a p)) 15 g15)) : ∀ (t : Nat) (at_ i : Int) (g15 : Int → Int), 0 ≤ i → i + t = ds → (st_ = 1 → a ≤ at_ ∧ at_ + t = p) → (st_ = -1 → at_ ≤ a ∧ at_ - t = p) → (∀ i, 0 ≤ i → i < n → i ≠ at_ → g15 (hol (M 14) (r * 9) a at_ (r * 9 + i)) = i ∧ hol (M 14) (r * 9) a at_ (r * 9 + i) ≠ b) → (∀ x, (∀ i, 0 ≤ i → i < n → M 14 (r * 9 + i) ≠ x) → g15 x = M 15 x) → fr_Run 48 none 31 [some (.inr (.inl 13)), some (.inl b), some (.inl p), some (.inl r), some (.inl st_), some (.inl ds), some (.inl at_), some (.inl i)] [] sh0 (rw_ (rw_ M 14 (hol (M 14) (r * 9) a at_)) 15 g15) 0 0 Q := by
  intro t
  induction t with
  | zero =>
    intro at_ i g15 q0 q1 q2 q3 q4 q5
    have e : at_ = p := by omega
    subst e
    refine fr_go k48 [31] 400 rfl ?_
    repeat' (first | (refine And.intro (by first | omega | (simp (disch := decide) only [up_n, up_s, cp_n, rw_n, rw_s, up1_, if_true, if_false, ite_true, ite_false, reduceIte, eq_self, Int.reduceEq, true_and, and_true, not_true_eq_false, not_false_eq_true]; omega)) ?_) | (refine c_put (by first | omega | (simp (disch := decide) only [up_n, up_s, cp_n, rw_n, rw_s, up1_, if_true, if_false, ite_true, ite_false, reduceIte, eq_self, Int.reduceEq, true_and, and_true, not_true_eq_false, not_false_eq_true]; omega)) (by first | omega | (simp (disch := decide) only [up_n, up_s, cp_n, rw_n, rw_s, up1_, if_true, if_false, ite_true, ite_false, reduceIte, eq_self, Int.reduceEq, true_and, and_true, not_true_eq_false, not_false_eq_true]; omega)) (by first | omega | (simp (disch := decide) only [up_n, up_s, cp_n, rw_n, rw_s, up1_, if_true, if_false, ite_true, ite_false, reduceIte, eq_self, Int.reduceEq, true_and, and_true, not_true_eq_false, not_false_eq_true]; omega)) ?_) | (refine And.intro (fun hc => ?_) (fun hc => ?_) <;> (try (simp (disch := decide) only [up_n, up_s, cp_n, rw_n, rw_s, up1_, if_true, if_false, ite_true, ite_false, reduceIte, eq_self, Int.reduceEq, true_and, and_true, not_true_eq_false, not_false_eq_true] at hc)) <;> (try (exfalso; omega))) | (refine fun (hc : ¬ _) => ?_; try (simp (disch := decide) only [up_n, up_s, cp_n, rw_n, rw_s, up1_, if_true, if_false, ite_true, ite_false, reduceIte, eq_self, Int.reduceEq, true_and, and_true, not_true_eq_false, not_false_eq_true] at hc)) | (refine fun (hc : _ = _) => ?_; try (simp (disch := decide) only [up_n, up_s, cp_n, rw_n, rw_s, up1_, if_true, if_false, ite_true, ite_false, reduceIte, eq_self, Int.reduceEq, true_and, and_true, not_true_eq_false, not_false_eq_true] at hc)))
    all_goals first | (exfalso; omega) | skip
    simp (disch := decide) only [up_rw, rw_u, up_up, rw_rw, rw_cm]
    rw [← hba, hol_end rfl, hba]
    refine h _ (fun j z0 z1 => ?_) (fun x hx => ?_)
    · have hv : mvf (M 14) (r * 9) a at_ (r * 9 + j) = if j = at_ then b else hol (M 14) (r * 9) a at_ (r * 9 + j) := by
        rw [← hol_end rfl, hba, up1_]
        by_cases ej : j = at_
        · rw [if_pos ej, if_pos (by omega)]
        · rw [if_neg ej, if_neg (by omega)]
      rw [hv, up1_]
      by_cases ej : j = at_
      · rw [if_pos ej, if_pos rfl, ej]
      · rw [if_neg ej]
        have := q4 j z0 z1 ej
        rw [if_neg this.2]
        exact this.1
    · rw [up1_, if_neg (fun ex => hx a ha.1 ha.2 (by rw [hba, ex]))]
      exact q5 x hx
  | succ t ih =>
    intro at_ i g15 q0 q1 q2 q3 q4 q5
    have hat : 0 ≤ at_ ∧ at_ < n ∧ 0 ≤ at_ + st_ ∧ at_ + st_ < n := by omega
    have hx : hol (M 14) (r * 9) a at_ (r * 9 + at_ + st_) = M 14 (r * 9 + (at_ + st_)) := by
      unfold hol
      rw [if_neg (by omega), if_neg (by omega)]
      congr 1
      omega
    have hxr := hf (at_ + st_) (by omega) (by omega)
    refine fr_go k48 [31] 400 rfl ?_
    repeat' (first | (refine And.intro (by first | omega | (simp (disch := decide) only [up_n, up_s, cp_n, rw_n, rw_s, up1_, if_true, if_false, ite_true, ite_false, reduceIte, eq_self, Int.reduceEq, true_and, and_true, not_true_eq_false, not_false_eq_true]; omega)) ?_) | (refine And.intro (fun hc => ?_) (fun hc => ?_) <;> (try (simp (disch := decide) only [up_n, up_s, cp_n, rw_n, rw_s, up1_, if_true, if_false, ite_true, ite_false, reduceIte, eq_self, Int.reduceEq, true_and, and_true, not_true_eq_false, not_false_eq_true] at hc)) <;> (try (exfalso; omega))) | (refine fun (hc : ¬ _) => ?_; try (simp (disch := decide) only [up_n, up_s, cp_n, rw_n, rw_s, up1_, if_true, if_false, ite_true, ite_false, reduceIte, eq_self, Int.reduceEq, true_and, and_true, not_true_eq_false, not_false_eq_true] at hc)) | (refine fun (hc : _ = _) => ?_; try (simp (disch := decide) only [up_n, up_s, cp_n, rw_n, rw_s, up1_, if_true, if_false, ite_true, ite_false, reduceIte, eq_self, Int.reduceEq, true_and, and_true, not_true_eq_false, not_false_eq_true] at hc)))
    all_goals first | (exfalso; omega) | skip
    simp (disch := decide) only [up_n, up_s, cp_n, rw_n, rw_s, up1_, if_true, if_false, ite_true, ite_false, reduceIte, eq_self, Int.reduceEq, true_and, and_true, not_true_eq_false, not_false_eq_true]
    rw [hx]
    refine c_put hr (by omega) hxr ?_
    repeat' (first | (refine And.intro (by first | omega | (simp (disch := decide) only [up_n, up_s, cp_n, rw_n, rw_s, up1_, if_true, if_false, ite_true, ite_false, reduceIte, eq_self, Int.reduceEq, true_and, and_true, not_true_eq_false, not_false_eq_true]; omega)) ?_) | (refine And.intro (fun hc => ?_) (fun hc => ?_) <;> (try (simp (disch := decide) only [up_n, up_s, cp_n, rw_n, rw_s, up1_, if_true, if_false, ite_true, ite_false, reduceIte, eq_self, Int.reduceEq, true_and, and_true, not_true_eq_false, not_false_eq_true] at hc)) <;> (try (exfalso; omega))) | (refine fun (hc : ¬ _) => ?_; try (simp (disch := decide) only [up_n, up_s, cp_n, rw_n, rw_s, up1_, if_true, if_false, ite_true, ite_false, reduceIte, eq_self, Int.reduceEq, true_and, and_true, not_true_eq_false, not_false_eq_true] at hc)) | (refine fun (hc : _ = _) => ?_; try (simp (disch := decide) only [up_n, up_s, cp_n, rw_n, rw_s, up1_, if_true, if_false, ite_true, ite_false, reduceIte, eq_self, Int.reduceEq, true_and, and_true, not_true_eq_false, not_false_eq_true] at hc)))
    simp (disch := decide) only [up_rw, rw_u, up_up, rw_rw, rw_cm]
    have hnew : up1 (hol (M 14) (r * 9) a at_) (r * 9 + at_) (M 14 (r * 9 + (at_ + st_))) = hol (M 14) (r * 9) a (at_ + st_) := by
      rw [← hx]
      rcases hs with rfl | rfl
      · exact hol_up (by omega) rfl
      · exact hol_dn (by omega) rfl
    rw [hnew]
    refine ih (at_ + st_) (i + 1) _ (by omega) (by omega) (by omega) (by omega) (fun j z0 z1 z2 => ?_) (fun x hx2 => ?_)
    · have hv : hol (M 14) (r * 9) a (at_ + st_) (r * 9 + j) = if j = at_ then M 14 (r * 9 + (at_ + st_)) else hol (M 14) (r * 9) a at_ (r * 9 + j) := by
        rw [← hnew, up1_]
        by_cases ej : j = at_
        · rw [if_pos ej, if_pos (by omega)]
        · rw [if_neg ej, if_neg (by omega)]
      have hz := q4 (at_ + st_) (by omega) (by omega) (by omega)
      rw [show r * 9 + (at_ + st_) = r * 9 + at_ + st_ by omega, hx] at hz
      rw [hv, up1_]
      by_cases ej : j = at_
      · rw [if_pos ej, if_pos rfl]
        exact ⟨ej.symm, hz.2⟩
      · rw [if_neg ej]
        have hq := q4 j z0 z1 ej
        refine ⟨?_, hq.2⟩
        by_cases ex : hol (M 14) (r * 9) a at_ (r * 9 + j) = M 14 (r * 9 + (at_ + st_))
        · exfalso
          have := hq.1
          rw [ex, hz.1] at this
          omega
        · rw [if_neg ex]
          exact hq.1
    · rw [up1_, if_neg (fun ex => hx2 (at_ + st_) (by omega) (by omega) ex.symm)]
      exact q5 x hx2
set_option maxHeartbeats 4000000 in
set_option maxRecDepth 100000 in
theorem c_shift {M : fr_M} {n p b : Int} {Q : Option fr_V → fr_H → fr_M → Prop} (hb : 0 ≤ b ∧ b < 40) (hr : 0 ≤ M 4 b ∧ M 4 b < 6) (hn : 0 ≤ n ∧ n ≤ 9) (hf : ∀ i, 0 ≤ i → i < n → 0 ≤ M 14 (M 4 b * 9 + i) ∧ M 14 (M 4 b * 9 + i) < 40 ∧ M 15 (M 14 (M 4 b * 9 + i)) = i) (ha : 0 ≤ M 15 b ∧ M 15 b < n) (hp : 0 ≤ p ∧ p < n) (hba : M 14 (M 4 b * 9 + M 15 b) = b) (h : ∀ g15, (∀ i, 0 ≤ i → i < n → g15 (mvf (M 14) (M 4 b * 9) (M 15 b) p (M 4 b * 9 + i)) = i) → (∀ x, (∀ i, 0 ≤ i → i < n → M 14 (M 4 b * 9 + i) ≠ x) → g15 x = M 15 x) → Q none sh0 (rw_ (rw_ M 14 (mvf (M 14) (M 4 b * 9) (M 15 b) p)) 15 g15)) : fr_Call 48 [.inr (.inl 13), .inl b, .inl p] sh0 M Q := by
  have hi : ∀ i, 0 ≤ i → i < n → i ≠ M 15 b → M 15 (hol (M 14) (M 4 b * 9) (M 15 b) (M 15 b) (M 4 b * 9 + i)) = i ∧ hol (M 14) (M 4 b * 9) (M 15 b) (M 15 b) (M 4 b * 9 + i) ≠ b := by
    intro i q0 q1 q2
    rw [hol_0]
    have := hf i q0 q1
    refine ⟨this.2.2, fun e => ?_⟩
    rw [e] at this
    omega
  have e0 : rw_ (rw_ M 14 (hol (M 14) (M 4 b * 9) (M 15 b) (M 15 b))) 15 (M 15) = M := by
    rw [hol_0, rw_id, rw_id]
  have hl := fun st_ ds hds hs => c_shift_l (M := M) (r := M 4 b) (n := n) (p := p) (b := b) (st_ := st_) (ds := ds) (Q := Q) hds hr hn (fun i q0 q1 => ⟨(hf i q0 q1).1, (hf i q0 q1).2.1⟩) hs ha hp hb hba h
  by_cases hd : M 15 b < p
  · refine fr_cgo k48 [some (.inr (.inl 13)), some (.inl b), some (.inl p), none, none, none, none, none] 0 0 [31] 400 rfl rfl rfl rfl ?_
    repeat' (first | (refine And.intro (by first | omega | (simp (disch := decide) only [up_n, up_s, cp_n, rw_n, rw_s, up1_, if_true, if_false, ite_true, ite_false, reduceIte, eq_self, Int.reduceEq, true_and, and_true, not_true_eq_false, not_false_eq_true]; omega)) ?_) | (refine And.intro (fun hc => ?_) (fun hc => ?_) <;> (try (simp (disch := decide) only [up_n, up_s, cp_n, rw_n, rw_s, up1_, if_true, if_false, ite_true, ite_false, reduceIte, eq_self, Int.reduceEq, true_and, and_true, not_true_eq_false, not_false_eq_true] at hc)) <;> (try (exfalso; omega))) | (refine fun (hc : ¬ _) => ?_; try (simp (disch := decide) only [up_n, up_s, cp_n, rw_n, rw_s, up1_, if_true, if_false, ite_true, ite_false, reduceIte, eq_self, Int.reduceEq, true_and, and_true, not_true_eq_false, not_false_eq_true] at hc)) | (refine fun (hc : _ = _) => ?_; try (simp (disch := decide) only [up_n, up_s, cp_n, rw_n, rw_s, up1_, if_true, if_false, ite_true, ite_false, reduceIte, eq_self, Int.reduceEq, true_and, and_true, not_true_eq_false, not_false_eq_true] at hc)))
    all_goals first | (exfalso; omega) | skip
    exact q_run (hl 1 (p - M 15 b) (by omega) (Or.inl rfl) (p - M 15 b).toNat (M 15 b) 0 (M 15) (by omega) (by omega) (by omega) (by omega) hi (fun x hx => rfl)) e0
  · refine fr_cgo k48 [some (.inr (.inl 13)), some (.inl b), some (.inl p), none, none, none, none, none] 0 0 [31] 400 rfl rfl rfl rfl ?_
    repeat' (first | (refine And.intro (by first | omega | (simp (disch := decide) only [up_n, up_s, cp_n, rw_n, rw_s, up1_, if_true, if_false, ite_true, ite_false, reduceIte, eq_self, Int.reduceEq, true_and, and_true, not_true_eq_false, not_false_eq_true]; omega)) ?_) | (refine And.intro (fun hc => ?_) (fun hc => ?_) <;> (try (simp (disch := decide) only [up_n, up_s, cp_n, rw_n, rw_s, up1_, if_true, if_false, ite_true, ite_false, reduceIte, eq_self, Int.reduceEq, true_and, and_true, not_true_eq_false, not_false_eq_true] at hc)) <;> (try (exfalso; omega))) | (refine fun (hc : ¬ _) => ?_; try (simp (disch := decide) only [up_n, up_s, cp_n, rw_n, rw_s, up1_, if_true, if_false, ite_true, ite_false, reduceIte, eq_self, Int.reduceEq, true_and, and_true, not_true_eq_false, not_false_eq_true] at hc)) | (refine fun (hc : _ = _) => ?_; try (simp (disch := decide) only [up_n, up_s, cp_n, rw_n, rw_s, up1_, if_true, if_false, ite_true, ite_false, reduceIte, eq_self, Int.reduceEq, true_and, and_true, not_true_eq_false, not_false_eq_true] at hc)))
    all_goals first | (exfalso; omega) | skip
    · have e1 : M 15 b = p := by omega
      exact q_run (hl (-1) (p - M 15 b) (by omega) (Or.inr rfl) 0 (M 15 b) 0 (M 15) (by omega) (by omega) (by omega) (by omega) hi (fun x hx => rfl)) e0
    · exact q_run (hl (-1) (-(p - M 15 b)) (by omega) (Or.inr rfl) (M 15 b - p).toNat (M 15 b) 0 (M 15) (by omega) (by omega) (by omega) (by omega) hi (fun x hx => rfl)) e0
