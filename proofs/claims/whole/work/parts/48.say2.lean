def bt (b : Int64) (i : Int) : Int := fr_and ((fr_lshr b (8 * i)).toInt32.toInt) 255
theorem bt_in (b : Int64) (i : Int) : 0 ≤ bt b i ∧ bt b i ≤ 255 := and_255 _
def CI (b : Int64) (n s : Int) (M M' : fr_M) (m : Int) : Prop := M' 42 1 = s + m ∧ (∀ j, 0 ≤ j → j < m → M' 43 (s + j) = (if bt b (n - 1 - j) < 128 then bt b (n - 1 - j) else bt b (n - 1 - j) - 256)) ∧ (∀ j, 0 ≤ j → j < s → M' 43 j = M 43 j) ∧ (∀ k j, k ≠ 43 → ¬ (k = 42 ∧ j = 1) → M' k j = M k j)
theorem CI.step {b : Int64} {n s m i : Int} {M M' : fr_M} (h : CI b n s M M' m) (hm : 0 ≤ m) (hs : 0 ≤ s) (hi : i = n - 1 - m) : CI b n s M (fr_up (fr_up M' 43 (M' 42 1) (if bt b i < 128 then bt b i else bt b i - 256)) 42 1 (M' 42 1 + 1)) (m + 1) := by
  obtain ⟨h1, h2, h3, h4⟩ := h
  refine ⟨?_, fun j q0 q1 => ?_, fun j q0 q1 => ?_, fun k j q0 q1 => ?_⟩
  · rw [up_s, if_pos rfl]
    omega
  · rw [up_n (by decide), up_s]
    by_cases e : j = m
    · subst e
      rw [if_pos (by omega), hi]
    · rw [if_neg (by omega)]
      exact h2 j q0 (by omega)
  · rw [up_n (by decide), up_s, if_neg (by omega)]
    exact h3 j q0 q1
  · by_cases e : k = 42
    · subst e
      rw [up_s, if_neg (fun z => q1 ⟨rfl, z⟩), up_n q0]
      exact h4 _ j q0 q1
    · rw [up_n e, up_n q0]
      exact h4 k j q0 q1
set_option maxHeartbeats 4000000 in
set_option maxRecDepth 100000 in
theorem c_say_l {M : fr_M} {b : Int64} {n s : Int} {Q : Option fr_V → fr_H → fr_M → Prop} (hn : 1 ≤ n ∧ n ≤ 8) (hs : 0 ≤ s ∧ s + n ≤ 200) (h : ∀ M', CI b n s M M' n → Q (some (.inl (s + n))) sh0 M') : ∀ (t : Nat) (i : Int) (M' : fr_M), i + 1 = t → i < n → CI b n s M M' (n - 1 - i) → fr_Run 128 none 21 [some (.inr (.inl 0)), some (.inr (.inr (.inl b))), none, some (.inl n), some (.inl i)] [] sh0 M' 0 0 Q := by
  intro t
  induction t with
  | zero =>
    intro i M' h0 h1 h2
    have e : i = -1 := by omega
    subst e
    have h2 : CI b n s M M' n := by
      have e : n - 1 - (-1) = n := by omega
      rw [e] at h2
      exact h2
    have hq := h M' h2
    rw [← h2.1] at hq
    refine fr_go k128 [21] 400 rfl ?_
    repeat' (first | (refine And.intro (by first | omega | (simp (disch := decide) only [up_n, up_s, cp_n, if_true, if_false, ite_true, ite_false, reduceIte, not_true_eq_false, not_false_eq_true]; omega)) ?_) | (refine And.intro (fun hc => ?_) (fun hc => ?_) <;> (try (simp (disch := decide) only [up_n, up_s, cp_n, if_true, if_false, ite_true, ite_false, reduceIte, not_true_eq_false, not_false_eq_true] at hc)) <;> (try (exfalso; omega))) | (refine fun (hc : ¬ _) => ?_; try (simp (disch := decide) only [up_n, up_s, cp_n, if_true, if_false, ite_true, ite_false, reduceIte, not_true_eq_false, not_false_eq_true] at hc)) | (refine fun (hc : _ = _) => ?_; try (simp (disch := decide) only [up_n, up_s, cp_n, if_true, if_false, ite_true, ite_false, reduceIte, not_true_eq_false, not_false_eq_true] at hc)))
    all_goals first | (exfalso; omega) | exact hq
  | succ t ih =>
    intro i M' h0 h1 h2
    have hl := h2.1
    have hb : fr_and ((fr_lushr b (8 * i)).toInt32.toInt) 255 = bt b i := bit_u b i (by omega)
    have hv := bt_in b i
    have hst := h2.step (i := i) (by omega) hs.1 (by omega)
    refine fr_go k128 [21] 400 rfl ?_
    repeat' (first | (refine And.intro (by first | omega | (simp (disch := decide) only [up_n, up_s, cp_n, if_true, if_false, ite_true, ite_false, reduceIte, not_true_eq_false, not_false_eq_true]; omega)) ?_) | (refine And.intro (fun hc => ?_) (fun hc => ?_) <;> (try (simp (disch := decide) only [up_n, up_s, cp_n, if_true, if_false, ite_true, ite_false, reduceIte, not_true_eq_false, not_false_eq_true] at hc)) <;> (try (exfalso; omega))) | (refine fun (hc : ¬ _) => ?_; try (simp (disch := decide) only [up_n, up_s, cp_n, if_true, if_false, ite_true, ite_false, reduceIte, not_true_eq_false, not_false_eq_true] at hc)) | (refine fun (hc : _ = _) => ?_; try (simp (disch := decide) only [up_n, up_s, cp_n, if_true, if_false, ite_true, ite_false, reduceIte, not_true_eq_false, not_false_eq_true] at hc)))
    all_goals first | (exfalso; omega) | skip
    refine c_of (c_append (v := bt b i) (by omega) hv ?_) (show ([.inr (.inl 42), .inl (bt b i)] : List fr_V) = [.inr (.inl 42), .inl (fr_and ((fr_lushr b (8 * i)).toInt32.toInt) 255)] by rw [hb]) rfl rfl
    repeat' (first | (refine And.intro (by first | omega | (simp (disch := decide) only [up_n, up_s, cp_n, if_true, if_false, ite_true, ite_false, reduceIte, not_true_eq_false, not_false_eq_true]; omega)) ?_) | (refine And.intro (fun hc => ?_) (fun hc => ?_) <;> (try (simp (disch := decide) only [up_n, up_s, cp_n, if_true, if_false, ite_true, ite_false, reduceIte, not_true_eq_false, not_false_eq_true] at hc)) <;> (try (exfalso; omega))) | (refine fun (hc : ¬ _) => ?_; try (simp (disch := decide) only [up_n, up_s, cp_n, if_true, if_false, ite_true, ite_false, reduceIte, not_true_eq_false, not_false_eq_true] at hc)) | (refine fun (hc : _ = _) => ?_; try (simp (disch := decide) only [up_n, up_s, cp_n, if_true, if_false, ite_true, ite_false, reduceIte, not_true_eq_false, not_false_eq_true] at hc)))
    refine ih (i + -1) _ (by omega) (by omega) ?_
    have e : n - 1 - (i + -1) = n - 1 - i + 1 := by omega
    rw [e]
    exact hst
def DI (b : Int64) (n s : Int) (M M' : fr_M) (m : Int) : Prop := M' 75 17 = s + m ∧ (∀ j, 0 ≤ j → j < m → M' 87 (s + j) = bt b (n - 1 - j)) ∧ (∀ j, 0 ≤ j → j < s → M' 87 j = M 87 j) ∧ (∀ k j, k ≠ 87 → ¬ (k = 75 ∧ j = 17) → M' k j = M k j)
theorem DI.step {b : Int64} {n s m i : Int} {M M' : fr_M} (h : DI b n s M M' m) (hm : 0 ≤ m) (hs : 0 ≤ s) (hi : i = n - 1 - m) : DI b n s M (fr_up (fr_up M' 87 (M' 75 17) (bt b i)) 75 17 (fr_up M' 87 (M' 75 17) (bt b i) 75 17 + 1)) (m + 1) := by
  obtain ⟨h1, h2, h3, h4⟩ := h
  refine ⟨?_, fun j q0 q1 => ?_, fun j q0 q1 => ?_, fun k j q0 q1 => ?_⟩
  · rw [up_s, if_pos rfl, up_n (by decide)]
    omega
  · rw [up_n (by decide), up_s]
    by_cases e : j = m
    · subst e
      rw [if_pos (by omega), hi]
    · rw [if_neg (by omega)]
      exact h2 j q0 (by omega)
  · rw [up_n (by decide), up_s, if_neg (by omega)]
    exact h3 j q0 q1
  · by_cases e : k = 75
    · subst e
      rw [up_s, if_neg (fun z => q1 ⟨rfl, z⟩), up_n q0]
      exact h4 _ j q0 q1
    · rw [up_n e, up_n q0]
      exact h4 k j q0 q1
set_option maxHeartbeats 4000000 in
set_option maxRecDepth 100000 in
theorem m_say_l {M : fr_M} {b : Int64} {n s : Int} {Q : Option fr_V → fr_H → fr_M → Prop} (hn : 1 ≤ n ∧ n ≤ 8) (hs : 0 ≤ s ∧ s + n ≤ 200) (h : ∀ M', DI b n s M M' n → Q (some (.inl (s + n))) sh0 M') : ∀ (t : Nat) (i : Int) (M' : fr_M), i + 1 = t → i < n → DI b n s M M' (n - 1 - i) → fr_Run 190 none 19 [some (.inr (.inl 75)), some (.inr (.inr (.inl b))), none, some (.inl n), some (.inl i)] [] sh0 M' 0 0 Q := by
  intro t
  induction t with
  | zero =>
    intro i M' h0 h1 h2
    have e : i = -1 := by omega
    subst e
    have h2 : DI b n s M M' n := by
      have e : n - 1 - (-1) = n := by omega
      rw [e] at h2
      exact h2
    have hq := h M' h2
    rw [← h2.1] at hq
    refine fr_go k190 [19] 400 rfl ?_
    repeat' (first | (refine And.intro (by first | omega | (simp (disch := decide) only [up_n, up_s, cp_n, if_true, if_false, ite_true, ite_false, reduceIte, not_true_eq_false, not_false_eq_true]; omega)) ?_) | (refine And.intro (fun hc => ?_) (fun hc => ?_) <;> (try (simp (disch := decide) only [up_n, up_s, cp_n, if_true, if_false, ite_true, ite_false, reduceIte, not_true_eq_false, not_false_eq_true] at hc)) <;> (try (exfalso; omega))) | (refine fun (hc : ¬ _) => ?_; try (simp (disch := decide) only [up_n, up_s, cp_n, if_true, if_false, ite_true, ite_false, reduceIte, not_true_eq_false, not_false_eq_true] at hc)) | (refine fun (hc : _ = _) => ?_; try (simp (disch := decide) only [up_n, up_s, cp_n, if_true, if_false, ite_true, ite_false, reduceIte, not_true_eq_false, not_false_eq_true] at hc)))
    all_goals first | (exfalso; omega) | exact hq
  | succ t ih =>
    intro i M' h0 h1 h2
    have hl := h2.1
    have hst := h2.step (i := i) (by omega) hs.1 (by omega)
    refine fr_go k190 [19] 400 rfl ?_
    repeat' (first | (refine And.intro (by first | omega | (simp (disch := decide) only [up_n, up_s, cp_n, if_true, if_false, ite_true, ite_false, reduceIte, not_true_eq_false, not_false_eq_true]; omega)) ?_) | (refine And.intro (fun hc => ?_) (fun hc => ?_) <;> (try (simp (disch := decide) only [up_n, up_s, cp_n, if_true, if_false, ite_true, ite_false, reduceIte, not_true_eq_false, not_false_eq_true] at hc)) <;> (try (exfalso; omega))) | (refine fun (hc : ¬ _) => ?_; try (simp (disch := decide) only [up_n, up_s, cp_n, if_true, if_false, ite_true, ite_false, reduceIte, not_true_eq_false, not_false_eq_true] at hc)) | (refine fun (hc : _ = _) => ?_; try (simp (disch := decide) only [up_n, up_s, cp_n, if_true, if_false, ite_true, ite_false, reduceIte, not_true_eq_false, not_false_eq_true] at hc)))
    all_goals first | (exfalso; omega) | skip
    refine ih (i + -1) _ (by omega) (by omega) ?_
    have e : n - 1 - (i + -1) = n - 1 - i + 1 := by omega
    rw [e]
    exact hst
