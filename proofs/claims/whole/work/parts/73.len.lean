set_option maxHeartbeats 4000000 in
set_option maxRecDepth 100000 in
theorem c_reach {M : fr_M} {s : Int} {Q : Option fr_V → fr_H → fr_M → Prop} (hs : 0 ≤ s ∧ s < 80) (ht : 0 ≤ M 34 s ∧ M 34 s < 40) (hin : fr_in (M 32 (M 34 s) - M 35 s)) (h : Q (some (.inl (M 32 (M 34 s) - M 35 s))) sh0 M) : fr_Call 34 [.inr (.inl 29), .inl s] sh0 M Q := by
  refine fr_cgo k34 [some (.inr (.inl 29)), some (.inl s)] 0 0 [] 400 rfl rfl rfl rfl ?_
  repeat' (first | (refine And.intro (by first | omega | (simp (disch := decide) only [up_n, up_s, cp_n, rw_n, rw_s, up1_, if_true, if_false, ite_true, ite_false, reduceIte, eq_self, Int.reduceEq, true_and, and_true, not_true_eq_false, not_false_eq_true]; omega)) ?_) | (refine And.intro (fun hc => ?_) (fun hc => ?_) <;> (try (simp (disch := decide) only [up_n, up_s, cp_n, rw_n, rw_s, up1_, if_true, if_false, ite_true, ite_false, reduceIte, eq_self, Int.reduceEq, true_and, and_true, not_true_eq_false, not_false_eq_true] at hc)) <;> (try (exfalso; omega))) | (refine fun (hc : ¬ _) => ?_; try (simp (disch := decide) only [up_n, up_s, cp_n, rw_n, rw_s, up1_, if_true, if_false, ite_true, ite_false, reduceIte, eq_self, Int.reduceEq, true_and, and_true, not_true_eq_false, not_false_eq_true] at hc)) | (refine fun (hc : _ = _) => ?_; try (simp (disch := decide) only [up_n, up_s, cp_n, rw_n, rw_s, up1_, if_true, if_false, ite_true, ite_false, reduceIte, eq_self, Int.reduceEq, true_and, and_true, not_true_eq_false, not_false_eq_true] at hc)))
  exact h
theorem lgT_s {p : fr_M} {t : Nat} {s : Int} : lgT p (t + 1) s = if (0 ≤ s ∧ s < 2 * p 75 4) ∧ grow p (lgT p t) s then 1 else lgT p t s := rfl
theorem tnT_s {p : fr_M} {t : Nat} {s : Int} : tnT p (t + 1) s = if (0 ≤ s ∧ s < 2 * p 75 4) ∧ grow p (lgT p t) s then (t : Int) + 1 else tnT p t s := rfl
theorem lg_01 {p : fr_M} : ∀ {t : Nat} {s : Int}, lgT p t s = 0 ∨ lgT p t s = 1
  | 0, s => Or.inl rfl
  | t + 1, s => by
    rw [lgT_s]
    split
    · exact Or.inr rfl
    · exact lg_01
theorem tn_b {p : fr_M} : ∀ {t : Nat} {s : Int}, 0 ≤ tnT p t s ∧ tnT p t s ≤ (t : Int)
  | 0, s => by simp [tnT]
  | t + 1, s => by
    have ih := tn_b (p := p) (t := t) (s := s)
    rw [tnT_s]
    split <;> omega
/-- behind slot s of a TURN -/
def LN (p : fr_M) (t : Nat) (s z : Int) (g36 g38 : Int → Int) : Prop := (∀ s', 0 ≤ s' → s' < 2 * p 75 4 → g36 s' = if s' < s then lgT p (t + 1) s' else lgT p t s') ∧ (∀ b, 0 ≤ b → b < p 75 4 → g38 b = max (if 2 * b < s then tnT p (t + 1) (2 * b) else tnT p t (2 * b)) (if 2 * b + 1 < s then tnT p (t + 1) (2 * b + 1) else tnT p t (2 * b + 1))) ∧ (z = 0 ∨ z = 1) ∧ (z = 1 → ∃ s', 0 ≤ s' ∧ s' < s ∧ grow p (lgT p t) s') ∧ (z = 0 → ∀ s', 0 ≤ s' → s' < s → ¬ grow p (lgT p t) s')
theorem LN.yes {p : fr_M} {t : Nat} {s z : Int} {g36 g38 : Int → Int} (h : LN p t s z g36 g38) (hs : 0 ≤ s ∧ s < 2 * p 75 4) (hg : grow p (lgT p t) s) : LN p t (s + 1) 1 (up1 g36 s 1) (up1 g38 (s / 2) ((t : Int) + 1)) := by
  obtain ⟨a1, a2, a3, a4, a5⟩ := h
  have el : lgT p (t + 1) s = 1 := by
    rw [lgT_s, if_pos ⟨hs, hg⟩]
  have et : tnT p (t + 1) s = (t : Int) + 1 := by
    rw [tnT_s, if_pos ⟨hs, hg⟩]
  refine ⟨fun s' q0 q1 => ?_, fun b q0 q1 => ?_, Or.inr rfl, fun _ => ⟨s, hs.1, by omega, hg⟩, fun q => by omega⟩
  · rw [up1_]
    by_cases e : s' = s
    · rw [if_pos e, if_pos (by omega), e, el]
    · rw [if_neg e, a1 s' q0 q1]
      by_cases e2 : s' < s
      · rw [if_pos e2, if_pos (by omega)]
      · rw [if_neg e2, if_neg (by omega)]
  · rw [up1_]
    clear a4 a5 hg a1
    have b1 := tn_b (p := p) (t := t + 1) (s := 2 * b)
    have b2 := tn_b (p := p) (t := t) (s := 2 * b + 1)
    have b3 := tn_b (p := p) (t := t + 1) (s := 2 * b + 1)
    have b4 := tn_b (p := p) (t := t) (s := 2 * b)
    by_cases e : b = s / 2
    · rw [if_pos e]
      by_cases e2 : s = 2 * b
      · have et' : tnT p (t + 1) (2 * b) = (t : Int) + 1 := by rw [← e2]; exact et
        rw [if_pos (by omega), if_neg (by omega), et']
        omega
      · have e3 : s = 2 * b + 1 := by omega
        have et' : tnT p (t + 1) (2 * b + 1) = (t : Int) + 1 := by rw [← e3]; exact et
        rw [if_pos (by omega), if_pos (by omega), et']
        omega
    · rw [if_neg e, a2 b q0 q1]
      by_cases e2 : 2 * b < s
      · rw [if_pos e2, if_pos (show 2 * b < s + 1 by omega), if_pos (show 2 * b + 1 < s by omega), if_pos (show 2 * b + 1 < s + 1 by omega)]
      · rw [if_neg e2, if_neg (show ¬ 2 * b < s + 1 by omega), if_neg (show ¬ 2 * b + 1 < s by omega), if_neg (show ¬ 2 * b + 1 < s + 1 by omega)]
theorem LN.no {p : fr_M} {t : Nat} {s z : Int} {g36 g38 : Int → Int} (h : LN p t s z g36 g38) (hs : 0 ≤ s ∧ s < 2 * p 75 4) (hg : ¬ grow p (lgT p t) s) : LN p t (s + 1) z g36 g38 := by
  obtain ⟨a1, a2, a3, a4, a5⟩ := h
  have el : lgT p (t + 1) s = lgT p t s := by
    rw [lgT_s, if_neg (fun q => hg q.2)]
  have et : tnT p (t + 1) s = tnT p t s := by
    rw [tnT_s, if_neg (fun q => hg q.2)]
  refine ⟨fun s' q0 q1 => ?_, fun b q0 q1 => ?_, a3, fun q => ?_, fun q s' q0 q1 => ?_⟩
  · rw [a1 s' q0 q1]
    by_cases e : s' = s
    · rw [if_neg (by omega), if_pos (by omega), e, el]
    · by_cases e2 : s' < s
      · rw [if_pos e2, if_pos (by omega)]
      · rw [if_neg e2, if_neg (by omega)]
  · rw [a2 b q0 q1]
    congr 1
    · by_cases e : 2 * b = s
      · rw [if_neg (by omega), if_pos (by omega), e, et]
      · by_cases e2 : 2 * b < s
        · rw [if_pos e2, if_pos (by omega)]
        · rw [if_neg e2, if_neg (by omega)]
    · by_cases e : 2 * b + 1 = s
      · rw [if_neg (by omega), if_pos (by omega), e, et]
      · by_cases e2 : 2 * b + 1 < s
        · rw [if_pos e2, if_pos (by omega)]
        · rw [if_neg e2, if_neg (by omega)]
  · obtain ⟨s', x1, x2, x3⟩ := a4 q
    exact ⟨s', x1, by omega, x3⟩
  · by_cases e : s' = s
    · rw [e]; exact hg
    · exact a5 q s' q0 (by omega)
