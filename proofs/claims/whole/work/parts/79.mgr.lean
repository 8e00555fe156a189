def GZ (p : fr_M) (lg : Int → Int) (s z : Int) (g : Int → Int) : Prop := (∀ s', 0 ≤ s' → s' < s → g s' = if grow p lg s' then 1 else 0) ∧ (z = 0 ∨ z = 1) ∧ (z = 1 → ∃ s', 0 ≤ s' ∧ s' < s ∧ grow p lg s') ∧ (z = 0 → ∀ s', 0 ≤ s' → s' < s → ¬ grow p lg s')
theorem GZ.yes {p : fr_M} {lg : Int → Int} {s z : Int} {g : Int → Int} (h : GZ p lg s z g) (hs : 0 ≤ s) (hg : grow p lg s) : GZ p lg (s + 1) 1 (up1 g s 1) := by
  obtain ⟨a1, a2, a3, a4⟩ := h
  refine ⟨fun s' q0 q1 => ?_, Or.inr rfl, fun _ => ⟨s, hs, by omega, hg⟩, fun q => by omega⟩
  rw [up1_]
  by_cases e : s' = s
  · rw [if_pos e, e, if_pos hg]
  · rw [if_neg e]
    exact a1 s' q0 (by omega)
theorem GZ.no {p : fr_M} {lg : Int → Int} {s z : Int} {g : Int → Int} (h : GZ p lg s z g) (hs : 0 ≤ s) (hg : ¬ grow p lg s) : GZ p lg (s + 1) z (up1 g s 0) := by
  obtain ⟨a1, a2, a3, a4⟩ := h
  refine ⟨fun s' q0 q1 => ?_, a2, fun q => ?_, fun q s' q0 q1 => ?_⟩
  · rw [up1_]
    by_cases e : s' = s
    · rw [if_pos e, e, if_neg hg]
    · rw [if_neg e]
      exact a1 s' q0 (by omega)
  · obtain ⟨s', x1, x2, x3⟩ := a3 q
    exact ⟨s', x1, by omega, x3⟩
  · by_cases e : s' = s
    · rw [e]; exact hg
    · exact a4 q s' q0 (by omega)
set_option maxHeartbeats 4000000 in
set_option maxRecDepth 100000 in
theorem m_gs1 {M p : fr_M} {lg : Int → Int} {Q : Option fr_V → fr_H → fr_M → Prop} (hp : pg M = p) (hw : WF p) (h101 : ∀ s, 0 ≤ s → s < 2 * p 75 4 → M 101 s = nn (tg p s)) (h102 : ∀ s, 0 ≤ s → s < 2 * p 75 4 → M 102 s = lg s ∧ (lg s = 0 ∨ lg s = 1)) (h98 : ∀ b, 0 ≤ b → b < p 75 4 → M 98 b = ad p lg b) (h104 : ∀ s, 0 ≤ s → s < 2 * p 75 4 → tg p s ≠ -1 → M 104 s = jb p lg s) (h : ∀ z g x3 x4, GZ p lg (2 * p 75 4) z g → fr_Run 181 none 69 [some (.inr (.inl 75)), some (.inl z), some (.inl (2 * p 75 4)), x3, x4] [] sh0 (rw_ M 105 g) 0 0 Q) : ∀ (n : Nat) (s z : Int) (g : Int → Int) (x3 x4 : Option fr_V), 0 ≤ s → s + n = 2 * p 75 4 → GZ p lg s z g → fr_Run 181 none 4 [some (.inr (.inl 75)), some (.inl z), some (.inl s), x3, x4] [] sh0 (rw_ M 105 g) 0 0 Q := by
  have h40 := hw.1.1
  have hc4 : p 75 4 = M 75 4 := by rw [← hp]; rfl
  intro n
  induction n with
  | zero =>
    intro s z g x3 x4 q0 q1 q2
    have e : s = 2 * p 75 4 := by omega
    subst e
    have hh := h z g x3 x4 q2
    clear h h101 h102 h98 h104
    refine fr_go k181 [4, 69] 400 rfl ?_
    repeat' (first | (refine And.intro (by first | omega | (simp (disch := decide) only [up_n, up_s, cp_n, rw_n, rw_s, up1_, if_true, if_false, ite_true, ite_false, reduceIte, eq_self, Int.reduceEq, true_and, and_true, not_true_eq_false, not_false_eq_true]; omega)) ?_) | (refine And.intro (fun hc => ?_) (fun hc => ?_) <;> (try (simp (disch := decide) only [up_n, up_s, cp_n, rw_n, rw_s, up1_, if_true, if_false, ite_true, ite_false, reduceIte, eq_self, Int.reduceEq, true_and, and_true, not_true_eq_false, not_false_eq_true] at hc)) <;> (try (exfalso; omega))) | (refine fun (hc : ¬ _) => ?_; try (simp (disch := decide) only [up_n, up_s, cp_n, rw_n, rw_s, up1_, if_true, if_false, ite_true, ite_false, reduceIte, eq_self, Int.reduceEq, true_and, and_true, not_true_eq_false, not_false_eq_true] at hc)) | (refine fun (hc : _ = _) => ?_; try (simp (disch := decide) only [up_n, up_s, cp_n, rw_n, rw_s, up1_, if_true, if_false, ite_true, ite_false, reduceIte, eq_self, Int.reduceEq, true_and, and_true, not_true_eq_false, not_false_eq_true] at hc)))
    all_goals first | (exfalso; omega) | exact hh
  | succ n ih =>
    intro s z g x3 x4 q0 q1 q2
    have hs : 0 ≤ s ∧ s < 2 * p 75 4 := by omega
    have e101 := h101 s hs.1 hs.2
    have e102 := h102 s hs.1 hs.2
    have hz := q2.2.1
    by_cases htg : tg p s = -1
    · have hh := fun x3 x4 => ih (s + 1) z _ x3 x4 (by omega) (by omega) (q2.no hs.1 (fun q => q.1 htg))
      rw [htg, show nn (-1) = -9 from rfl] at e101
      clear ih h h101 h102 h98 h104 q2
      rcases hz with rfl | rfl
      · refine fr_go k181 [4] 400 rfl ?_
        repeat' (first | (refine And.intro (by first | omega | (simp (disch := decide) only [up_n, up_s, cp_n, rw_n, rw_s, up1_, if_true, if_false, ite_true, ite_false, reduceIte, eq_self, Int.reduceEq, true_and, and_true, not_true_eq_false, not_false_eq_true]; omega)) ?_) | (refine And.intro (fun hc => ?_) (fun hc => ?_) <;> (try (simp (disch := decide) only [up_n, up_s, cp_n, rw_n, rw_s, up1_, if_true, if_false, ite_true, ite_false, reduceIte, eq_self, Int.reduceEq, true_and, and_true, not_true_eq_false, not_false_eq_true] at hc)) <;> (try (exfalso; omega))) | (refine fun (hc : ¬ _) => ?_; try (simp (disch := decide) only [up_n, up_s, cp_n, rw_n, rw_s, up1_, if_true, if_false, ite_true, ite_false, reduceIte, eq_self, Int.reduceEq, true_and, and_true, not_true_eq_false, not_false_eq_true] at hc)) | (refine fun (hc : _ = _) => ?_; try (simp (disch := decide) only [up_n, up_s, cp_n, rw_n, rw_s, up1_, if_true, if_false, ite_true, ite_false, reduceIte, eq_self, Int.reduceEq, true_and, and_true, not_true_eq_false, not_false_eq_true] at hc)))
        all_goals first | (exfalso; omega) | (exfalso; simp (disch := decide) only [up_n, up_s, cp_n, rw_n, rw_s, up1_, if_true, if_false, ite_true, ite_false, reduceIte, eq_self, Int.reduceEq, true_and, and_true, not_true_eq_false, not_false_eq_true] at *; omega) | skip
        all_goals (simp (disch := decide) only [up_rw, rw_u, up_up, rw_rw, rw_cm]; exact hh _ _)
      · refine fr_go k181 [4] 400 rfl ?_
        repeat' (first | (refine And.intro (by first | omega | (simp (disch := decide) only [up_n, up_s, cp_n, rw_n, rw_s, up1_, if_true, if_false, ite_true, ite_false, reduceIte, eq_self, Int.reduceEq, true_and, and_true, not_true_eq_false, not_false_eq_true]; omega)) ?_) | (refine And.intro (fun hc => ?_) (fun hc => ?_) <;> (try (simp (disch := decide) only [up_n, up_s, cp_n, rw_n, rw_s, up1_, if_true, if_false, ite_true, ite_false, reduceIte, eq_self, Int.reduceEq, true_and, and_true, not_true_eq_false, not_false_eq_true] at hc)) <;> (try (exfalso; omega))) | (refine fun (hc : ¬ _) => ?_; try (simp (disch := decide) only [up_n, up_s, cp_n, rw_n, rw_s, up1_, if_true, if_false, ite_true, ite_false, reduceIte, eq_self, Int.reduceEq, true_and, and_true, not_true_eq_false, not_false_eq_true] at hc)) | (refine fun (hc : _ = _) => ?_; try (simp (disch := decide) only [up_n, up_s, cp_n, rw_n, rw_s, up1_, if_true, if_false, ite_true, ite_false, reduceIte, eq_self, Int.reduceEq, true_and, and_true, not_true_eq_false, not_false_eq_true] at hc)))
        all_goals first | (exfalso; omega) | (exfalso; simp (disch := decide) only [up_n, up_s, cp_n, rw_n, rw_s, up1_, if_true, if_false, ite_true, ite_false, reduceIte, eq_self, Int.reduceEq, true_and, and_true, not_true_eq_false, not_false_eq_true] at *; omega) | skip
        all_goals (simp (disch := decide) only [up_rw, rw_u, up_up, rw_rw, rw_cm]; exact hh _ _)
    · have hr := (tg_rng hw hs).resolve_left htg
      have e98 := h98 (tg p s) hr.1 hr.2
      have e104 := h104 s hs.1 hs.2 htg
      have b1 := (ad_b hw (lg := lg) hr).1
      have b2 := jb_b hw (lg := lg) hs
      have en : nn (tg p s) = tg p s := by
        unfold nn
        rw [if_neg htg]
      rw [en] at e101
      have er2 : M 98 (M 101 s) = ad p lg (tg p s) := by
        rw [e101]
        exact e98
      by_cases hg : grow p lg s
      · have hh := fun x3 x4 => ih (s + 1) 1 _ x3 x4 (by omega) (by omega) (q2.yes hs.1 hg)
        have hg2 := hg.2.1
        have hg3 := hg.2.2
        clear ih h h101 h102 h98 h104 q2 hg
        rcases hz with rfl | rfl
        · refine fr_go k181 [4] 400 rfl ?_
          repeat' (first | (refine And.intro (by first | omega | (simp (disch := decide) only [up_n, up_s, cp_n, rw_n, rw_s, up1_, if_true, if_false, ite_true, ite_false, reduceIte, eq_self, Int.reduceEq, true_and, and_true, not_true_eq_false, not_false_eq_true]; omega)) ?_) | (refine m_in (fun hc => ?_) (fun hc => ?_) <;> (try (simp (disch := decide) only [up_n, up_s, cp_n, rw_n, rw_s, up1_, if_true, if_false, ite_true, ite_false, reduceIte, eq_self, Int.reduceEq, true_and, and_true, not_true_eq_false, not_false_eq_true] at hc))) | (refine And.intro (fun hc => ?_) (fun hc => ?_) <;> (try (simp (disch := decide) only [up_n, up_s, cp_n, rw_n, rw_s, up1_, if_true, if_false, ite_true, ite_false, reduceIte, eq_self, Int.reduceEq, true_and, and_true, not_true_eq_false, not_false_eq_true] at hc)) <;> (try (exfalso; omega))) | (refine fun (hc : ¬ _) => ?_; try (simp (disch := decide) only [up_n, up_s, cp_n, rw_n, rw_s, up1_, if_true, if_false, ite_true, ite_false, reduceIte, eq_self, Int.reduceEq, true_and, and_true, not_true_eq_false, not_false_eq_true] at hc)) | (refine fun (hc : _ = _) => ?_; try (simp (disch := decide) only [up_n, up_s, cp_n, rw_n, rw_s, up1_, if_true, if_false, ite_true, ite_false, reduceIte, eq_self, Int.reduceEq, true_and, and_true, not_true_eq_false, not_false_eq_true] at hc)))
          all_goals first | (exfalso; omega) | (exfalso; simp (disch := decide) only [up_n, up_s, cp_n, rw_n, rw_s, up1_, if_true, if_false, ite_true, ite_false, reduceIte, eq_self, Int.reduceEq, true_and, and_true, not_true_eq_false, not_false_eq_true] at *; omega) | skip
          all_goals (simp (disch := decide) only [up_rw, rw_u, up_up, rw_rw, rw_cm]; exact hh _ _)
        · refine fr_go k181 [4] 400 rfl ?_
          repeat' (first | (refine And.intro (by first | omega | (simp (disch := decide) only [up_n, up_s, cp_n, rw_n, rw_s, up1_, if_true, if_false, ite_true, ite_false, reduceIte, eq_self, Int.reduceEq, true_and, and_true, not_true_eq_false, not_false_eq_true]; omega)) ?_) | (refine m_in (fun hc => ?_) (fun hc => ?_) <;> (try (simp (disch := decide) only [up_n, up_s, cp_n, rw_n, rw_s, up1_, if_true, if_false, ite_true, ite_false, reduceIte, eq_self, Int.reduceEq, true_and, and_true, not_true_eq_false, not_false_eq_true] at hc))) | (refine And.intro (fun hc => ?_) (fun hc => ?_) <;> (try (simp (disch := decide) only [up_n, up_s, cp_n, rw_n, rw_s, up1_, if_true, if_false, ite_true, ite_false, reduceIte, eq_self, Int.reduceEq, true_and, and_true, not_true_eq_false, not_false_eq_true] at hc)) <;> (try (exfalso; omega))) | (refine fun (hc : ¬ _) => ?_; try (simp (disch := decide) only [up_n, up_s, cp_n, rw_n, rw_s, up1_, if_true, if_false, ite_true, ite_false, reduceIte, eq_self, Int.reduceEq, true_and, and_true, not_true_eq_false, not_false_eq_true] at hc)) | (refine fun (hc : _ = _) => ?_; try (simp (disch := decide) only [up_n, up_s, cp_n, rw_n, rw_s, up1_, if_true, if_false, ite_true, ite_false, reduceIte, eq_self, Int.reduceEq, true_and, and_true, not_true_eq_false, not_false_eq_true] at hc)))
          all_goals first | (exfalso; omega) | (exfalso; simp (disch := decide) only [up_n, up_s, cp_n, rw_n, rw_s, up1_, if_true, if_false, ite_true, ite_false, reduceIte, eq_self, Int.reduceEq, true_and, and_true, not_true_eq_false, not_false_eq_true] at *; omega) | skip
          all_goals (simp (disch := decide) only [up_rw, rw_u, up_up, rw_rw, rw_cm]; exact hh _ _)
      · have hh := fun x3 x4 => ih (s + 1) z _ x3 x4 (by omega) (by omega) (q2.no hs.1 hg)
        have hg3 : lg s = 0 → -128 ≤ ad p lg (tg p s) - jb p lg s ∧ ad p lg (tg p s) - jb p lg s ≤ 127 := by
          intro q
          apply Classical.byContradiction
          intro q2
          exact hg ⟨htg, q, q2⟩
        clear ih h h101 h102 h98 h104 q2 hg
        rcases hz with rfl | rfl
        · refine fr_go k181 [4] 400 rfl ?_
          repeat' (first | (refine And.intro (by first | omega | (simp (disch := decide) only [up_n, up_s, cp_n, rw_n, rw_s, up1_, if_true, if_false, ite_true, ite_false, reduceIte, eq_self, Int.reduceEq, true_and, and_true, not_true_eq_false, not_false_eq_true]; omega)) ?_) | (refine m_in (fun hc => ?_) (fun hc => ?_) <;> (try (simp (disch := decide) only [up_n, up_s, cp_n, rw_n, rw_s, up1_, if_true, if_false, ite_true, ite_false, reduceIte, eq_self, Int.reduceEq, true_and, and_true, not_true_eq_false, not_false_eq_true] at hc))) | (refine And.intro (fun hc => ?_) (fun hc => ?_) <;> (try (simp (disch := decide) only [up_n, up_s, cp_n, rw_n, rw_s, up1_, if_true, if_false, ite_true, ite_false, reduceIte, eq_self, Int.reduceEq, true_and, and_true, not_true_eq_false, not_false_eq_true] at hc)) <;> (try (exfalso; omega))) | (refine fun (hc : ¬ _) => ?_; try (simp (disch := decide) only [up_n, up_s, cp_n, rw_n, rw_s, up1_, if_true, if_false, ite_true, ite_false, reduceIte, eq_self, Int.reduceEq, true_and, and_true, not_true_eq_false, not_false_eq_true] at hc)) | (refine fun (hc : _ = _) => ?_; try (simp (disch := decide) only [up_n, up_s, cp_n, rw_n, rw_s, up1_, if_true, if_false, ite_true, ite_false, reduceIte, eq_self, Int.reduceEq, true_and, and_true, not_true_eq_false, not_false_eq_true] at hc)))
          all_goals first | (exfalso; omega) | (exfalso; simp (disch := decide) only [up_n, up_s, cp_n, rw_n, rw_s, up1_, if_true, if_false, ite_true, ite_false, reduceIte, eq_self, Int.reduceEq, true_and, and_true, not_true_eq_false, not_false_eq_true] at *; omega) | skip
          all_goals (simp (disch := decide) only [up_rw, rw_u, up_up, rw_rw, rw_cm]; exact hh _ _)
        · refine fr_go k181 [4] 400 rfl ?_
          repeat' (first | (refine And.intro (by first | omega | (simp (disch := decide) only [up_n, up_s, cp_n, rw_n, rw_s, up1_, if_true, if_false, ite_true, ite_false, reduceIte, eq_self, Int.reduceEq, true_and, and_true, not_true_eq_false, not_false_eq_true]; omega)) ?_) | (refine m_in (fun hc => ?_) (fun hc => ?_) <;> (try (simp (disch := decide) only [up_n, up_s, cp_n, rw_n, rw_s, up1_, if_true, if_false, ite_true, ite_false, reduceIte, eq_self, Int.reduceEq, true_and, and_true, not_true_eq_false, not_false_eq_true] at hc))) | (refine And.intro (fun hc => ?_) (fun hc => ?_) <;> (try (simp (disch := decide) only [up_n, up_s, cp_n, rw_n, rw_s, up1_, if_true, if_false, ite_true, ite_false, reduceIte, eq_self, Int.reduceEq, true_and, and_true, not_true_eq_false, not_false_eq_true] at hc)) <;> (try (exfalso; omega))) | (refine fun (hc : ¬ _) => ?_; try (simp (disch := decide) only [up_n, up_s, cp_n, rw_n, rw_s, up1_, if_true, if_false, ite_true, ite_false, reduceIte, eq_self, Int.reduceEq, true_and, and_true, not_true_eq_false, not_false_eq_true] at hc)) | (refine fun (hc : _ = _) => ?_; try (simp (disch := decide) only [up_n, up_s, cp_n, rw_n, rw_s, up1_, if_true, if_false, ite_true, ite_false, reduceIte, eq_self, Int.reduceEq, true_and, and_true, not_true_eq_false, not_false_eq_true] at hc)))
          all_goals first | (exfalso; omega) | (exfalso; simp (disch := decide) only [up_n, up_s, cp_n, rw_n, rw_s, up1_, if_true, if_false, ite_true, ite_false, reduceIte, eq_self, Int.reduceEq, true_and, and_true, not_true_eq_false, not_false_eq_true] at *; omega) | skip
          all_goals (simp (disch := decide) only [up_rw, rw_u, up_up, rw_rw, rw_cm]; exact hh _ _)
def MX (p : fr_M) (t : Nat) (s : Int) (g102 g103 : Int → Int) : Prop := ∀ s', 0 ≤ s' → s' < 2 * p 75 4 → g102 s' = (if s' < s then lgT p (t + 1) s' else lgT p t s') ∧ g103 s' = (if s' < s then tnT p (t + 1) s' else tnT p t s')
theorem MX.yes {p : fr_M} {t : Nat} {s : Int} {g102 g103 : Int → Int} (h : MX p t s g102 g103) (hs : 0 ≤ s ∧ s < 2 * p 75 4) (hg : grow p (lgT p t) s) : MX p t (s + 1) (up1 g102 s 1) (up1 g103 s ((t : Int) + 1)) := by
  intro s' q0 q1
  rw [up1_, up1_]
  by_cases e : s' = s
  · rw [if_pos e, if_pos e, if_pos (by omega), if_pos (by omega), e, lgT_s, if_pos ⟨hs, hg⟩, tnT_s, if_pos ⟨hs, hg⟩]
    exact ⟨rfl, rfl⟩
  · have := h s' q0 q1
    rw [if_neg e, if_neg e]
    by_cases e2 : s' < s
    · rw [if_pos (show s' < s + 1 by omega), if_pos (show s' < s + 1 by omega)]
      rw [if_pos e2, if_pos e2] at this
      exact this
    · rw [if_neg (show ¬ s' < s + 1 by omega), if_neg (show ¬ s' < s + 1 by omega)]
      rw [if_neg e2, if_neg e2] at this
      exact this
theorem MX.no {p : fr_M} {t : Nat} {s : Int} {g102 g103 : Int → Int} (h : MX p t s g102 g103) (hg : ¬ grow p (lgT p t) s) : MX p t (s + 1) g102 g103 := by
  intro s' q0 q1
  have := h s' q0 q1
  by_cases e : s' = s
  · rw [if_neg (by omega), if_neg (by omega)] at this
    rw [if_pos (by omega), if_pos (by omega), lgT_s, if_neg (fun q => hg (e ▸ q.2)), tnT_s, if_neg (fun q => hg (e ▸ q.2))]
    exact this
  · by_cases e2 : s' < s
    · rw [if_pos (show s' < s + 1 by omega), if_pos (show s' < s + 1 by omega)]
      rw [if_pos e2, if_pos e2] at this
      exact this
    · rw [if_neg (show ¬ s' < s + 1 by omega), if_neg (show ¬ s' < s + 1 by omega)]
      rw [if_neg e2, if_neg e2] at this
      exact this
set_option maxHeartbeats 4000000 in
set_option maxRecDepth 100000 in
theorem m_gs2 {M p : fr_M} {t : Nat} {z : Int} {x3 x4 : Option fr_V} {Q : Option fr_V → fr_H → fr_M → Prop} (hp : pg M = p) (hw : WF p) (hz : z = 0 ∨ z = 1) (hg : ∀ s, 0 ≤ s → s < 2 * p 75 4 → M 105 s = if grow p (lgT p t) s then 1 else 0) (h37 : (∃ s, 0 ≤ s ∧ s < 2 * p 75 4 ∧ grow p (lgT p t) s) → M 75 37 = (t : Int) + 1) (h : ∀ g102 g103, MX p t (2 * p 75 4) g102 g103 → Q (some (.inl z)) sh0 (rw_ (rw_ M 102 g102) 103 g103)) : ∀ (n : Nat) (s : Int) (g102 g103 : Int → Int), 0 ≤ s → s + n = 2 * p 75 4 → MX p t s g102 g103 → fr_Run 181 none 81 [some (.inr (.inl 75)), some (.inl z), some (.inl s), x3, x4] [] sh0 (rw_ (rw_ M 102 g102) 103 g103) 0 0 Q := by
  have h40 := hw.1.1
  have hc4 : p 75 4 = M 75 4 := by rw [← hp]; rfl
  intro n
  induction n with
  | zero =>
    intro s g102 g103 q0 q1 q2
    have e : s = 2 * p 75 4 := by omega
    subst e
    have hh := h g102 g103 q2
    clear h hg h37
    refine fr_go k181 [81] 400 rfl ?_
    repeat' (first | (refine And.intro (by first | omega | (simp (disch := decide) only [up_n, up_s, cp_n, rw_n, rw_s, up1_, if_true, if_false, ite_true, ite_false, reduceIte, eq_self, Int.reduceEq, true_and, and_true, not_true_eq_false, not_false_eq_true]; omega)) ?_) | (refine And.intro (fun hc => ?_) (fun hc => ?_) <;> (try (simp (disch := decide) only [up_n, up_s, cp_n, rw_n, rw_s, up1_, if_true, if_false, ite_true, ite_false, reduceIte, eq_self, Int.reduceEq, true_and, and_true, not_true_eq_false, not_false_eq_true] at hc)) <;> (try (exfalso; omega))) | (refine fun (hc : ¬ _) => ?_; try (simp (disch := decide) only [up_n, up_s, cp_n, rw_n, rw_s, up1_, if_true, if_false, ite_true, ite_false, reduceIte, eq_self, Int.reduceEq, true_and, and_true, not_true_eq_false, not_false_eq_true] at hc)) | (refine fun (hc : _ = _) => ?_; try (simp (disch := decide) only [up_n, up_s, cp_n, rw_n, rw_s, up1_, if_true, if_false, ite_true, ite_false, reduceIte, eq_self, Int.reduceEq, true_and, and_true, not_true_eq_false, not_false_eq_true] at hc)))
    all_goals first | (exfalso; omega) | exact hh
  | succ n ih =>
    intro s g102 g103 q0 q1 q2
    have hs : 0 ≤ s ∧ s < 2 * p 75 4 := by omega
    have e105 := hg s hs.1 hs.2
    by_cases hgr : grow p (lgT p t) s
    · rw [if_pos hgr] at e105
      have e37 := h37 ⟨s, hs.1, hs.2, hgr⟩
      have hh := ih (s + 1) _ _ (by omega) (by omega) (q2.yes hs hgr)
      rw [← e37] at hh
      clear ih h hg h37 q2 hgr
      refine fr_go k181 [81] 400 rfl ?_
      repeat' (first | (refine And.intro (by first | omega | (simp (disch := decide) only [up_n, up_s, cp_n, rw_n, rw_s, up1_, if_true, if_false, ite_true, ite_false, reduceIte, eq_self, Int.reduceEq, true_and, and_true, not_true_eq_false, not_false_eq_true]; omega)) ?_) | (refine And.intro (fun hc => ?_) (fun hc => ?_) <;> (try (simp (disch := decide) only [up_n, up_s, cp_n, rw_n, rw_s, up1_, if_true, if_false, ite_true, ite_false, reduceIte, eq_self, Int.reduceEq, true_and, and_true, not_true_eq_false, not_false_eq_true] at hc)) <;> (try (exfalso; omega))) | (refine fun (hc : ¬ _) => ?_; try (simp (disch := decide) only [up_n, up_s, cp_n, rw_n, rw_s, up1_, if_true, if_false, ite_true, ite_false, reduceIte, eq_self, Int.reduceEq, true_and, and_true, not_true_eq_false, not_false_eq_true] at hc)) | (refine fun (hc : _ = _) => ?_; try (simp (disch := decide) only [up_n, up_s, cp_n, rw_n, rw_s, up1_, if_true, if_false, ite_true, ite_false, reduceIte, eq_self, Int.reduceEq, true_and, and_true, not_true_eq_false, not_false_eq_true] at hc)))
      all_goals first | (exfalso; omega) | skip
      simp (disch := decide) only [up_n, up_s, cp_n, rw_n, rw_s, up1_, if_true, if_false, ite_true, ite_false, reduceIte, eq_self, Int.reduceEq, true_and, and_true, not_true_eq_false, not_false_eq_true]
      simp (disch := decide) only [up_rw, rw_u, up_up, rw_rw, rw_cm]
      exact hh
    · rw [if_neg hgr] at e105
      have hh := ih (s + 1) _ _ (by omega) (by omega) (q2.no hgr)
      clear ih h hg h37 q2 hgr
      refine fr_go k181 [81] 400 rfl ?_
      repeat' (first | (refine And.intro (by first | omega | (simp (disch := decide) only [up_n, up_s, cp_n, rw_n, rw_s, up1_, if_true, if_false, ite_true, ite_false, reduceIte, eq_self, Int.reduceEq, true_and, and_true, not_true_eq_false, not_false_eq_true]; omega)) ?_) | (refine And.intro (fun hc => ?_) (fun hc => ?_) <;> (try (simp (disch := decide) only [up_n, up_s, cp_n, rw_n, rw_s, up1_, if_true, if_false, ite_true, ite_false, reduceIte, eq_self, Int.reduceEq, true_and, and_true, not_true_eq_false, not_false_eq_true] at hc)) <;> (try (exfalso; omega))) | (refine fun (hc : ¬ _) => ?_; try (simp (disch := decide) only [up_n, up_s, cp_n, rw_n, rw_s, up1_, if_true, if_false, ite_true, ite_false, reduceIte, eq_self, Int.reduceEq, true_and, and_true, not_true_eq_false, not_false_eq_true] at hc)) | (refine fun (hc : _ = _) => ?_; try (simp (disch := decide) only [up_n, up_s, cp_n, rw_n, rw_s, up1_, if_true, if_false, ite_true, ite_false, reduceIte, eq_self, Int.reduceEq, true_and, and_true, not_true_eq_false, not_false_eq_true] at hc)))
      all_goals first | (exfalso; omega) | exact hh
set_option maxHeartbeats 4000000 in
set_option maxRecDepth 100000 in
theorem m_growsSome {M p : fr_M} {t : Nat} {Q : Option fr_V → fr_H → fr_M → Prop} (hp : pg M = p) (hw : WF p) (h101 : ∀ s, 0 ≤ s → s < 2 * p 75 4 → M 101 s = nn (tg p s)) (h102 : ∀ s, 0 ≤ s → s < 2 * p 75 4 → M 102 s = lgT p t s) (h103 : ∀ s, 0 ≤ s → s < 2 * p 75 4 → M 103 s = tnT p t s) (h98 : ∀ b, 0 ≤ b → b < p 75 4 → M 98 b = ad p (lgT p t) b) (h104 : ∀ s, 0 ≤ s → s < 2 * p 75 4 → tg p s ≠ -1 → M 104 s = jb p (lgT p t) s) (h37 : M 75 37 = (t : Int)) (ht : t < 100) (hy : ¬ dn p t → ∀ g102 g103 g105, (∀ s, 0 ≤ s → s < 2 * p 75 4 → g102 s = lgT p (t + 1) s) → (∀ s, 0 ≤ s → s < 2 * p 75 4 → g103 s = tnT p (t + 1) s) → Q (some (.inl 1)) sh0 (rw_ (rw_ (rw_ (fr_up M 75 37 ((t : Int) + 1)) 105 g105) 102 g102) 103 g103)) (hn : dn p t → ∀ g102 g103 g105, (∀ s, 0 ≤ s → s < 2 * p 75 4 → g102 s = lgT p t s) → (∀ s, 0 ≤ s → s < 2 * p 75 4 → g103 s = tnT p t s) → Q (some (.inl 0)) sh0 (rw_ (rw_ (rw_ (fr_up M 75 37 (t : Int)) 105 g105) 102 g102) 103 g103)) : fr_Call 181 [.inr (.inl 75)] sh0 M Q := by
  have h40 := hw.1.1
  refine fr_cgo k181 [some (.inr (.inl 75)), none, none, none, none] 0 0 [4] 400 rfl rfl rfl rfl ?_
  repeat' (first | (refine And.intro (by first | omega | (simp (disch := decide) only [up_n, up_s, cp_n, rw_n, rw_s, up1_, if_true, if_false, ite_true, ite_false, reduceIte, eq_self, Int.reduceEq, true_and, and_true, not_true_eq_false, not_false_eq_true]; omega)) ?_) | (refine And.intro (fun hc => ?_) (fun hc => ?_) <;> (try (simp (disch := decide) only [up_n, up_s, cp_n, rw_n, rw_s, up1_, if_true, if_false, ite_true, ite_false, reduceIte, eq_self, Int.reduceEq, true_and, and_true, not_true_eq_false, not_false_eq_true] at hc)) <;> (try (exfalso; omega))) | (refine fun (hc : ¬ _) => ?_; try (simp (disch := decide) only [up_n, up_s, cp_n, rw_n, rw_s, up1_, if_true, if_false, ite_true, ite_false, reduceIte, eq_self, Int.reduceEq, true_and, and_true, not_true_eq_false, not_false_eq_true] at hc)) | (refine fun (hc : _ = _) => ?_; try (simp (disch := decide) only [up_n, up_s, cp_n, rw_n, rw_s, up1_, if_true, if_false, ite_true, ite_false, reduceIte, eq_self, Int.reduceEq, true_and, and_true, not_true_eq_false, not_false_eq_true] at hc)))
  refine q_run (m_gs1 (M := M) (lg := lgT p t) hp hw h101 (fun s q0 q1 => ⟨h102 s q0 q1, lg_01⟩) h98 h104 ?_ (2 * p 75 4).toNat 0 0 (M 105) none none (by omega) (by omega) ⟨fun s' q0 q1 => by omega, Or.inl rfl, fun q => by omega, fun _ s' q0 q1 => by omega⟩) rw_id
  rintro z g x3 x4 ⟨a1, a2, a3, a4⟩
  refine fr_go k181 [81] 400 rfl ?_
  rcases a2 with rfl | rfl
  · have hd : dn p t := fun s q0 q1 => a4 rfl s q0 q1
    repeat' (first | (refine And.intro (by first | omega | (simp (disch := decide) only [up_n, up_s, cp_n, rw_n, rw_s, up1_, if_true, if_false, ite_true, ite_false, reduceIte, eq_self, Int.reduceEq, true_and, and_true, not_true_eq_false, not_false_eq_true]; omega)) ?_) | (refine And.intro (fun hc => ?_) (fun hc => ?_) <;> (try (simp (disch := decide) only [up_n, up_s, cp_n, rw_n, rw_s, up1_, if_true, if_false, ite_true, ite_false, reduceIte, eq_self, Int.reduceEq, true_and, and_true, not_true_eq_false, not_false_eq_true] at hc)) <;> (try (exfalso; omega))) | (refine fun (hc : ¬ _) => ?_; try (simp (disch := decide) only [up_n, up_s, cp_n, rw_n, rw_s, up1_, if_true, if_false, ite_true, ite_false, reduceIte, eq_self, Int.reduceEq, true_and, and_true, not_true_eq_false, not_false_eq_true] at hc)) | (refine fun (hc : _ = _) => ?_; try (simp (disch := decide) only [up_n, up_s, cp_n, rw_n, rw_s, up1_, if_true, if_false, ite_true, ite_false, reduceIte, eq_self, Int.reduceEq, true_and, and_true, not_true_eq_false, not_false_eq_true] at hc)))
    all_goals first | (exfalso; omega) | (exfalso; simp (disch := decide) only [up_n, up_s, cp_n, rw_n, rw_s, up1_, if_true, if_false, ite_true, ite_false, reduceIte, eq_self, Int.reduceEq, true_and, and_true, not_true_eq_false, not_false_eq_true] at *; omega) | skip
    simp (disch := decide) only [up_n, up_s, cp_n, rw_n, rw_s, up1_, if_true, if_false, ite_true, ite_false, reduceIte, eq_self, Int.reduceEq, true_and, and_true, not_true_eq_false, not_false_eq_true]
    rw [h37]
    have hpx : pg (fr_up (rw_ M 105 g) 75 37 ((t : Int) + 0)) = p := by
      rw [pg_up (by omega), pg_rw (by omega)]
      exact hp
    refine q_run (m_gs2 (M := fr_up (rw_ M 105 g) 75 37 ((t : Int) + 0)) (p := p) (t := t) (z := 0) (x3 := x3) (x4 := x4) hpx hw (Or.inl rfl) (fun s q0 q1 => by simp (disch := decide) only [up_n, up_s, cp_n, rw_n, rw_s, up1_, if_true, if_false, ite_true, ite_false, reduceIte, eq_self, Int.reduceEq, true_and, and_true, not_true_eq_false, not_false_eq_true]; exact a1 s q0 q1) (fun ⟨s, y1, y2, y3⟩ => absurd y3 (hd s y1 y2)) ?_ (2 * p 75 4).toNat 0 (M 102) (M 103) (by omega) (by omega) ?_) ?_
    · intro g102 g103 hx
      rw [show (t : Int) + 0 = (t : Int) by omega]
      simp (disch := decide) only [up_rw, rw_u, up_up, rw_rw, rw_cm]
      refine q_of (hn hd g102 g103 g (fun s q0 q1 => ?_) (fun s q0 q1 => ?_)) rfl ?_
      · have := (hx s q0 q1).1
        rw [if_pos q1, lgT_s, if_neg (fun q => hd s q0 q1 q.2)] at this
        exact this
      · have := (hx s q0 q1).2
        rw [if_pos q1, tnT_s, if_neg (fun q => hd s q0 q1 q.2)] at this
        exact this
      · rw [rw_cm (a := 102) (b := 105) (by decide), rw_cm (a := 103) (b := 105) (by decide)]
    · intro s' q0 q1
      rw [if_neg (by omega), if_neg (by omega)]
      exact ⟨h102 s' q0 q1, h103 s' q0 q1⟩
    · exact (congrArg (fun m => rw_ m 103 (M 103)) (rw_id (k := 102))).trans (rw_id (k := 103))
  · obtain ⟨s', x1, x2, x5⟩ := a3 rfl
    repeat' (first | (refine And.intro (by first | omega | (simp (disch := decide) only [up_n, up_s, cp_n, rw_n, rw_s, up1_, if_true, if_false, ite_true, ite_false, reduceIte, eq_self, Int.reduceEq, true_and, and_true, not_true_eq_false, not_false_eq_true]; omega)) ?_) | (refine And.intro (fun hc => ?_) (fun hc => ?_) <;> (try (simp (disch := decide) only [up_n, up_s, cp_n, rw_n, rw_s, up1_, if_true, if_false, ite_true, ite_false, reduceIte, eq_self, Int.reduceEq, true_and, and_true, not_true_eq_false, not_false_eq_true] at hc)) <;> (try (exfalso; omega))) | (refine fun (hc : ¬ _) => ?_; try (simp (disch := decide) only [up_n, up_s, cp_n, rw_n, rw_s, up1_, if_true, if_false, ite_true, ite_false, reduceIte, eq_self, Int.reduceEq, true_and, and_true, not_true_eq_false, not_false_eq_true] at hc)) | (refine fun (hc : _ = _) => ?_; try (simp (disch := decide) only [up_n, up_s, cp_n, rw_n, rw_s, up1_, if_true, if_false, ite_true, ite_false, reduceIte, eq_self, Int.reduceEq, true_and, and_true, not_true_eq_false, not_false_eq_true] at hc)))
    all_goals first | (exfalso; omega) | (exfalso; simp (disch := decide) only [up_n, up_s, cp_n, rw_n, rw_s, up1_, if_true, if_false, ite_true, ite_false, reduceIte, eq_self, Int.reduceEq, true_and, and_true, not_true_eq_false, not_false_eq_true] at *; omega) | skip
    simp (disch := decide) only [up_n, up_s, cp_n, rw_n, rw_s, up1_, if_true, if_false, ite_true, ite_false, reduceIte, eq_self, Int.reduceEq, true_and, and_true, not_true_eq_false, not_false_eq_true]
    rw [h37]
    have hpx : pg (fr_up (rw_ M 105 g) 75 37 ((t : Int) + 1)) = p := by
      rw [pg_up (by omega), pg_rw (by omega)]
      exact hp
    refine q_run (m_gs2 (M := fr_up (rw_ M 105 g) 75 37 ((t : Int) + 1)) (p := p) (t := t) (z := 1) (x3 := x3) (x4 := x4) hpx hw (Or.inr rfl) (fun s q0 q1 => by simp (disch := decide) only [up_n, up_s, cp_n, rw_n, rw_s, up1_, if_true, if_false, ite_true, ite_false, reduceIte, eq_self, Int.reduceEq, true_and, and_true, not_true_eq_false, not_false_eq_true]; exact a1 s q0 q1) (fun _ => rfl) ?_ (2 * p 75 4).toNat 0 (M 102) (M 103) (by omega) (by omega) ?_) ?_
    · intro g102 g103 hx
      simp (disch := decide) only [up_rw, rw_u, up_up, rw_rw, rw_cm]
      refine q_of (hy (fun hd => hd s' x1 x2 x5) g102 g103 g (fun s q0 q1 => ?_) (fun s q0 q1 => ?_)) rfl ?_
      · have := (hx s q0 q1).1
        rw [if_pos q1] at this
        exact this
      · have := (hx s q0 q1).2
        rw [if_pos q1] at this
        exact this
      · rw [rw_cm (a := 102) (b := 105) (by decide), rw_cm (a := 103) (b := 105) (by decide)]
    · intro s' q0 q1
      rw [if_neg (by omega), if_neg (by omega)]
      exact ⟨h102 s' q0 q1, h103 s' q0 q1⟩
    · exact (congrArg (fun m => rw_ m 103 (M 103)) (rw_id (k := 102))).trans (rw_id (k := 103))
