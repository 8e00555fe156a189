def cnt (f : Int → Int) : Nat → Int
  | 0 => 0
  | n + 1 => cnt f n + f (n : Int)
theorem cnt_b {p : fr_M} {t : Nat} : ∀ n : Nat, 0 ≤ cnt (lgT p t) n ∧ cnt (lgT p t) n ≤ (n : Int)
  | 0 => by simp [cnt]
  | n + 1 => by
    have ih := cnt_b (p := p) (t := t) n
    have := lg_01 (p := p) (t := t) (s := (n : Int))
    rw [cnt]
    omega
theorem lg_mono {p : fr_M} {t : Nat} {s : Int} : lgT p t s ≤ lgT p (t + 1) s := by
  rw [lgT_s]
  have := lg_01 (p := p) (t := t) (s := s)
  split <;> omega
theorem cnt_mono {p : fr_M} {t : Nat} : ∀ n : Nat, cnt (lgT p t) n ≤ cnt (lgT p (t + 1)) n
  | 0 => by simp [cnt]
  | n + 1 => by
    have ih := cnt_mono (p := p) (t := t) n
    have := lg_mono (p := p) (t := t) (s := (n : Int))
    rw [cnt, cnt]
    omega
theorem cnt_grow {p : fr_M} {t : Nat} {s : Int} (hs : 0 ≤ s ∧ s < 2 * p 75 4) (hg : grow p (lgT p t) s) : ∀ n : Nat, s < (n : Int) → cnt (lgT p t) n + 1 ≤ cnt (lgT p (t + 1)) n
  | 0, h => by omega
  | n + 1, h => by
    rw [cnt, cnt]
    by_cases e : s = (n : Int)
    · have a := cnt_mono (p := p) (t := t) n
      have b : lgT p (t + 1) (n : Int) = 1 := by
        rw [← e, lgT_s, if_pos ⟨hs, hg⟩]
      have c : lgT p t (n : Int) = 0 := by
        rw [← e]
        exact hg.2.1
      omega
    · have a := cnt_grow hs hg n (by omega)
      have := lg_mono (p := p) (t := t) (s := (n : Int))
      omega
theorem not_dn {p : fr_M} {t : Nat} (h : ¬ dn p t) : ∃ s, (0 ≤ s ∧ s < 2 * p 75 4) ∧ grow p (lgT p t) s := by
  apply Classical.byContradiction
  intro hn
  exact h (fun s q0 q1 q2 => hn ⟨s, ⟨q0, q1⟩, q2⟩)
theorem turns_le {p : fr_M} {n : Nat} (hn : 2 * p 75 4 ≤ (n : Int)) : ∀ t : Nat, (∀ t', t' < t → ¬ dn p t') → (t : Int) ≤ cnt (lgT p t) n
  | 0, _ => by
    have := cnt_b (p := p) (t := 0) n
    omega
  | t + 1, h => by
    have ih := turns_le hn t (fun t' ht => h t' (by omega))
    obtain ⟨s, hs, hg⟩ := not_dn (h t (by omega))
    have := cnt_grow hs hg n (by omega)
    omega
theorem turns_80 {p : fr_M} (hw : WF p) {t : Nat} (h : ∀ t', t' < t → ¬ dn p t') : t ≤ 80 := by
  have a := turns_le (p := p) (n := 80) (by have := hw.1.1; omega) t h
  have b := cnt_b (p := p) (t := t) 80
  omega
theorem dn_80 {p : fr_M} (hw : WF p) (h : ∀ t', t' < 80 → ¬ dn p t') : dn p 80 := by
  apply Classical.byContradiction
  intro hn
  have := turns_80 hw (t := 81) (fun t' ht => by
    by_cases e : t' = 80
    · rw [e]; exact hn
    · exact h t' (by omega))
  omega
set_option maxHeartbeats 4000000 in
set_option maxRecDepth 100000 in
theorem c_ln_l {M p : fr_M} {t : Nat} {Q : Option fr_V → fr_H → fr_M → Prop} (hp : pg M = p) (hw : WF p) (hc : M 1 1 = p 75 4) (h34 : ∀ s, 0 ≤ s → s < 2 * p 75 4 → M 34 s = tg p s) (h32 : ∀ b, 0 ≤ b → b < p 75 4 → M 32 b = ad p (lgT p t) b) (h35 : ∀ s, 0 ≤ s → s < 2 * p 75 4 → tg p s ≠ -1 → M 35 s = jb p (lgT p t) s) (ht : t < 100) (h : ∀ z g36 g38, LN p t (2 * p 75 4) z g36 g38 → Q (some (.inl z)) sh0 (rw_ (rw_ M 36 g36) 38 g38)) : ∀ (n : Nat) (s z : Int) (g36 g38 : Int → Int), 0 ≤ s → s + n = 2 * p 75 4 → LN p t s z g36 g38 → fr_Run 35 none 4 [some (.inr (.inl 29)), some (.inl ((t : Int) + 1)), some (.inl z), some (.inl s)] [] sh0 (rw_ (rw_ M 36 g36) 38 g38) 0 0 Q := by
  have h40 := hw.1.1
  intro n
  induction n with
  | zero =>
    intro s z g36 g38 q0 q1 q2
    have e : s = 2 * p 75 4 := by omega
    subst e
    have hz := q2.2.2.1
    have hh := h z g36 g38 q2
    clear h h34 h32 h35
    refine fr_go k35 [4] 400 rfl ?_
    repeat' (first | (refine And.intro (by first | omega | (simp (disch := decide) only [up_n, up_s, cp_n, rw_n, rw_s, up1_, if_true, if_false, ite_true, ite_false, reduceIte, eq_self, Int.reduceEq, true_and, and_true, not_true_eq_false, not_false_eq_true]; omega)) ?_) | (refine And.intro (fun hc => ?_) (fun hc => ?_) <;> (try (simp (disch := decide) only [up_n, up_s, cp_n, rw_n, rw_s, up1_, if_true, if_false, ite_true, ite_false, reduceIte, eq_self, Int.reduceEq, true_and, and_true, not_true_eq_false, not_false_eq_true] at hc)) <;> (try (exfalso; omega))) | (refine fun (hc : ¬ _) => ?_; try (simp (disch := decide) only [up_n, up_s, cp_n, rw_n, rw_s, up1_, if_true, if_false, ite_true, ite_false, reduceIte, eq_self, Int.reduceEq, true_and, and_true, not_true_eq_false, not_false_eq_true] at hc)) | (refine fun (hc : _ = _) => ?_; try (simp (disch := decide) only [up_n, up_s, cp_n, rw_n, rw_s, up1_, if_true, if_false, ite_true, ite_false, reduceIte, eq_self, Int.reduceEq, true_and, and_true, not_true_eq_false, not_false_eq_true] at hc)))
    all_goals first | (exfalso; omega) | exact hh
  | succ n ih =>
    intro s z g36 g38 q0 q1 q2
    have hs : 0 ≤ s ∧ s < 2 * p 75 4 := by omega
    have e34 := h34 s hs.1 hs.2
    have e36 := q2.1 s hs.1 hs.2
    rw [if_neg (by omega)] at e36
    have l01 := lg_01 (p := p) (t := t) (s := s)
    have hz := q2.2.2.1
    have e34' : rw_ (rw_ M 36 g36) 38 g38 34 s = tg p s := e34
    have e36' : rw_ (rw_ M 36 g36) 38 g38 36 s = lgT p t s := e36
    by_cases htg : tg p s = -1
    · have hh := ih (s + 1) z g36 g38 (by omega) (by omega) (q2.no hs (fun q => q.1 htg))
      clear ih h h34 h32 h35 q2
      refine fr_go k35 [4] 400 rfl ?_
      repeat' (first | (refine And.intro (by first | omega | (simp (disch := decide) only [up_n, up_s, cp_n, rw_n, rw_s, up1_, if_true, if_false, ite_true, ite_false, reduceIte, eq_self, Int.reduceEq, true_and, and_true, not_true_eq_false, not_false_eq_true]; omega)) ?_) | (refine And.intro (fun hc => ?_) (fun hc => ?_) <;> (try (simp (disch := decide) only [up_n, up_s, cp_n, rw_n, rw_s, up1_, if_true, if_false, ite_true, ite_false, reduceIte, eq_self, Int.reduceEq, true_and, and_true, not_true_eq_false, not_false_eq_true] at hc)) <;> (try (exfalso; omega))) | (refine fun (hc : ¬ _) => ?_; try (simp (disch := decide) only [up_n, up_s, cp_n, rw_n, rw_s, up1_, if_true, if_false, ite_true, ite_false, reduceIte, eq_self, Int.reduceEq, true_and, and_true, not_true_eq_false, not_false_eq_true] at hc)) | (refine fun (hc : _ = _) => ?_; try (simp (disch := decide) only [up_n, up_s, cp_n, rw_n, rw_s, up1_, if_true, if_false, ite_true, ite_false, reduceIte, eq_self, Int.reduceEq, true_and, and_true, not_true_eq_false, not_false_eq_true] at hc)))
      all_goals first | (exfalso; omega) | exact hh
    · have hr := (tg_rng hw hs).resolve_left htg
      have e32 := h32 (tg p s) hr.1 hr.2
      have e35 := h35 s hs.1 hs.2 htg
      have b1 := (ad_b hw (lg := lgT p t) hr).1
      have b2 := jb_b hw (lg := lgT p t) hs
      have e32' : rw_ (rw_ M 36 g36) 38 g38 32 (tg p s) = ad p (lgT p t) (tg p s) := e32
      have e35' : rw_ (rw_ M 36 g36) 38 g38 35 s = jb p (lgT p t) s := e35
      have er : rw_ (rw_ M 36 g36) 38 g38 32 (rw_ (rw_ M 36 g36) 38 g38 34 s) - rw_ (rw_ M 36 g36) 38 g38 35 s = ad p (lgT p t) (tg p s) - jb p (lgT p t) s := by
        rw [e34', e32', e35']
      have er2 : M 32 (M 34 s) = ad p (lgT p t) (tg p s) := by
        rw [e34]
        exact e32
      by_cases hg : grow p (lgT p t) s
      · have hh := ih (s + 1) 1 _ _ (by omega) (by omega) (q2.yes hs hg)
        have hg2 := hg.2.1
        have hg3 := hg.2.2
        clear ih h h34 h32 h35 q2 hg
        refine fr_go k35 [4] 400 rfl ?_
        repeat' (first | (refine And.intro (by first | omega | (simp (disch := decide) only [up_n, up_s, cp_n, rw_n, rw_s, up1_, if_true, if_false, ite_true, ite_false, reduceIte, eq_self, Int.reduceEq, true_and, and_true, not_true_eq_false, not_false_eq_true]; omega)) ?_) | (refine c_reach (by first | omega | (simp (disch := decide) only [up_n, up_s, cp_n, rw_n, rw_s, up1_, if_true, if_false, ite_true, ite_false, reduceIte, eq_self, Int.reduceEq, true_and, and_true, not_true_eq_false, not_false_eq_true]; omega)) (by omega) (by omega) ?_) | (refine And.intro (fun hc => ?_) (fun hc => ?_) <;> (try (simp (disch := decide) only [up_n, up_s, cp_n, rw_n, rw_s, up1_, if_true, if_false, ite_true, ite_false, reduceIte, eq_self, Int.reduceEq, true_and, and_true, not_true_eq_false, not_false_eq_true] at hc)) <;> (try (exfalso; omega))) | (refine fun (hc : ¬ _) => ?_; try (simp (disch := decide) only [up_n, up_s, cp_n, rw_n, rw_s, up1_, if_true, if_false, ite_true, ite_false, reduceIte, eq_self, Int.reduceEq, true_and, and_true, not_true_eq_false, not_false_eq_true] at hc)) | (refine fun (hc : _ = _) => ?_; try (simp (disch := decide) only [up_n, up_s, cp_n, rw_n, rw_s, up1_, if_true, if_false, ite_true, ite_false, reduceIte, eq_self, Int.reduceEq, true_and, and_true, not_true_eq_false, not_false_eq_true] at hc)))
        all_goals first | (exfalso; omega) | skip
        all_goals (simp (disch := decide) only [up_rw, rw_u, up_up, rw_rw, rw_cm]; exact hh)
      · have hh := ih (s + 1) z g36 g38 (by omega) (by omega) (q2.no hs hg)
        have hg3 : lgT p t s = 0 → -128 ≤ ad p (lgT p t) (tg p s) - jb p (lgT p t) s ∧ ad p (lgT p t) (tg p s) - jb p (lgT p t) s ≤ 127 := by
          intro q
          apply Classical.byContradiction
          intro q2
          exact hg ⟨htg, q, q2⟩
        clear ih h h34 h32 h35 q2 hg
        refine fr_go k35 [4] 400 rfl ?_
        repeat' (first | (refine And.intro (by first | omega | (simp (disch := decide) only [up_n, up_s, cp_n, rw_n, rw_s, up1_, if_true, if_false, ite_true, ite_false, reduceIte, eq_self, Int.reduceEq, true_and, and_true, not_true_eq_false, not_false_eq_true]; omega)) ?_) | (refine c_reach (by first | omega | (simp (disch := decide) only [up_n, up_s, cp_n, rw_n, rw_s, up1_, if_true, if_false, ite_true, ite_false, reduceIte, eq_self, Int.reduceEq, true_and, and_true, not_true_eq_false, not_false_eq_true]; omega)) (by omega) (by omega) ?_) | (refine And.intro (fun hc => ?_) (fun hc => ?_) <;> (try (simp (disch := decide) only [up_n, up_s, cp_n, rw_n, rw_s, up1_, if_true, if_false, ite_true, ite_false, reduceIte, eq_self, Int.reduceEq, true_and, and_true, not_true_eq_false, not_false_eq_true] at hc)) <;> (try (exfalso; omega))) | (refine fun (hc : ¬ _) => ?_; try (simp (disch := decide) only [up_n, up_s, cp_n, rw_n, rw_s, up1_, if_true, if_false, ite_true, ite_false, reduceIte, eq_self, Int.reduceEq, true_and, and_true, not_true_eq_false, not_false_eq_true] at hc)) | (refine fun (hc : _ = _) => ?_; try (simp (disch := decide) only [up_n, up_s, cp_n, rw_n, rw_s, up1_, if_true, if_false, ite_true, ite_false, reduceIte, eq_self, Int.reduceEq, true_and, and_true, not_true_eq_false, not_false_eq_true] at hc)))
        all_goals first | (exfalso; omega) | skip
        all_goals (exact hh)
set_option maxHeartbeats 4000000 in
set_option maxRecDepth 100000 in
theorem c_lengthen {M p : fr_M} {t : Nat} {Q : Option fr_V → fr_H → fr_M → Prop} (hp : pg M = p) (hw : WF p) (hc : M 1 1 = p 75 4) (h34 : ∀ s, 0 ≤ s → s < 2 * p 75 4 → M 34 s = tg p s) (h36 : ∀ s, 0 ≤ s → s < 2 * p 75 4 → M 36 s = lgT p t s) (h38 : ∀ b, 0 ≤ b → b < p 75 4 → M 38 b = lt_ p t b) (h32 : ∀ b, 0 ≤ b → b < p 75 4 → M 32 b = ad p (lgT p t) b) (h35 : ∀ s, 0 ≤ s → s < 2 * p 75 4 → tg p s ≠ -1 → M 35 s = jb p (lgT p t) s) (ht : t < 100) (hy : ¬ dn p t → ∀ g36 g38, (∀ s, 0 ≤ s → s < 2 * p 75 4 → g36 s = lgT p (t + 1) s) → (∀ b, 0 ≤ b → b < p 75 4 → g38 b = lt_ p (t + 1) b) → Q (some (.inl 1)) sh0 (rw_ (rw_ M 36 g36) 38 g38)) (hn : dn p t → ∀ g36 g38, (∀ s, 0 ≤ s → s < 2 * p 75 4 → g36 s = lgT p t s) → (∀ b, 0 ≤ b → b < p 75 4 → g38 b = lt_ p t b) → Q (some (.inl 0)) sh0 (rw_ (rw_ M 36 g36) 38 g38)) : fr_Call 35 [.inr (.inl 29), .inl ((t : Int) + 1)] sh0 M Q := by
  have h40 := hw.1.1
  have hh := c_ln_l (Q := Q) hp hw hc h34 h32 h35 ht ?_ (2 * p 75 4).toNat 0 0 (M 36) (M 38) (by omega) (by omega) ⟨fun s' q0 q1 => ?_, fun b q0 q1 => ?_, Or.inl rfl, fun q => by omega, fun _ s' q0 q1 => by omega⟩
  · rw [rw_id, rw_id] at hh
    refine fr_cgo k35 [some (.inr (.inl 29)), some (.inl ((t : Int) + 1)), none, none] 0 0 [4] 400 rfl rfl rfl rfl ?_
    repeat' (first | (refine And.intro (by first | omega | (simp (disch := decide) only [up_n, up_s, cp_n, rw_n, rw_s, up1_, if_true, if_false, ite_true, ite_false, reduceIte, eq_self, Int.reduceEq, true_and, and_true, not_true_eq_false, not_false_eq_true]; omega)) ?_) | (refine And.intro (fun hc => ?_) (fun hc => ?_) <;> (try (simp (disch := decide) only [up_n, up_s, cp_n, rw_n, rw_s, up1_, if_true, if_false, ite_true, ite_false, reduceIte, eq_self, Int.reduceEq, true_and, and_true, not_true_eq_false, not_false_eq_true] at hc)) <;> (try (exfalso; omega))) | (refine fun (hc : ¬ _) => ?_; try (simp (disch := decide) only [up_n, up_s, cp_n, rw_n, rw_s, up1_, if_true, if_false, ite_true, ite_false, reduceIte, eq_self, Int.reduceEq, true_and, and_true, not_true_eq_false, not_false_eq_true] at hc)) | (refine fun (hc : _ = _) => ?_; try (simp (disch := decide) only [up_n, up_s, cp_n, rw_n, rw_s, up1_, if_true, if_false, ite_true, ite_false, reduceIte, eq_self, Int.reduceEq, true_and, and_true, not_true_eq_false, not_false_eq_true] at hc)))
    exact hh
  · rintro z g36 g38 ⟨a1, a2, a3, a4, a5⟩
    have b1 : ∀ s, 0 ≤ s → s < 2 * p 75 4 → g36 s = lgT p (t + 1) s := fun s q0 q1 => by
      rw [a1 s q0 q1, if_pos q1]
    have b2 : ∀ b, 0 ≤ b → b < p 75 4 → g38 b = lt_ p (t + 1) b := fun b q0 q1 => by
      rw [a2 b q0 q1, if_pos (by omega), if_pos (by omega)]
      rfl
    rcases a3 with rfl | rfl
    · have hd : dn p t := fun s q0 q1 => a5 rfl s q0 q1
      refine hn hd g36 g38 (fun s q0 q1 => ?_) (fun b q0 q1 => ?_)
      · rw [b1 s q0 q1, lgT_s, if_neg (fun q => hd s q0 q1 q.2)]
      · rw [b2 b q0 q1]
        unfold lt_
        rw [tnT_s, if_neg (fun q => hd _ q.1.1 q.1.2 q.2), tnT_s, if_neg (fun q => hd _ q.1.1 q.1.2 q.2)]
    · obtain ⟨s', x1, x2, x3⟩ := a4 rfl
      exact hy (fun hd => hd s' x1 x2 x3) g36 g38 b1 b2
  · rw [if_neg (by omega)]
    exact h36 s' q0 q1
  · rw [if_neg (by omega), if_neg (by omega)]
    exact h38 b q0 q1
/-- the memory of a layout that is settled -/
def XT (M : fr_M) (a b c d : Int) (g32 g33 g35 g36 g38 : Int → Int) : fr_M := rw_ (rw_ (rw_ (rw_ (rw_ (fr_up (fr_up (fr_up (fr_up M 29 13 a) 29 14 b) 29 15 c) 29 16 d) 32 g32) 33 g33) 35 g35) 36 g36) 38 g38
set_option maxHeartbeats 4000000 in
set_option maxRecDepth 100000 in
theorem c_st_l {M p : fr_M} {Q : Option fr_V → fr_H → fr_M → Prop} (hp : pg M = p) (hw : WF p) (hcc : M 1 1 = p 75 4) (hal : M 29 11 = p 75 14) (hpr : ∀ b, 0 ≤ b → b < p 75 4 → M 6 b = M 80 b ∧ M 7 b = M 82 b ∧ M 8 b = M 83 b) (h30 : ∀ k : Nat, (k : Int) < p 75 4 → M 30 (k : Int) = ln p k) (h34 : ∀ s, 0 ≤ s → s < 2 * p 75 4 → M 34 s = tg p s) (h : ∀ (T : Nat) (g32 g33 g35 g36 g38 : Int → Int), dn p T → (∀ t', t' < T → ¬ dn p t') → LI p (lgT p T) (cN p) g32 g33 g35 → (∀ s, 0 ≤ s → s < 2 * p 75 4 → g36 s = lgT p T s) → (∀ b, 0 ≤ b → b < p 75 4 → g38 b = lt_ p T b) → Q none sh0 (XT M (T : Int) (gp p (lgT p T) (cN p)) (pos p (lgT p T) (cN p)) (pos p (lgT p T) (cN p) + 8 * gd p (cN p)) g32 g33 g35 g36 g38)) : ∀ (n t : Nat) (g32 g33 g35 g36 g38 : Int → Int), t + n = 80 → (∀ t', t' < t → ¬ dn p t') → LI p (lgT p t) (cN p) g32 g33 g35 → (∀ s, 0 ≤ s → s < 2 * p 75 4 → g36 s = lgT p t s) → (∀ b, 0 ≤ b → b < p 75 4 → g38 b = lt_ p t b) → fr_Run 36 none 34 [some (.inr (.inl 29)), some (.inl ((t : Int) + 1))] [] sh0 (XT M (t : Int) (gp p (lgT p t) (cN p)) (pos p (lgT p t) (cN p)) (pos p (lgT p t) (cN p) + 8 * gd p (cN p)) g32 g33 g35 g36 g38) 0 0 Q := by
  have h40 := hw.1.1
  intro n
  induction n with
  | zero =>
    intro t g32 g33 g35 g36 g38 q0 q1 q2 q3 q4
    have e : t = 80 := by omega
    subst e
    have hh := h 80 g32 g33 g35 g36 g38 (dn_80 hw q1) q1 q2 q3 q4
    clear h
    refine fr_go k36 [34] 400 rfl ?_
    repeat' (first | (refine And.intro (by first | omega | (simp (disch := decide) only [up_n, up_s, cp_n, rw_n, rw_s, up1_, if_true, if_false, ite_true, ite_false, reduceIte, eq_self, Int.reduceEq, true_and, and_true, not_true_eq_false, not_false_eq_true]; omega)) ?_) | (refine And.intro (fun hc => ?_) (fun hc => ?_) <;> (try (simp (disch := decide) only [up_n, up_s, cp_n, rw_n, rw_s, up1_, if_true, if_false, ite_true, ite_false, reduceIte, eq_self, Int.reduceEq, true_and, and_true, not_true_eq_false, not_false_eq_true] at hc)) <;> (try (exfalso; omega))) | (refine fun (hc : ¬ _) => ?_; try (simp (disch := decide) only [up_n, up_s, cp_n, rw_n, rw_s, up1_, if_true, if_false, ite_true, ite_false, reduceIte, eq_self, Int.reduceEq, true_and, and_true, not_true_eq_false, not_false_eq_true] at hc)) | (refine fun (hc : _ = _) => ?_; try (simp (disch := decide) only [up_n, up_s, cp_n, rw_n, rw_s, up1_, if_true, if_false, ite_true, ite_false, reduceIte, eq_self, Int.reduceEq, true_and, and_true, not_true_eq_false, not_false_eq_true] at hc)))
    all_goals first | (exfalso; omega) | exact hh
  | succ n ih =>
    intro t g32 g33 g35 g36 g38 q0 q1 q2 q3 q4
    have hall := q2.all hw
    refine fr_go k36 [34] 400 rfl ?_
    repeat' (first | (refine And.intro (by first | omega | (simp (disch := decide) only [up_n, up_s, cp_n, rw_n, rw_s, up1_, if_true, if_false, ite_true, ite_false, reduceIte, eq_self, Int.reduceEq, true_and, and_true, not_true_eq_false, not_false_eq_true]; omega)) ?_) | (refine And.intro (fun hc => ?_) (fun hc => ?_) <;> (try (simp (disch := decide) only [up_n, up_s, cp_n, rw_n, rw_s, up1_, if_true, if_false, ite_true, ite_false, reduceIte, eq_self, Int.reduceEq, true_and, and_true, not_true_eq_false, not_false_eq_true] at hc)) <;> (try (exfalso; omega))) | (refine fun (hc : ¬ _) => ?_; try (simp (disch := decide) only [up_n, up_s, cp_n, rw_n, rw_s, up1_, if_true, if_false, ite_true, ite_false, reduceIte, eq_self, Int.reduceEq, true_and, and_true, not_true_eq_false, not_false_eq_true] at hc)) | (refine fun (hc : _ = _) => ?_; try (simp (disch := decide) only [up_n, up_s, cp_n, rw_n, rw_s, up1_, if_true, if_false, ite_true, ite_false, reduceIte, eq_self, Int.reduceEq, true_and, and_true, not_true_eq_false, not_false_eq_true] at hc)))
    all_goals first | (exfalso; omega) | skip
    refine c_lengthen (p := p) (t := t) ?_ hw hcc h34 q3 q4 (fun b z0 z1 => (hall.1 b z0 z1).1) hall.2 (by omega) (fun hnd g36' g38' r36 r38 => ?_) (fun hd g36' g38' r36 r38 => ?_)
    · unfold XT
      rw [pg_rw (by omega), pg_rw (by omega), pg_rw (by omega), pg_rw (by omega), pg_rw (by omega), pg_up (by omega), pg_up (by omega), pg_up (by omega), pg_up (by omega)]
      exact hp
    · repeat' (first | (refine And.intro (by first | omega | (simp (disch := decide) only [up_n, up_s, cp_n, rw_n, rw_s, up1_, if_true, if_false, ite_true, ite_false, reduceIte, eq_self, Int.reduceEq, true_and, and_true, not_true_eq_false, not_false_eq_true]; omega)) ?_) | (refine And.intro (fun hc => ?_) (fun hc => ?_) <;> (try (simp (disch := decide) only [up_n, up_s, cp_n, rw_n, rw_s, up1_, if_true, if_false, ite_true, ite_false, reduceIte, eq_self, Int.reduceEq, true_and, and_true, not_true_eq_false, not_false_eq_true] at hc)) <;> (try (exfalso; omega))) | (refine fun (hc : ¬ _) => ?_; try (simp (disch := decide) only [up_n, up_s, cp_n, rw_n, rw_s, up1_, if_true, if_false, ite_true, ite_false, reduceIte, eq_self, Int.reduceEq, true_and, and_true, not_true_eq_false, not_false_eq_true] at hc)) | (refine fun (hc : _ = _) => ?_; try (simp (disch := decide) only [up_n, up_s, cp_n, rw_n, rw_s, up1_, if_true, if_false, ite_true, ite_false, reduceIte, eq_self, Int.reduceEq, true_and, and_true, not_true_eq_false, not_false_eq_true] at hc)))
      all_goals first | (exfalso; omega) | skip
      refine c_layAll (p := p) (lg := lgT p (t + 1)) ?_ hw hcc hal hpr ⟨h30, fun s z0 z1 => ⟨h34 s z0 z1, r36 s z0 z1, lg_01⟩⟩ (fun g32' g33' g35' hLI => ?_)
      · unfold XT
        rw [pg_up (by omega), pg_rw (by omega), pg_rw (by omega), pg_rw (by omega), pg_rw (by omega), pg_rw (by omega), pg_rw (by omega), pg_rw (by omega), pg_up (by omega), pg_up (by omega), pg_up (by omega), pg_up (by omega)]
        exact hp
      · have hh := ih (t + 1) g32' g33' g35' g36' g38' (by omega) (fun t' ht => by
          by_cases e : t' = t
          · rw [e]; exact hnd
          · exact q1 t' (by omega)) hLI r36 r38
        repeat' (first | (refine And.intro (by first | omega | (simp (disch := decide) only [up_n, up_s, cp_n, rw_n, rw_s, up1_, if_true, if_false, ite_true, ite_false, reduceIte, eq_self, Int.reduceEq, true_and, and_true, not_true_eq_false, not_false_eq_true]; omega)) ?_) | (refine And.intro (fun hc => ?_) (fun hc => ?_) <;> (try (simp (disch := decide) only [up_n, up_s, cp_n, rw_n, rw_s, up1_, if_true, if_false, ite_true, ite_false, reduceIte, eq_self, Int.reduceEq, true_and, and_true, not_true_eq_false, not_false_eq_true] at hc)) <;> (try (exfalso; omega))) | (refine fun (hc : ¬ _) => ?_; try (simp (disch := decide) only [up_n, up_s, cp_n, rw_n, rw_s, up1_, if_true, if_false, ite_true, ite_false, reduceIte, eq_self, Int.reduceEq, true_and, and_true, not_true_eq_false, not_false_eq_true] at hc)) | (refine fun (hc : _ = _) => ?_; try (simp (disch := decide) only [up_n, up_s, cp_n, rw_n, rw_s, up1_, if_true, if_false, ite_true, ite_false, reduceIte, eq_self, Int.reduceEq, true_and, and_true, not_true_eq_false, not_false_eq_true] at hc)))
        refine q_run hh ?_
        unfold XT
        clear ih h hh
        funext k i
        simp only [rw_, fr_up]
        by_cases z1 : k = 38
        · simp [z1]
        · by_cases z2 : k = 36
          · simp [z2]
          · by_cases z3 : k = 35
            · simp [z3]
            · by_cases z4 : k = 33
              · simp [z4]
              · by_cases z5 : k = 32
                · simp [z5]
                · by_cases z6 : k = 29
                  · subst z6
                    by_cases y1 : i = 13
                    · simp [y1]
                    · by_cases y2 : i = 14
                      · simp [y2]
                      · by_cases y3 : i = 15
                        · simp [y3]
                        · by_cases y4 : i = 16
                          · simp [y4]
                          · simp [y1, y2, y3, y4]
                  · simp [z1, z2, z3, z4, z5, z6]
    · have hh := h t g32 g33 g35 g36' g38' hd q1 q2 r36 r38
      clear h ih
      repeat' (first | (refine And.intro (by first | omega | (simp (disch := decide) only [up_n, up_s, cp_n, rw_n, rw_s, up1_, if_true, if_false, ite_true, ite_false, reduceIte, eq_self, Int.reduceEq, true_and, and_true, not_true_eq_false, not_false_eq_true]; omega)) ?_) | (refine And.intro (fun hc => ?_) (fun hc => ?_) <;> (try (simp (disch := decide) only [up_n, up_s, cp_n, rw_n, rw_s, up1_, if_true, if_false, ite_true, ite_false, reduceIte, eq_self, Int.reduceEq, true_and, and_true, not_true_eq_false, not_false_eq_true] at hc)) <;> (try (exfalso; omega))) | (refine fun (hc : ¬ _) => ?_; try (simp (disch := decide) only [up_n, up_s, cp_n, rw_n, rw_s, up1_, if_true, if_false, ite_true, ite_false, reduceIte, eq_self, Int.reduceEq, true_and, and_true, not_true_eq_false, not_false_eq_true] at hc)) | (refine fun (hc : _ = _) => ?_; try (simp (disch := decide) only [up_n, up_s, cp_n, rw_n, rw_s, up1_, if_true, if_false, ite_true, ite_false, reduceIte, eq_self, Int.reduceEq, true_and, and_true, not_true_eq_false, not_false_eq_true] at hc)))
      all_goals first | (exfalso; omega) | skip
      show Q none sh0 _
      refine q_of hh rfl ?_
      unfold XT
      rw [rw_cm (a := 36) (b := 38) (by decide), rw_rw, rw_rw]
