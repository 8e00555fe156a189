/-- the reference's cells of the layout -/
def RefP (p : fr_M) (T : Nat) (N : fr_M) : Prop := (dn p T ∧ ∀ t, t < T → ¬ dn p t) ∧ (N 75 28 = p 75 4 ∧ N 75 37 = (T : Int) ∧ N 75 38 = pos p (lgT p T) (cN p) ∧ N 75 39 = pos p (lgT p T) (cN p) + 8 * gd p (cN p)) ∧ (∀ k : Nat, (k : Int) < p 75 4 → N 96 (k : Int) = ln p k) ∧ (∀ b, 0 ≤ b → b < p 75 4 → N 97 b = nn (nx p b) ∧ N 98 b = ad p (lgT p T) b ∧ N 99 b = ea p (lgT p T) b ∧ N 100 b = be p (lgT p T) b) ∧ (∀ s, 0 ≤ s → s < 2 * p 75 4 → N 101 s = nn (tg p s) ∧ N 102 s = lgT p T s ∧ N 103 s = tnT p T s ∧ (tg p s ≠ -1 → N 104 s = jb p (lgT p T) s))
abbrev rc (k : Nat) (i : Int) : Prop := (96 ≤ k ∧ k ≤ 105) ∨ (k = 75 ∧ (i = 28 ∨ (37 ≤ i ∧ i ≤ 39)))
theorem pg_rc {M M' : fr_M} (h : ∀ k i, ¬ rc k i → M' k i = M k i) : pg M' = pg M := pg_cg (fun k i q => h k i (by omega))
set_option maxHeartbeats 4000000 in
set_option maxRecDepth 100000 in
theorem m_tot_l {M p : fr_M} {v1 : Int} {Q : Option fr_V → fr_H → fr_M → Prop} (hp : pg M = p) (hw : WF p) (h28 : M 75 28 = p 75 4) (h96 : ∀ k : Nat, (k : Int) < p 75 4 → M 96 (k : Int) = ln p k) {a : Int} (ha : 0 ≤ a ∧ a ≤ 20000) (h : Q none sh0 (fr_up M 75 39 (a + 8 * gd p (cN p)))) : ∀ (t k : Nat), k + t = cN p → fr_Run 182 none 23 [some (.inr (.inl 75)), some (.inl v1), some (.inl (k : Int))] [] sh0 (fr_up M 75 39 (a + 8 * gd p k)) 0 0 Q := by
  have hcN := cN_40 hw
  intro t
  induction t with
  | zero =>
    intro k q0
    have e : k = cN p := by omega
    subst e
    refine fr_go k182 [23] 400 rfl ?_
    repeat' (first | (refine And.intro (by first | omega | (simp (disch := decide) only [up_n, up_s, cp_n, rw_n, rw_s, up1_, if_true, if_false, ite_true, ite_false, reduceIte, eq_self, Int.reduceEq, true_and, and_true, not_true_eq_false, not_false_eq_true]; omega)) ?_) | (refine And.intro (fun hc => ?_) (fun hc => ?_) <;> (try (simp (disch := decide) only [up_n, up_s, cp_n, rw_n, rw_s, up1_, if_true, if_false, ite_true, ite_false, reduceIte, eq_self, Int.reduceEq, true_and, and_true, not_true_eq_false, not_false_eq_true] at hc)) <;> (try (exfalso; omega))) | (refine fun (hc : ¬ _) => ?_; try (simp (disch := decide) only [up_n, up_s, cp_n, rw_n, rw_s, up1_, if_true, if_false, ite_true, ite_false, reduceIte, eq_self, Int.reduceEq, true_and, and_true, not_true_eq_false, not_false_eq_true] at hc)) | (refine fun (hc : _ = _) => ?_; try (simp (disch := decide) only [up_n, up_s, cp_n, rw_n, rw_s, up1_, if_true, if_false, ite_true, ite_false, reduceIte, eq_self, Int.reduceEq, true_and, and_true, not_true_eq_false, not_false_eq_true] at hc)))
    all_goals first | (exfalso; omega) | exact h
  | succ t ih =>
    intro k q0
    have hk : k < cN p := by omega
    have hr := ln_rng hw hk
    have e1 := h96 k (by omega)
    have b2 := gd_b (p := p) (k := k)
    have ek : p 82 (ln p k) = M 82 (ln p k) := by rw [← hp]; rfl
    have hh := ih (k + 1) (by omega)
    rw [show gd p (k + 1) = gd p k + (if p 82 (ln p k) = 6 then 1 else 0) from rfl, ek] at hh
    clear ih h
    have e1' : fr_up M 75 39 (a + 8 * gd p k) 96 (k : Int) = ln p k := e1
    refine fr_go k182 [36] 400 rfl ?_
    repeat' (first | (refine And.intro (by first | omega | (simp (disch := decide) only [up_n, up_s, cp_n, rw_n, rw_s, up1_, if_true, if_false, ite_true, ite_false, reduceIte, eq_self, Int.reduceEq, true_and, and_true, not_true_eq_false, not_false_eq_true]; omega)) ?_) | (refine And.intro (fun hc => ?_) (fun hc => ?_) <;> (try (simp (disch := decide) only [up_n, up_s, cp_n, rw_n, rw_s, up1_, if_true, if_false, ite_true, ite_false, reduceIte, eq_self, Int.reduceEq, true_and, and_true, not_true_eq_false, not_false_eq_true] at hc)) <;> (try (exfalso; omega))) | (refine fun (hc : ¬ _) => ?_; try (simp (disch := decide) only [up_n, up_s, cp_n, rw_n, rw_s, up1_, if_true, if_false, ite_true, ite_false, reduceIte, eq_self, Int.reduceEq, true_and, and_true, not_true_eq_false, not_false_eq_true] at hc)) | (refine fun (hc : _ = _) => ?_; try (simp (disch := decide) only [up_n, up_s, cp_n, rw_n, rw_s, up1_, if_true, if_false, ite_true, ite_false, reduceIte, eq_self, Int.reduceEq, true_and, and_true, not_true_eq_false, not_false_eq_true] at hc)))
    all_goals first | (exfalso; omega) | skip
    all_goals (show fr_Run 182 none 36 _ _ _ _ 0 0 Q)
    simp (disch := decide) only [up_n, up_s, cp_n, rw_n, rw_s, up1_, if_true, if_false, ite_true, ite_false, reduceIte, eq_self, Int.reduceEq, true_and, and_true, not_true_eq_false, not_false_eq_true]
    rw [e1]
    by_cases h6 : M 82 (ln p k) = 6
    · rw [if_pos h6, show a + 8 * (gd p k + 1) = a + 8 * gd p k + 8 by omega] at hh
      refine fr_go k182 [23] 400 rfl ?_
      repeat' (first | (refine And.intro (by first | omega | (simp (disch := decide) only [up_n, up_s, cp_n, rw_n, rw_s, up1_, if_true, if_false, ite_true, ite_false, reduceIte, eq_self, Int.reduceEq, true_and, and_true, not_true_eq_false, not_false_eq_true]; omega)) ?_) | (refine And.intro (fun hc => ?_) (fun hc => ?_) <;> (try (simp (disch := decide) only [up_n, up_s, cp_n, rw_n, rw_s, up1_, if_true, if_false, ite_true, ite_false, reduceIte, eq_self, Int.reduceEq, true_and, and_true, not_true_eq_false, not_false_eq_true] at hc)) <;> (try (exfalso; omega))) | (refine fun (hc : ¬ _) => ?_; try (simp (disch := decide) only [up_n, up_s, cp_n, rw_n, rw_s, up1_, if_true, if_false, ite_true, ite_false, reduceIte, eq_self, Int.reduceEq, true_and, and_true, not_true_eq_false, not_false_eq_true] at hc)) | (refine fun (hc : _ = _) => ?_; try (simp (disch := decide) only [up_n, up_s, cp_n, rw_n, rw_s, up1_, if_true, if_false, ite_true, ite_false, reduceIte, eq_self, Int.reduceEq, true_and, and_true, not_true_eq_false, not_false_eq_true] at hc)))
      all_goals first | (exfalso; omega) | skip
      simp (disch := decide) only [up_rw, rw_u, up_up, rw_rw, rw_cm]
      exact hh
    · rw [if_neg h6, show a + 8 * (gd p k + 0) = a + 8 * gd p k + 0 by omega] at hh
      refine fr_go k182 [23] 400 rfl ?_
      repeat' (first | (refine And.intro (by first | omega | (simp (disch := decide) only [up_n, up_s, cp_n, rw_n, rw_s, up1_, if_true, if_false, ite_true, ite_false, reduceIte, eq_self, Int.reduceEq, true_and, and_true, not_true_eq_false, not_false_eq_true]; omega)) ?_) | (refine And.intro (fun hc => ?_) (fun hc => ?_) <;> (try (simp (disch := decide) only [up_n, up_s, cp_n, rw_n, rw_s, up1_, if_true, if_false, ite_true, ite_false, reduceIte, eq_self, Int.reduceEq, true_and, and_true, not_true_eq_false, not_false_eq_true] at hc)) <;> (try (exfalso; omega))) | (refine fun (hc : ¬ _) => ?_; try (simp (disch := decide) only [up_n, up_s, cp_n, rw_n, rw_s, up1_, if_true, if_false, ite_true, ite_false, reduceIte, eq_self, Int.reduceEq, true_and, and_true, not_true_eq_false, not_false_eq_true] at hc)) | (refine fun (hc : _ = _) => ?_; try (simp (disch := decide) only [up_n, up_s, cp_n, rw_n, rw_s, up1_, if_true, if_false, ite_true, ite_false, reduceIte, eq_self, Int.reduceEq, true_and, and_true, not_true_eq_false, not_false_eq_true] at hc)))
      all_goals first | (exfalso; omega) | skip
      simp (disch := decide) only [up_rw, rw_u, up_up, rw_rw, rw_cm]
      exact hh
set_option maxHeartbeats 4000000 in
set_option maxRecDepth 100000 in
theorem m_ly_l {M p : fr_M} {Q : Option fr_V → fr_H → fr_M → Prop} (hp : pg M = p) (hw : WF p) (h : ∀ M' (T : Nat), (∀ k i, ¬ rc k i → M' k i = M k i) → RefP p T M' → Q none sh0 M') : ∀ (n t : Nat) (M1 : fr_M) (x2 : Option fr_V), t + n = 81 → (∀ k i, ¬ rc k i → M1 k i = M k i) → (∀ t', t' < t → ¬ dn p t') → (∀ s, 0 ≤ s → s < 2 * p 75 4 → M1 101 s = nn (tg p s) ∧ M1 102 s = lgT p t s ∧ M1 103 s = tnT p t s) → M1 75 28 = p 75 4 → M1 75 37 = (t : Int) → (∀ k : Nat, (k : Int) < p 75 4 → M1 96 (k : Int) = ln p k) → (∀ b, 0 ≤ b → b < p 75 4 → M1 97 b = nn (nx p b)) → fr_Run 182 none 9 [some (.inr (.inl 75)), some (.inl 1), x2] [] sh0 M1 0 0 Q := by
  have h40 := hw.1.1
  have hcN := cN_40 hw
  intro n
  induction n with
  | zero =>
    intro t M1 x2 q0 q1 q2 q3 q4 q5 q6 q7
    have := turns_80 hw q2
    omega
  | succ n ih =>
    intro t M1 x2 q0 q1 q2 q3 q4 q5 q6 q7
    have hp1 : pg M1 = p := by rw [pg_rc q1]; exact hp
    refine fr_go k182 [9] 400 rfl ?_
    repeat' (first | (refine And.intro (by first | omega | (simp (disch := decide) only [up_n, up_s, cp_n, rw_n, rw_s, up1_, if_true, if_false, ite_true, ite_false, reduceIte, eq_self, Int.reduceEq, true_and, and_true, not_true_eq_false, not_false_eq_true]; omega)) ?_) | (refine And.intro (fun hc => ?_) (fun hc => ?_) <;> (try (simp (disch := decide) only [up_n, up_s, cp_n, rw_n, rw_s, up1_, if_true, if_false, ite_true, ite_false, reduceIte, eq_self, Int.reduceEq, true_and, and_true, not_true_eq_false, not_false_eq_true] at hc)) <;> (try (exfalso; omega))) | (refine fun (hc : ¬ _) => ?_; try (simp (disch := decide) only [up_n, up_s, cp_n, rw_n, rw_s, up1_, if_true, if_false, ite_true, ite_false, reduceIte, eq_self, Int.reduceEq, true_and, and_true, not_true_eq_false, not_false_eq_true] at hc)) | (refine fun (hc : _ = _) => ?_; try (simp (disch := decide) only [up_n, up_s, cp_n, rw_n, rw_s, up1_, if_true, if_false, ite_true, ite_false, reduceIte, eq_self, Int.reduceEq, true_and, and_true, not_true_eq_false, not_false_eq_true] at hc)))
    all_goals first | (exfalso; omega) | skip
    refine m_laysOut (p := p) (lg := lgT p t) hp1 hw ⟨q4, q6, fun s z0 z1 => ⟨(q3 s z0 z1).1, (q3 s z0 z1).2.1, lg_01⟩⟩ (fun g98 g99 g100 g104 hMI => ?_)
    have hall := hMI.all hw
    repeat' (first | (refine And.intro (by first | omega | (simp (disch := decide) only [up_n, up_s, cp_n, rw_n, rw_s, up1_, if_true, if_false, ite_true, ite_false, reduceIte, eq_self, Int.reduceEq, true_and, and_true, not_true_eq_false, not_false_eq_true]; omega)) ?_) | (refine And.intro (fun hc => ?_) (fun hc => ?_) <;> (try (simp (disch := decide) only [up_n, up_s, cp_n, rw_n, rw_s, up1_, if_true, if_false, ite_true, ite_false, reduceIte, eq_self, Int.reduceEq, true_and, and_true, not_true_eq_false, not_false_eq_true] at hc)) <;> (try (exfalso; omega))) | (refine fun (hc : ¬ _) => ?_; try (simp (disch := decide) only [up_n, up_s, cp_n, rw_n, rw_s, up1_, if_true, if_false, ite_true, ite_false, reduceIte, eq_self, Int.reduceEq, true_and, and_true, not_true_eq_false, not_false_eq_true] at hc)) | (refine fun (hc : _ = _) => ?_; try (simp (disch := decide) only [up_n, up_s, cp_n, rw_n, rw_s, up1_, if_true, if_false, ite_true, ite_false, reduceIte, eq_self, Int.reduceEq, true_and, and_true, not_true_eq_false, not_false_eq_true] at hc)))
    refine m_growsSome (p := p) (t := t) ?_ hw (fun s z0 z1 => (q3 s z0 z1).1) (fun s z0 z1 => (q3 s z0 z1).2.1) (fun s z0 z1 => (q3 s z0 z1).2.2) (fun b z0 z1 => (hall.1 b z0 z1).1) hall.2 q5 (by omega) (fun hnd g102 g103 g105 r102 r103 => ?_) (fun hd g102 g103 g105 r102 r103 => ?_)
    · rw [pg_rw (by omega), pg_rw (by omega), pg_rw (by omega), pg_rw (by omega), pg_up (by omega)]
      exact hp1
    · repeat' (first | (refine And.intro (by first | omega | (simp (disch := decide) only [up_n, up_s, cp_n, rw_n, rw_s, up1_, if_true, if_false, ite_true, ite_false, reduceIte, eq_self, Int.reduceEq, true_and, and_true, not_true_eq_false, not_false_eq_true]; omega)) ?_) | (refine And.intro (fun hc => ?_) (fun hc => ?_) <;> (try (simp (disch := decide) only [up_n, up_s, cp_n, rw_n, rw_s, up1_, if_true, if_false, ite_true, ite_false, reduceIte, eq_self, Int.reduceEq, true_and, and_true, not_true_eq_false, not_false_eq_true] at hc)) <;> (try (exfalso; omega))) | (refine fun (hc : ¬ _) => ?_; try (simp (disch := decide) only [up_n, up_s, cp_n, rw_n, rw_s, up1_, if_true, if_false, ite_true, ite_false, reduceIte, eq_self, Int.reduceEq, true_and, and_true, not_true_eq_false, not_false_eq_true] at hc)) | (refine fun (hc : _ = _) => ?_; try (simp (disch := decide) only [up_n, up_s, cp_n, rw_n, rw_s, up1_, if_true, if_false, ite_true, ite_false, reduceIte, eq_self, Int.reduceEq, true_and, and_true, not_true_eq_false, not_false_eq_true] at hc)))
      refine ih (t + 1) _ x2 (by omega) (fun k i hk => ?_) (fun t' ht => ?_) (fun s z0 z1 => ⟨(q3 s z0 z1).1, r102 s z0 z1, r103 s z0 z1⟩) q4 rfl q6 q7
      · rw [rw_n (by omega), rw_n (by omega), rw_n (by omega), up_x (by omega), rw_n (by omega), rw_n (by omega), rw_n (by omega), rw_n (by omega), up_x (by omega)]
        exact q1 k i hk
      · by_cases e : t' = t
        · rw [e]; exact hnd
        · exact q2 t' (by omega)
    · clear ih
      repeat' (first | (refine And.intro (by first | omega | (simp (disch := decide) only [up_n, up_s, cp_n, rw_n, rw_s, up1_, if_true, if_false, ite_true, ite_false, reduceIte, eq_self, Int.reduceEq, true_and, and_true, not_true_eq_false, not_false_eq_true]; omega)) ?_) | (refine And.intro (fun hc => ?_) (fun hc => ?_) <;> (try (simp (disch := decide) only [up_n, up_s, cp_n, rw_n, rw_s, up1_, if_true, if_false, ite_true, ite_false, reduceIte, eq_self, Int.reduceEq, true_and, and_true, not_true_eq_false, not_false_eq_true] at hc)) <;> (try (exfalso; omega))) | (refine fun (hc : ¬ _) => ?_; try (simp (disch := decide) only [up_n, up_s, cp_n, rw_n, rw_s, up1_, if_true, if_false, ite_true, ite_false, reduceIte, eq_self, Int.reduceEq, true_and, and_true, not_true_eq_false, not_false_eq_true] at hc)) | (refine fun (hc : _ = _) => ?_; try (simp (disch := decide) only [up_n, up_s, cp_n, rw_n, rw_s, up1_, if_true, if_false, ite_true, ite_false, reduceIte, eq_self, Int.reduceEq, true_and, and_true, not_true_eq_false, not_false_eq_true] at hc)))
      refine fr_go k182 [23] 400 rfl ?_
      repeat' (first | (refine And.intro (by first | omega | (simp (disch := decide) only [up_n, up_s, cp_n, rw_n, rw_s, up1_, if_true, if_false, ite_true, ite_false, reduceIte, eq_self, Int.reduceEq, true_and, and_true, not_true_eq_false, not_false_eq_true]; omega)) ?_) | (refine And.intro (fun hc => ?_) (fun hc => ?_) <;> (try (simp (disch := decide) only [up_n, up_s, cp_n, rw_n, rw_s, up1_, if_true, if_false, ite_true, ite_false, reduceIte, eq_self, Int.reduceEq, true_and, and_true, not_true_eq_false, not_false_eq_true] at hc)) <;> (try (exfalso; omega))) | (refine fun (hc : ¬ _) => ?_; try (simp (disch := decide) only [up_n, up_s, cp_n, rw_n, rw_s, up1_, if_true, if_false, ite_true, ite_false, reduceIte, eq_self, Int.reduceEq, true_and, and_true, not_true_eq_false, not_false_eq_true] at hc)) | (refine fun (hc : _ = _) => ?_; try (simp (disch := decide) only [up_n, up_s, cp_n, rw_n, rw_s, up1_, if_true, if_false, ite_true, ite_false, reduceIte, eq_self, Int.reduceEq, true_and, and_true, not_true_eq_false, not_false_eq_true] at hc)))
      all_goals first | (exfalso; omega) | skip
      simp (disch := decide) only [up_n, up_s, cp_n, rw_n, rw_s, up1_, if_true, if_false, ite_true, ite_false, reduceIte, eq_self, Int.reduceEq, true_and, and_true, not_true_eq_false, not_false_eq_true]
      have hb := pos_b hw (lg := lgT p t) (k := cN p) (by omega)
      refine q_run (m_tot_l (M := fr_up (rw_ (rw_ (rw_ (fr_up (rw_ (rw_ (rw_ (rw_ (fr_up M1 75 38 (pos p (lgT p t) (cN p))) 98 g98) 99 g99) 100 g100) 104 g104) 75 37 (t : Int)) 105 g105) 102 g102) 103 g103) 75 39 0) (p := p) (v1 := 0) (a := pos p (lgT p t) (cN p)) ?_ hw q4 q6 (by omega) ?_ (cN p) 0 (by omega)) ?_
      · rw [pg_up (by omega), pg_rw (by omega), pg_rw (by omega), pg_rw (by omega), pg_up (by omega), pg_rw (by omega), pg_rw (by omega), pg_rw (by omega), pg_rw (by omega), pg_up (by omega)]
        exact hp1
      · refine h _ t (fun k i hk => ?_) ⟨⟨hd, q2⟩, ⟨q4, rfl, rfl, rfl⟩, q6, fun b z0 z1 => ⟨q7 b z0 z1, (hall.1 b z0 z1).1, (hall.1 b z0 z1).2.1, (hall.1 b z0 z1).2.2⟩, fun s z0 z1 => ⟨(q3 s z0 z1).1, r102 s z0 z1, r103 s z0 z1, hall.2 s z0 z1⟩⟩
        rw [up_x (by omega), up_x (by omega), rw_n (by omega), rw_n (by omega), rw_n (by omega), up_x (by omega), rw_n (by omega), rw_n (by omega), rw_n (by omega), rw_n (by omega), up_x (by omega)]
        exact q1 k i hk
      · rw [up_up]
        rw [show gd p 0 = 0 from rfl, show pos p (lgT p t) (cN p) + 8 * 0 = pos p (lgT p t) (cN p) by omega]
        rfl
set_option maxHeartbeats 4000000 in
set_option maxRecDepth 100000 in
theorem m_lays {M : fr_M} {Q : Option fr_V → fr_H → fr_M → Prop} (hw : WF (pg M)) (h1 : P1 M) (h2 : P2 M) (h4 : P4 M) (o1 : O1 M) (s1 : S1 M) (h : ∀ M' (T : Nat), (∀ k i, ¬ rc k i → M' k i = M k i) → RefP (pg M) T M' → Q none sh0 M') : fr_Call 182 [.inr (.inl 75)] sh0 M Q := by
  have hc4 : pg M 75 4 = M 75 4 := rfl
  refine fr_cgo k182 [some (.inr (.inl 75)), none, none] 0 0 [9] 400 rfl rfl rfl rfl ?_
  refine m_makeRow hw h1 h2 h4 o1 s1 (fun g96 g97 hg96 hg97 => ?_)
  repeat' (first | (refine And.intro (by first | omega | (simp (disch := decide) only [up_n, up_s, cp_n, rw_n, rw_s, up1_, if_true, if_false, ite_true, ite_false, reduceIte, eq_self, Int.reduceEq, true_and, and_true, not_true_eq_false, not_false_eq_true]; omega)) ?_) | (refine And.intro (fun hc => ?_) (fun hc => ?_) <;> (try (simp (disch := decide) only [up_n, up_s, cp_n, rw_n, rw_s, up1_, if_true, if_false, ite_true, ite_false, reduceIte, eq_self, Int.reduceEq, true_and, and_true, not_true_eq_false, not_false_eq_true] at hc)) <;> (try (exfalso; omega))) | (refine fun (hc : ¬ _) => ?_; try (simp (disch := decide) only [up_n, up_s, cp_n, rw_n, rw_s, up1_, if_true, if_false, ite_true, ite_false, reduceIte, eq_self, Int.reduceEq, true_and, and_true, not_true_eq_false, not_false_eq_true] at hc)) | (refine fun (hc : _ = _) => ?_; try (simp (disch := decide) only [up_n, up_s, cp_n, rw_n, rw_s, up1_, if_true, if_false, ite_true, ite_false, reduceIte, eq_self, Int.reduceEq, true_and, and_true, not_true_eq_false, not_false_eq_true] at hc)))
  have hp1 : pg (rw_ (rw_ (fr_up M 75 28 (M 75 4)) 96 g96) 97 g97) = pg M := by
    rw [pg_rw (by omega), pg_rw (by omega), pg_up (by omega)]
  refine m_makeJumps (p := pg M) hp1 hw hg97 (fun g101 g102 g103 hj => ?_)
  repeat' (first | (refine And.intro (by first | omega | (simp (disch := decide) only [up_n, up_s, cp_n, rw_n, rw_s, up1_, if_true, if_false, ite_true, ite_false, reduceIte, eq_self, Int.reduceEq, true_and, and_true, not_true_eq_false, not_false_eq_true]; omega)) ?_) | (refine And.intro (fun hc => ?_) (fun hc => ?_) <;> (try (simp (disch := decide) only [up_n, up_s, cp_n, rw_n, rw_s, up1_, if_true, if_false, ite_true, ite_false, reduceIte, eq_self, Int.reduceEq, true_and, and_true, not_true_eq_false, not_false_eq_true] at hc)) <;> (try (exfalso; omega))) | (refine fun (hc : ¬ _) => ?_; try (simp (disch := decide) only [up_n, up_s, cp_n, rw_n, rw_s, up1_, if_true, if_false, ite_true, ite_false, reduceIte, eq_self, Int.reduceEq, true_and, and_true, not_true_eq_false, not_false_eq_true] at hc)) | (refine fun (hc : _ = _) => ?_; try (simp (disch := decide) only [up_n, up_s, cp_n, rw_n, rw_s, up1_, if_true, if_false, ite_true, ite_false, reduceIte, eq_self, Int.reduceEq, true_and, and_true, not_true_eq_false, not_false_eq_true] at hc)))
  refine m_ly_l (M := M) (p := pg M) rfl hw h 81 0 _ _ (by omega) (fun k i hk => ?_) (fun t' ht => absurd ht (by omega)) (fun s z0 z1 => ?_) rfl rfl hg96 hg97
  · rw [up_x (by omega), rw_n (by omega), rw_n (by omega), rw_n (by omega), rw_n (by omega), rw_n (by omega), up_x (by omega)]
  · have := hj (s / 2) (by omega) (by omega)
    unfold tg
    by_cases es : s % 2 = 0
    · rw [if_pos es]
      have t3 := this
      unfold MJ at t3
      rw [show 2 * (s / 2) = s by omega] at t3
      exact ⟨t3.1, t3.2.2.1, t3.2.2.2.2.1⟩
    · rw [if_neg es]
      have t3 := this
      unfold MJ at t3
      rw [show 2 * (s / 2) + 1 = s by omega] at t3
      exact ⟨t3.2.1, t3.2.2.2.1, t3.2.2.2.2.2⟩
