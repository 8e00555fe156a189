abbrev gq (k : Nat) (i : Int) : Prop := (111 ≤ k ∧ k ≤ 116) ∨ (k = 75 ∧ (i = 50 ∨ i = 52))
theorem QN.cg {p : fr_M} {tp : Int → Int} {N X : fr_M} (h : QN p tp N) (e : ∀ k i, ¬ gq k i → X k i = N k i) : QN p tp X := by
  obtain ⟨n1, n2, n3⟩ := h
  refine ⟨by rw [← n1]; exact pg_cg (fun k i q => e k i (by omega)), ?_, fun i q0 => ?_⟩
  · rw [e 75 17 (by omega)]
    exact n2
  · rw [e 75 17 (by omega), e 87 _ (by omega)]
    exact n3 i q0
theorem QL.cg {p : fr_M} {z : Int} {N X : fr_M} (h : QL p z N) (e : ∀ k i, ¬ gq k i → X k i = N k i) : QL p z X := by
  obtain ⟨n1, n2⟩ := h
  refine ⟨n1, fun q => ⟨fun b q0 q1 => ?_, fun s q0 q1 => ?_⟩⟩
  · rw [e 97 _ (by omega)]
    exact (n2 q).1 b q0 q1
  · rw [e 101 _ (by omega)]
    exact (n2 q).2 s q0 q1
set_option maxHeartbeats 4000000 in
set_option maxRecDepth 100000 in
theorem m_g1 {M : fr_M} {b z : Int} {Q : Option fr_V → fr_H → fr_M → Prop} (h : ∀ g, (∀ i, 0 ≤ i → i < 9 → g i = 0) → fr_Run 198 none 12 [some (.inr (.inl 75)), some (.inl b), some (.inl z), some (.inl 9), none] [] sh0 (rw_ M 111 g) 0 0 Q) : ∀ (t : Nat) (i : Int) (g : Int → Int), 0 ≤ i → i + t = 9 → (∀ j, 0 ≤ j → j < i → g j = 0) → fr_Run 198 none 2 [some (.inr (.inl 75)), some (.inl b), some (.inl z), some (.inl i), none] [] sh0 (rw_ M 111 g) 0 0 Q := by
  intro t
  induction t with
  | zero =>
    intro i g q0 q1 q2
    have e : i = 9 := by omega
    subst e
    have hh := h g q2
    refine fr_go k198 [2, 12] 400 rfl ?_
    repeat' (first | (refine And.intro (by first | omega | (simp (disch := decide) only [up_n, up_s, cp_n, rw_n, rw_s, up1_, if_true, if_false, ite_true, ite_false, reduceIte, eq_self, Int.reduceEq, true_and, and_true, not_true_eq_false, not_false_eq_true]; omega)) ?_) | (refine And.intro (fun hc => ?_) (fun hc => ?_) <;> (try (simp (disch := decide) only [up_n, up_s, cp_n, rw_n, rw_s, up1_, if_true, if_false, ite_true, ite_false, reduceIte, eq_self, Int.reduceEq, true_and, and_true, not_true_eq_false, not_false_eq_true] at hc)) <;> (try (exfalso; omega))) | (refine fun (hc : ¬ _) => ?_; try (simp (disch := decide) only [up_n, up_s, cp_n, rw_n, rw_s, up1_, if_true, if_false, ite_true, ite_false, reduceIte, eq_self, Int.reduceEq, true_and, and_true, not_true_eq_false, not_false_eq_true] at hc)) | (refine fun (hc : _ = _) => ?_; try (simp (disch := decide) only [up_n, up_s, cp_n, rw_n, rw_s, up1_, if_true, if_false, ite_true, ite_false, reduceIte, eq_self, Int.reduceEq, true_and, and_true, not_true_eq_false, not_false_eq_true] at hc)))
    all_goals first | (exfalso; omega) | exact hh
  | succ t ih =>
    intro i g q0 q1 q2
    have hh := ih (i + 1) (up1 g i 0) (by omega) (by omega) (fun j y0 y1 => by
      rw [up1_]
      split
      · rfl
      · exact q2 j y0 (by omega))
    clear ih h
    refine fr_go k198 [2, 12] 400 rfl ?_
    repeat' (first | (refine And.intro (by first | omega | (simp (disch := decide) only [up_n, up_s, cp_n, rw_n, rw_s, up1_, if_true, if_false, ite_true, ite_false, reduceIte, eq_self, Int.reduceEq, true_and, and_true, not_true_eq_false, not_false_eq_true]; omega)) ?_) | (refine And.intro (fun hc => ?_) (fun hc => ?_) <;> (try (simp (disch := decide) only [up_n, up_s, cp_n, rw_n, rw_s, up1_, if_true, if_false, ite_true, ite_false, reduceIte, eq_self, Int.reduceEq, true_and, and_true, not_true_eq_false, not_false_eq_true] at hc)) <;> (try (exfalso; omega))) | (refine fun (hc : ¬ _) => ?_; try (simp (disch := decide) only [up_n, up_s, cp_n, rw_n, rw_s, up1_, if_true, if_false, ite_true, ite_false, reduceIte, eq_self, Int.reduceEq, true_and, and_true, not_true_eq_false, not_false_eq_true] at hc)) | (refine fun (hc : _ = _) => ?_; try (simp (disch := decide) only [up_n, up_s, cp_n, rw_n, rw_s, up1_, if_true, if_false, ite_true, ite_false, reduceIte, eq_self, Int.reduceEq, true_and, and_true, not_true_eq_false, not_false_eq_true] at hc)))
    all_goals first | (exfalso; omega) | skip
    simp (disch := decide) only [up_rw, rw_u, up_up, rw_rw, rw_cm]
    exact hh
set_option maxHeartbeats 4000000 in
set_option maxRecDepth 100000 in
theorem m_g2 {M : fr_M} {b z : Int} {Q : Option fr_V → fr_H → fr_M → Prop} (h : ∀ g, (∀ i, 0 ≤ i → i < 160 → g i = 0) → fr_Run 198 none 24 [some (.inr (.inl 75)), some (.inl b), some (.inl z), some (.inl 160), none] [] sh0 (rw_ M 115 g) 0 0 Q) : ∀ (t : Nat) (i : Int) (g : Int → Int), 0 ≤ i → i + t = 160 → (∀ j, 0 ≤ j → j < i → g j = 0) → fr_Run 198 none 14 [some (.inr (.inl 75)), some (.inl b), some (.inl z), some (.inl i), none] [] sh0 (rw_ M 115 g) 0 0 Q := by
  intro t
  induction t with
  | zero =>
    intro i g q0 q1 q2
    have e : i = 160 := by omega
    subst e
    have hh := h g q2
    refine fr_go k198 [14, 24] 400 rfl ?_
    repeat' (first | (refine And.intro (by first | omega | (simp (disch := decide) only [up_n, up_s, cp_n, rw_n, rw_s, up1_, if_true, if_false, ite_true, ite_false, reduceIte, eq_self, Int.reduceEq, true_and, and_true, not_true_eq_false, not_false_eq_true]; omega)) ?_) | (refine And.intro (fun hc => ?_) (fun hc => ?_) <;> (try (simp (disch := decide) only [up_n, up_s, cp_n, rw_n, rw_s, up1_, if_true, if_false, ite_true, ite_false, reduceIte, eq_self, Int.reduceEq, true_and, and_true, not_true_eq_false, not_false_eq_true] at hc)) <;> (try (exfalso; omega))) | (refine fun (hc : ¬ _) => ?_; try (simp (disch := decide) only [up_n, up_s, cp_n, rw_n, rw_s, up1_, if_true, if_false, ite_true, ite_false, reduceIte, eq_self, Int.reduceEq, true_and, and_true, not_true_eq_false, not_false_eq_true] at hc)) | (refine fun (hc : _ = _) => ?_; try (simp (disch := decide) only [up_n, up_s, cp_n, rw_n, rw_s, up1_, if_true, if_false, ite_true, ite_false, reduceIte, eq_self, Int.reduceEq, true_and, and_true, not_true_eq_false, not_false_eq_true] at hc)))
    all_goals first | (exfalso; omega) | exact hh
  | succ t ih =>
    intro i g q0 q1 q2
    have hh := ih (i + 1) (up1 g i 0) (by omega) (by omega) (fun j y0 y1 => by
      rw [up1_]
      split
      · rfl
      · exact q2 j y0 (by omega))
    clear ih h
    refine fr_go k198 [14, 24] 400 rfl ?_
    repeat' (first | (refine And.intro (by first | omega | (simp (disch := decide) only [up_n, up_s, cp_n, rw_n, rw_s, up1_, if_true, if_false, ite_true, ite_false, reduceIte, eq_self, Int.reduceEq, true_and, and_true, not_true_eq_false, not_false_eq_true]; omega)) ?_) | (refine And.intro (fun hc => ?_) (fun hc => ?_) <;> (try (simp (disch := decide) only [up_n, up_s, cp_n, rw_n, rw_s, up1_, if_true, if_false, ite_true, ite_false, reduceIte, eq_self, Int.reduceEq, true_and, and_true, not_true_eq_false, not_false_eq_true] at hc)) <;> (try (exfalso; omega))) | (refine fun (hc : ¬ _) => ?_; try (simp (disch := decide) only [up_n, up_s, cp_n, rw_n, rw_s, up1_, if_true, if_false, ite_true, ite_false, reduceIte, eq_self, Int.reduceEq, true_and, and_true, not_true_eq_false, not_false_eq_true] at hc)) | (refine fun (hc : _ = _) => ?_; try (simp (disch := decide) only [up_n, up_s, cp_n, rw_n, rw_s, up1_, if_true, if_false, ite_true, ite_false, reduceIte, eq_self, Int.reduceEq, true_and, and_true, not_true_eq_false, not_false_eq_true] at hc)))
    all_goals first | (exfalso; omega) | skip
    simp (disch := decide) only [up_rw, rw_u, up_up, rw_rw, rw_cm]
    exact hh
def GF0 (p : fr_M) (tp : Int → Int) (b : Int) (K : Nat) (X : fr_M) : Prop := X 111 0 = ren (rs p tp b K) ∧ X 111 1 = (K : Int) ∧ X 111 2 = (rs p tp b K).2.1 ∧ X 111 3 = (rs p tp b K).2.2.2.1 ∧ (X 111 4 = 0 ∧ X 111 5 = 0 ∧ X 111 6 = 0 ∧ X 111 7 = 0 ∧ X 111 8 = 0) ∧ (∀ j : Nat, j < K → X 112 (j : Int) = (rs p tp b j).1) ∧ (∀ i, 0 ≤ i → i < 160 → X 115 i = (rs p tp b K).2.2.2.2.1 i)
theorem xm_id {X : fr_M} : rw_ (rw_ (rw_ (fr_up X 75 50 (X 75 50)) 111 (X 111)) 113 (X 113)) 115 (X 115) = X := by
  rw [up_id rfl, rw_id, rw_id, rw_id]
set_option maxHeartbeats 4000000 in
set_option maxRecDepth 100000 in
theorem m_gp_l {N p : fr_M} {tp : Int → Int} {b0 : Int} {Q : Option fr_V → fr_H → fr_M → Prop} (hw : WF p) (hN : QN p tp N) (hb : 0 ≤ b0 ∧ b0 < p 75 4) (h : ∀ X K, (∀ k i, ¬ gq k i → X k i = N k i) → REnd p tp b0 K → GF0 p tp b0 K X → Q none sh0 X) : ∀ (t k : Nat) (X : fr_M), k + t = 200 → (∀ k i, ¬ gq k i → X k i = N k i) → (∀ j, j < k → 0 ≤ (rs p tp b0 j).1) → MR 0 (X 75 50) (X 111) (X 113) (X 115) (rs p tp b0 k) → (X 111 1 = (k : Int) ∧ X 111 8 = 0) → (∀ j : Nat, j < k → X 112 (j : Int) = (rs p tp b0 j).1) → fr_Run 198 none 36 [some (.inr (.inl 75)), some (.inl b0), some (.inl 0), some (.inl (rs p tp b0 k).1), none] [] sh0 X 0 0 Q := by
  have ht := fun i q0 => (hN.2.2 i q0).2
  have h40 := hw.1.1
  intro t
  induction t with
  | zero =>
    intro k X q0 q1 q2 q3 q5 q6
    have e : k = 200 := by omega
    subst e
    have hSI := rs_si hw ht hb 200
    have hr := hSI.1
    have c6 := q3.2.2.2.2.2.1 rfl
    by_cases hneg : (rs p tp b0 200).1 < 0
    · have hh := h (fr_up X 111 0 (-1 - (rs p tp b0 200).1)) 200 (fun k i hk => by rw [up_x (by omega)]; exact q1 k i hk) ⟨Nat.le_refl _, q2, Or.inl hneg⟩ ⟨by unfold ren; rw [if_pos hneg]; rfl, q5.1, q3.1, q3.2.2.1, ⟨c6.1, c6.2.1, c6.2.2.1, c6.2.2.2, q5.2⟩, q6, q3.2.2.2.1⟩
      clear h
      refine fr_go k198 [36] 400 rfl ?_
      repeat' (first | (refine And.intro (by first | omega | (simp (disch := decide) only [up_n, up_s, cp_n, rw_n, rw_s, up1_, if_true, if_false, ite_true, ite_false, reduceIte, eq_self, Int.reduceEq, true_and, and_true, not_true_eq_false, not_false_eq_true]; omega)) ?_) | (refine And.intro (fun hc => ?_) (fun hc => ?_) <;> (try (simp (disch := decide) only [up_n, up_s, cp_n, rw_n, rw_s, up1_, if_true, if_false, ite_true, ite_false, reduceIte, eq_self, Int.reduceEq, true_and, and_true, not_true_eq_false, not_false_eq_true] at hc)) <;> (try (exfalso; omega))) | (refine fun (hc : ¬ _) => ?_; try (simp (disch := decide) only [up_n, up_s, cp_n, rw_n, rw_s, up1_, if_true, if_false, ite_true, ite_false, reduceIte, eq_self, Int.reduceEq, true_and, and_true, not_true_eq_false, not_false_eq_true] at hc)) | (refine fun (hc : _ = _) => ?_; try (simp (disch := decide) only [up_n, up_s, cp_n, rw_n, rw_s, up1_, if_true, if_false, ite_true, ite_false, reduceIte, eq_self, Int.reduceEq, true_and, and_true, not_true_eq_false, not_false_eq_true] at hc)))
      all_goals first | (exfalso; omega) | exact hh
    · have hh := h (fr_up X 111 0 (-1 - -4)) 200 (fun k i hk => by rw [up_x (by omega)]; exact q1 k i hk) ⟨Nat.le_refl _, q2, Or.inr rfl⟩ ⟨by unfold ren; rw [if_neg hneg]; rfl, q5.1, q3.1, q3.2.2.1, ⟨c6.1, c6.2.1, c6.2.2.1, c6.2.2.2, q5.2⟩, q6, q3.2.2.2.1⟩
      clear h
      have e1 := q5.1
      refine fr_go k198 [36] 400 rfl ?_
      repeat' (first | (refine And.intro (by first | omega | (simp (disch := decide) only [up_n, up_s, cp_n, rw_n, rw_s, up1_, if_true, if_false, ite_true, ite_false, reduceIte, eq_self, Int.reduceEq, true_and, and_true, not_true_eq_false, not_false_eq_true]; omega)) ?_) | (refine And.intro (fun hc => ?_) (fun hc => ?_) <;> (try (simp (disch := decide) only [up_n, up_s, cp_n, rw_n, rw_s, up1_, if_true, if_false, ite_true, ite_false, reduceIte, eq_self, Int.reduceEq, true_and, and_true, not_true_eq_false, not_false_eq_true] at hc)) <;> (try (exfalso; omega))) | (refine fun (hc : ¬ _) => ?_; try (simp (disch := decide) only [up_n, up_s, cp_n, rw_n, rw_s, up1_, if_true, if_false, ite_true, ite_false, reduceIte, eq_self, Int.reduceEq, true_and, and_true, not_true_eq_false, not_false_eq_true] at hc)) | (refine fun (hc : _ = _) => ?_; try (simp (disch := decide) only [up_n, up_s, cp_n, rw_n, rw_s, up1_, if_true, if_false, ite_true, ite_false, reduceIte, eq_self, Int.reduceEq, true_and, and_true, not_true_eq_false, not_false_eq_true] at hc)))
      all_goals first | (exfalso; omega) | skip
      refine fr_go k198 [36] 400 rfl ?_
      repeat' (first | (refine And.intro (by first | omega | (simp (disch := decide) only [up_n, up_s, cp_n, rw_n, rw_s, up1_, if_true, if_false, ite_true, ite_false, reduceIte, eq_self, Int.reduceEq, true_and, and_true, not_true_eq_false, not_false_eq_true]; omega)) ?_) | (refine And.intro (fun hc => ?_) (fun hc => ?_) <;> (try (simp (disch := decide) only [up_n, up_s, cp_n, rw_n, rw_s, up1_, if_true, if_false, ite_true, ite_false, reduceIte, eq_self, Int.reduceEq, true_and, and_true, not_true_eq_false, not_false_eq_true] at hc)) <;> (try (exfalso; omega))) | (refine fun (hc : ¬ _) => ?_; try (simp (disch := decide) only [up_n, up_s, cp_n, rw_n, rw_s, up1_, if_true, if_false, ite_true, ite_false, reduceIte, eq_self, Int.reduceEq, true_and, and_true, not_true_eq_false, not_false_eq_true] at hc)) | (refine fun (hc : _ = _) => ?_; try (simp (disch := decide) only [up_n, up_s, cp_n, rw_n, rw_s, up1_, if_true, if_false, ite_true, ite_false, reduceIte, eq_self, Int.reduceEq, true_and, and_true, not_true_eq_false, not_false_eq_true] at hc)))
      all_goals first | (exfalso; omega) | exact hh
  | succ t ih =>
    intro k X q0 q1 q2 q3 q5 q6
    have hSI := rs_si hw ht hb k
    have hr := hSI.1
    have c6 := q3.2.2.2.2.2.1 rfl
    by_cases hneg : (rs p tp b0 k).1 < 0
    · have hh := h (fr_up X 111 0 (-1 - (rs p tp b0 k).1)) k (fun k i hk => by rw [up_x (by omega)]; exact q1 k i hk) ⟨by omega, q2, Or.inl hneg⟩ ⟨by unfold ren; rw [if_pos hneg]; rfl, q5.1, q3.1, q3.2.2.1, ⟨c6.1, c6.2.1, c6.2.2.1, c6.2.2.2, q5.2⟩, q6, q3.2.2.2.1⟩
      clear h ih
      refine fr_go k198 [36] 400 rfl ?_
      repeat' (first | (refine And.intro (by first | omega | (simp (disch := decide) only [up_n, up_s, cp_n, rw_n, rw_s, up1_, if_true, if_false, ite_true, ite_false, reduceIte, eq_self, Int.reduceEq, true_and, and_true, not_true_eq_false, not_false_eq_true]; omega)) ?_) | (refine And.intro (fun hc => ?_) (fun hc => ?_) <;> (try (simp (disch := decide) only [up_n, up_s, cp_n, rw_n, rw_s, up1_, if_true, if_false, ite_true, ite_false, reduceIte, eq_self, Int.reduceEq, true_and, and_true, not_true_eq_false, not_false_eq_true] at hc)) <;> (try (exfalso; omega))) | (refine fun (hc : ¬ _) => ?_; try (simp (disch := decide) only [up_n, up_s, cp_n, rw_n, rw_s, up1_, if_true, if_false, ite_true, ite_false, reduceIte, eq_self, Int.reduceEq, true_and, and_true, not_true_eq_false, not_false_eq_true] at hc)) | (refine fun (hc : _ = _) => ?_; try (simp (disch := decide) only [up_n, up_s, cp_n, rw_n, rw_s, up1_, if_true, if_false, ite_true, ite_false, reduceIte, eq_self, Int.reduceEq, true_and, and_true, not_true_eq_false, not_false_eq_true] at hc)))
      all_goals first | (exfalso; omega) | exact hh
    · have hnext : rs p tp b0 (k + 1) = stp p tp (rs p tp b0 k) := by
        rw [rs, if_neg hneg]
      have hi := fun X' a1 a2 a3 a4 => ih (k + 1) X' (by omega) a1 (fun j hj => by
        by_cases e : j = k
        · rw [e]; omega
        · exact q2 j (by omega)) a2 a3 a4
      rw [hnext] at hi
      rcases hs : rs p tp b0 k with ⟨b, ch, st, mo, tk, jm, tj, ts⟩
      rw [hs] at hi hSI q3 hneg hr
      have hneg : ¬ b < 0 := hneg
      have hr : -3 ≤ b ∧ b < p 75 4 := hr
      have e1 := q5.1
      clear ih h
      refine fr_go k198 [36] 400 rfl ?_
      repeat' (first | (refine And.intro (by first | omega | (simp (disch := decide) only [up_n, up_s, cp_n, rw_n, rw_s, up1_, if_true, if_false, ite_true, ite_false, reduceIte, eq_self, Int.reduceEq, true_and, and_true, not_true_eq_false, not_false_eq_true]; omega)) ?_) | (refine And.intro (fun hc => ?_) (fun hc => ?_) <;> (try (simp (disch := decide) only [up_n, up_s, cp_n, rw_n, rw_s, up1_, if_true, if_false, ite_true, ite_false, reduceIte, eq_self, Int.reduceEq, true_and, and_true, not_true_eq_false, not_false_eq_true] at hc)) <;> (try (exfalso; omega))) | (refine fun (hc : ¬ _) => ?_; try (simp (disch := decide) only [up_n, up_s, cp_n, rw_n, rw_s, up1_, if_true, if_false, ite_true, ite_false, reduceIte, eq_self, Int.reduceEq, true_and, and_true, not_true_eq_false, not_false_eq_true] at hc)) | (refine fun (hc : _ = _) => ?_; try (simp (disch := decide) only [up_n, up_s, cp_n, rw_n, rw_s, up1_, if_true, if_false, ite_true, ite_false, reduceIte, eq_self, Int.reduceEq, true_and, and_true, not_true_eq_false, not_false_eq_true] at hc)))
      all_goals first | (exfalso; omega) | skip
      all_goals (show fr_Call 197 [.inr (.inl 75), .inl b, .inl 0] sh0 _ _)
      simp (disch := decide) only [up_n, up_s, cp_n, rw_n, rw_s, up1_, if_true, if_false, ite_true, ite_false, reduceIte, eq_self, Int.reduceEq, true_and, and_true, not_true_eq_false, not_false_eq_true]
      rw [e1]
      refine q_call (m_passes (N := fr_up (fr_up X 112 (k : Int) b) 111 1 ((k : Int) + 1)) (p := p) (tp := tp) (z := 0) (k := k) (o := X 75 50) (g := fr_up (fr_up X 112 (k : Int) b) 111 1 ((k : Int) + 1) 111) (gc := X 113) (gt := X 115) hw (hN.cg (fun k' i hk => by rw [up_x (by omega), up_x (by omega)]; exact q1 k' i hk)) ⟨Or.inl rfl, fun q => by omega⟩ hSI (by omega) (by omega) q3 ⟨by show 0 ≤ X 111 8; omega, by show X 111 8 ≤ 1000; omega⟩ (fun o' g' gc' gt' hC' hg' => ?_)) xm_id
      repeat' (first | (refine And.intro (by first | omega | (simp (disch := decide) only [up_n, up_s, cp_n, rw_n, rw_s, up1_, if_true, if_false, ite_true, ite_false, reduceIte, eq_self, Int.reduceEq, true_and, and_true, not_true_eq_false, not_false_eq_true]; omega)) ?_) | (refine And.intro (fun hc => ?_) (fun hc => ?_) <;> (try (simp (disch := decide) only [up_n, up_s, cp_n, rw_n, rw_s, up1_, if_true, if_false, ite_true, ite_false, reduceIte, eq_self, Int.reduceEq, true_and, and_true, not_true_eq_false, not_false_eq_true] at hc)) <;> (try (exfalso; omega))) | (refine fun (hc : ¬ _) => ?_; try (simp (disch := decide) only [up_n, up_s, cp_n, rw_n, rw_s, up1_, if_true, if_false, ite_true, ite_false, reduceIte, eq_self, Int.reduceEq, true_and, and_true, not_true_eq_false, not_false_eq_true] at hc)) | (refine fun (hc : _ = _) => ?_; try (simp (disch := decide) only [up_n, up_s, cp_n, rw_n, rw_s, up1_, if_true, if_false, ite_true, ite_false, reduceIte, eq_self, Int.reduceEq, true_and, and_true, not_true_eq_false, not_false_eq_true] at hc)))
      refine hi _ (fun k' i hk => ?_) hC' ⟨hg'.2.1, hg'.2.2.trans q5.2⟩ (fun j hj => ?_)
      · rw [rw_n (by omega), rw_n (by omega), rw_n (by omega), up_x (by omega), up_x (by omega), up_x (by omega)]
        exact q1 k' i hk
      · show up1 (X 112) (k : Int) b (j : Int) = _
        rw [up1_]
        by_cases e : j = k
        · rw [if_pos (by omega), e, hs]
        · rw [if_neg (by omega)]
          exact q6 j (by omega)
set_option maxHeartbeats 4000000 in
set_option maxRecDepth 100000 in
theorem m_goes0 {N p : fr_M} {tp : Int → Int} {b0 : Int} {Q : Option fr_V → fr_H → fr_M → Prop} (hw : WF p) (hN : QN p tp N) (hb : 0 ≤ b0 ∧ b0 < p 75 4) (h : ∀ X K, (∀ k i, ¬ gq k i → X k i = N k i) → REnd p tp b0 K → GF0 p tp b0 K X → Q none sh0 X) : fr_Call 198 [.inr (.inl 75), .inl b0, .inl 0] sh0 N Q := by
  refine fr_cgo k198 [some (.inr (.inl 75)), some (.inl b0), some (.inl 0), none, none] 0 0 [2] 400 rfl rfl rfl rfl ?_
  repeat' (first | (refine And.intro (by first | omega | (simp (disch := decide) only [up_n, up_s, cp_n, rw_n, rw_s, up1_, if_true, if_false, ite_true, ite_false, reduceIte, eq_self, Int.reduceEq, true_and, and_true, not_true_eq_false, not_false_eq_true]; omega)) ?_) | (refine And.intro (fun hc => ?_) (fun hc => ?_) <;> (try (simp (disch := decide) only [up_n, up_s, cp_n, rw_n, rw_s, up1_, if_true, if_false, ite_true, ite_false, reduceIte, eq_self, Int.reduceEq, true_and, and_true, not_true_eq_false, not_false_eq_true] at hc)) <;> (try (exfalso; omega))) | (refine fun (hc : ¬ _) => ?_; try (simp (disch := decide) only [up_n, up_s, cp_n, rw_n, rw_s, up1_, if_true, if_false, ite_true, ite_false, reduceIte, eq_self, Int.reduceEq, true_and, and_true, not_true_eq_false, not_false_eq_true] at hc)) | (refine fun (hc : _ = _) => ?_; try (simp (disch := decide) only [up_n, up_s, cp_n, rw_n, rw_s, up1_, if_true, if_false, ite_true, ite_false, reduceIte, eq_self, Int.reduceEq, true_and, and_true, not_true_eq_false, not_false_eq_true] at hc)))
  refine q_run (m_g1 (M := N) (fun g hg => ?_) 9 0 (N 111) (by omega) (by omega) (fun j y0 y1 => by omega)) rw_id
  refine fr_go k198 [14] 400 rfl ?_
  repeat' (first | (refine And.intro (by first | omega | (simp (disch := decide) only [up_n, up_s, cp_n, rw_n, rw_s, up1_, if_true, if_false, ite_true, ite_false, reduceIte, eq_self, Int.reduceEq, true_and, and_true, not_true_eq_false, not_false_eq_true]; omega)) ?_) | (refine And.intro (fun hc => ?_) (fun hc => ?_) <;> (try (simp (disch := decide) only [up_n, up_s, cp_n, rw_n, rw_s, up1_, if_true, if_false, ite_true, ite_false, reduceIte, eq_self, Int.reduceEq, true_and, and_true, not_true_eq_false, not_false_eq_true] at hc)) <;> (try (exfalso; omega))) | (refine fun (hc : ¬ _) => ?_; try (simp (disch := decide) only [up_n, up_s, cp_n, rw_n, rw_s, up1_, if_true, if_false, ite_true, ite_false, reduceIte, eq_self, Int.reduceEq, true_and, and_true, not_true_eq_false, not_false_eq_true] at hc)) | (refine fun (hc : _ = _) => ?_; try (simp (disch := decide) only [up_n, up_s, cp_n, rw_n, rw_s, up1_, if_true, if_false, ite_true, ite_false, reduceIte, eq_self, Int.reduceEq, true_and, and_true, not_true_eq_false, not_false_eq_true] at hc)))
  refine q_run (m_g2 (M := rw_ N 111 g) (fun gt hgt => ?_) 160 0 (N 115) (by omega) (by omega) (fun j y0 y1 => by omega)) rw_id
  refine fr_go k198 [36] 400 rfl ?_
  repeat' (first | (refine And.intro (by first | omega | (simp (disch := decide) only [up_n, up_s, cp_n, rw_n, rw_s, up1_, if_true, if_false, ite_true, ite_false, reduceIte, eq_self, Int.reduceEq, true_and, and_true, not_true_eq_false, not_false_eq_true]; omega)) ?_) | (refine And.intro (fun hc => ?_) (fun hc => ?_) <;> (try (simp (disch := decide) only [up_n, up_s, cp_n, rw_n, rw_s, up1_, if_true, if_false, ite_true, ite_false, reduceIte, eq_self, Int.reduceEq, true_and, and_true, not_true_eq_false, not_false_eq_true] at hc)) <;> (try (exfalso; omega))) | (refine fun (hc : ¬ _) => ?_; try (simp (disch := decide) only [up_n, up_s, cp_n, rw_n, rw_s, up1_, if_true, if_false, ite_true, ite_false, reduceIte, eq_self, Int.reduceEq, true_and, and_true, not_true_eq_false, not_false_eq_true] at hc)) | (refine fun (hc : _ = _) => ?_; try (simp (disch := decide) only [up_n, up_s, cp_n, rw_n, rw_s, up1_, if_true, if_false, ite_true, ite_false, reduceIte, eq_self, Int.reduceEq, true_and, and_true, not_true_eq_false, not_false_eq_true] at hc)))
  all_goals first | (exfalso; omega) | skip
  exact m_gp_l (N := N) (Q := Q) hw hN hb h 200 0 _ (by omega) (fun k i hk => by rw [up_x (by omega), up_x (by omega), rw_n (by omega), rw_n (by omega)]) (fun j hj => absurd hj (by omega)) ⟨hg 2 (by omega) (by omega), rfl, hg 3 (by omega) (by omega), hgt, (fun j x hx => by cases j <;> cases hx), fun _ => ⟨hg 4 (by omega) (by omega), hg 5 (by omega) (by omega), hg 6 (by omega) (by omega), hg 7 (by omega) (by omega)⟩, fun q => by omega⟩ ⟨hg 1 (by omega) (by omega), hg 8 (by omega) (by omega)⟩ (fun j hj => absurd hj (by omega))
