theorem RN.cg2 {p : fr_M} {tp : Int → Int} {N X : fr_M} (h : RN p tp N) (e : ∀ k i, ¬ (43 < k ∧ k < 75) → X k i = N k i) : RN p tp X := by
  obtain ⟨n1, n2, n3, n4, n5⟩ := h
  refine ⟨fun b q0 q1 => ?_, fun b w q0 q1 q2 q3 => ?_, fun b q0 q1 q2 => ?_, ?_, fun i q0 => ?_⟩
  · rw [e 7 _ (by omega), e 8 _ (by omega)]
    exact n1 b q0 q1
  · rw [e 11 _ (by omega)]
    exact n2 b w q0 q1 q2 q3
  · rw [e 9 _ (by omega), e 3 _ (by omega)]
    exact n3 b q0 q1 q2
  · rw [e 42 _ (by omega)]
    exact n4
  · rw [e 42 _ (by omega), e 43 _ (by omega)]
    exact n5 i q0
theorem BN.cg {p : fr_M} {lg : Int → Int} {N X : fr_M} (h : BN p lg N) (e : ∀ k i, ¬ (43 < k ∧ k < 75) → X k i = N k i) : BN p lg X := by
  obtain ⟨n1, n2, ⟨a1, a2, a3, a4, a5⟩, n4, n5⟩ := h
  refine ⟨by rw [e 1 1 (by omega)]; exact n1, fun b q0 q1 => ?_, ⟨fun k hk j q0 q1 => ?_, fun b q0 q1 j q2 q3 => ?_, fun b q0 q1 j q2 q3 => ?_, fun k hk k6 j q2 q3 => ?_, fun k hk => ?_⟩, n4, n5⟩
  · rw [e 31 _ (by omega), e 32 _ (by omega), e 33 _ (by omega), e 6 _ (by omega)]
    exact n2 b q0 q1
  · rw [e 40 _ (by omega)]
    exact a1 k hk j q0 q1
  · rw [e 40 _ (by omega)]
    exact a2 b q0 q1 j q2 q3
  · rw [e 40 _ (by omega)]
    exact a3 b q0 q1 j q2 q3
  · rw [e 40 _ (by omega)]
    exact a4 k hk k6 j q2 q3
  · rw [e 41 _ (by omega)]
    exact a5 k hk
def RY_52 (p : fr_M) (tp lg : Int → Int) (b : Int) (K : Nat) (X : fr_M) : Prop := X 52 0 = 1 ∧ X 52 1 = ren (rs p tp b K) ∧ X 52 2 = (K : Int) ∧ X 52 3 = (rs p tp b K).2.1 ∧ X 52 5 = (rs p tp b K).2.2.2.1 ∧ X 52 6 = (rs p tp b K).2.2.2.2.2.1 ∧ X 52 7 = (rs p tp b K).2.2.2.2.2.2.1 ∧ X 52 8 = (rs p tp b K).2.2.2.2.2.2.2 ∧ X 52 9 = 0 ∧ (∀ j : Nat, j < K → X 53 (j : Int) = (rs p tp b j).1 ∧ X 54 (j : Int) = ad p lg (rs p tp b j).1 / 64)
set_option maxHeartbeats 4000000 in
set_option maxRecDepth 100000 in
theorem c_ry_l_52 {N p : fr_M} {tp lg : Int → Int} {b0 : Int} {Q : Option fr_V → fr_H → fr_M → Prop} (hw : WF p) (hN : RN p tp N) (hB : BN p lg N) (hb : 0 ≤ b0 ∧ b0 < p 75 4) (h : ∀ X K, (∀ k i, ¬ (k = 44 ∨ (52 ≤ k ∧ k ≤ 57)) → X k i = N k i) → REnd p tp b0 K → RY_52 p tp lg b0 K X → Q none sh0 X) : ∀ (t k : Nat) (X : fr_M), k + t = 200 → (∀ k i, ¬ (k = 44 ∨ (52 ≤ k ∧ k ≤ 57)) → X k i = N k i) → (∀ j, j < k → 0 ≤ (rs p tp b0 j).1) → CL p lg (X 52) (X 56) (X 57) (rs p tp b0 k) → ((rs p tp b0 k).1 < 0 → X 52 1 = -1 - (rs p tp b0 k).1) → (X 52 0 = 1 ∧ X 52 2 = (k : Int) ∧ X 52 9 = 0) → (∀ j : Nat, j < k → X 53 (j : Int) = (rs p tp b0 j).1 ∧ X 54 (j : Int) = ad p lg (rs p tp b0 j).1 / 64) → fr_Run 97 none 9 [some (.inr (.inl 44)), some (.inl b0), some (.inr (.inl 52)), some (.inl (if (rs p tp b0 k).1 < 0 then -1 else (rs p tp b0 k).1)), some (.inl (k : Int))] [] sh0 X 0 0 Q := by
  have ht := fun i q0 => (hN.2.2.2.2 i q0).2
  have h40 := hw.1.1
  intro t
  induction t with
  | zero =>
    intro k X q0 q1 q2 q3 q4 q5 q6
    have e : k = 200 := by omega
    subst e
    by_cases hneg : (rs p tp b0 200).1 < 0
    · have hh := h X 200 q1 ⟨Nat.le_refl _, q2, Or.inl hneg⟩ ⟨q5.1, by unfold ren; rw [if_pos hneg]; exact q4 hneg, q5.2.1, q3.1.1, q3.1.2.2.1, q3.1.2.2.2.1, q3.1.2.2.2.2.1, q3.1.2.2.2.2.2, q5.2.2, q6⟩
      clear h
      rw [if_pos hneg]
      refine fr_go k97 [9] 400 rfl ?_
      repeat' (first | (refine And.intro (by first | omega | (simp (disch := decide) only [up_n, up_s, cp_n, rw_n, rw_s, up1_, if_true, if_false, ite_true, ite_false, reduceIte, eq_self, Int.reduceEq, true_and, and_true, not_true_eq_false, not_false_eq_true]; omega)) ?_) | (refine And.intro (fun hc => ?_) (fun hc => ?_) <;> (try (simp (disch := decide) only [up_n, up_s, cp_n, rw_n, rw_s, up1_, if_true, if_false, ite_true, ite_false, reduceIte, eq_self, Int.reduceEq, true_and, and_true, not_true_eq_false, not_false_eq_true] at hc)) <;> (try (exfalso; omega))) | (refine fun (hc : ¬ _) => ?_; try (simp (disch := decide) only [up_n, up_s, cp_n, rw_n, rw_s, up1_, if_true, if_false, ite_true, ite_false, reduceIte, eq_self, Int.reduceEq, true_and, and_true, not_true_eq_false, not_false_eq_true] at hc)) | (refine fun (hc : _ = _) => ?_; try (simp (disch := decide) only [up_n, up_s, cp_n, rw_n, rw_s, up1_, if_true, if_false, ite_true, ite_false, reduceIte, eq_self, Int.reduceEq, true_and, and_true, not_true_eq_false, not_false_eq_true] at hc)))
      all_goals first | (exfalso; omega) | exact hh
    · have hh := h (fr_up X 52 1 3) 200 (fun k i hk => by rw [up_x (by omega)]; exact q1 k i hk) ⟨Nat.le_refl _, q2, Or.inr rfl⟩ ⟨q5.1, by unfold ren; rw [if_neg hneg]; rfl, q5.2.1, q3.1.1, q3.1.2.2.1, q3.1.2.2.2.1, q3.1.2.2.2.2.1, q3.1.2.2.2.2.2, q5.2.2, q6⟩
      clear h
      rw [if_neg hneg]
      refine fr_go k97 [9] 400 rfl ?_
      repeat' (first | (refine And.intro (by first | omega | (simp (disch := decide) only [up_n, up_s, cp_n, rw_n, rw_s, up1_, if_true, if_false, ite_true, ite_false, reduceIte, eq_self, Int.reduceEq, true_and, and_true, not_true_eq_false, not_false_eq_true]; omega)) ?_) | (refine c_stop_52 ?_) | (refine And.intro (fun hc => ?_) (fun hc => ?_) <;> (try (simp (disch := decide) only [up_n, up_s, cp_n, rw_n, rw_s, up1_, if_true, if_false, ite_true, ite_false, reduceIte, eq_self, Int.reduceEq, true_and, and_true, not_true_eq_false, not_false_eq_true] at hc)) <;> (try (exfalso; omega))) | (refine fun (hc : ¬ _) => ?_; try (simp (disch := decide) only [up_n, up_s, cp_n, rw_n, rw_s, up1_, if_true, if_false, ite_true, ite_false, reduceIte, eq_self, Int.reduceEq, true_and, and_true, not_true_eq_false, not_false_eq_true] at hc)) | (refine fun (hc : _ = _) => ?_; try (simp (disch := decide) only [up_n, up_s, cp_n, rw_n, rw_s, up1_, if_true, if_false, ite_true, ite_false, reduceIte, eq_self, Int.reduceEq, true_and, and_true, not_true_eq_false, not_false_eq_true] at hc)))
      all_goals first | (exfalso; omega) | exact hh
  | succ t ih =>
    intro k X q0 q1 q2 q3 q4 q5 q6
    by_cases hneg : (rs p tp b0 k).1 < 0
    · have hh := h X k q1 ⟨by omega, q2, Or.inl hneg⟩ ⟨q5.1, by unfold ren; rw [if_pos hneg]; exact q4 hneg, q5.2.1, q3.1.1, q3.1.2.2.1, q3.1.2.2.2.1, q3.1.2.2.2.2.1, q3.1.2.2.2.2.2, q5.2.2, q6⟩
      clear h ih
      rw [if_pos hneg]
      refine fr_go k97 [9] 400 rfl ?_
      repeat' (first | (refine And.intro (by first | omega | (simp (disch := decide) only [up_n, up_s, cp_n, rw_n, rw_s, up1_, if_true, if_false, ite_true, ite_false, reduceIte, eq_self, Int.reduceEq, true_and, and_true, not_true_eq_false, not_false_eq_true]; omega)) ?_) | (refine And.intro (fun hc => ?_) (fun hc => ?_) <;> (try (simp (disch := decide) only [up_n, up_s, cp_n, rw_n, rw_s, up1_, if_true, if_false, ite_true, ite_false, reduceIte, eq_self, Int.reduceEq, true_and, and_true, not_true_eq_false, not_false_eq_true] at hc)) <;> (try (exfalso; omega))) | (refine fun (hc : ¬ _) => ?_; try (simp (disch := decide) only [up_n, up_s, cp_n, rw_n, rw_s, up1_, if_true, if_false, ite_true, ite_false, reduceIte, eq_self, Int.reduceEq, true_and, and_true, not_true_eq_false, not_false_eq_true] at hc)) | (refine fun (hc : _ = _) => ?_; try (simp (disch := decide) only [up_n, up_s, cp_n, rw_n, rw_s, up1_, if_true, if_false, ite_true, ite_false, reduceIte, eq_self, Int.reduceEq, true_and, and_true, not_true_eq_false, not_false_eq_true] at hc)))
      all_goals first | (exfalso; omega) | exact hh
    · rw [if_neg hneg]
      have hSI := rs_si hw ht hb k
      have hnext : rs p tp b0 (k + 1) = stp p tp (rs p tp b0 k) := by
        rw [rs, if_neg hneg]
      have hi := fun X' a1 a2 a3 a4 a5 => ih (k + 1) X' (by omega) a1 (fun j hj => by
        by_cases e : j = k
        · rw [e]; omega
        · exact q2 j (by omega)) a2 a3 a4 a5
      rw [hnext] at hi
      rcases hs : rs p tp b0 k with ⟨b, ch, st, mo, tk, jm, tj, ts⟩
      rw [hs] at hi hSI q3 hneg
      have hneg : ¬ b < 0 := hneg
      have hbc : b < p 75 4 := hSI.1.2
      have e2 := q5.2.1
      have e32 : X 32 b = ad p lg b := by
        rw [q1 32 b (by omega)]
        exact (hB.2.1 b (by omega) hbc).2.1
      have hab := (ad_b hw (lg := lg) (b := b) (by omega)).1
      clear ih h
      refine fr_go k97 [9] 400 rfl ?_
      repeat' (first | (refine And.intro (by first | omega | (simp (disch := decide) only [up_n, up_s, cp_n, rw_n, rw_s, up1_, if_true, if_false, ite_true, ite_false, reduceIte, eq_self, Int.reduceEq, true_and, and_true, not_true_eq_false, not_false_eq_true]; omega)) ?_) | (refine And.intro (fun hc => ?_) (fun hc => ?_) <;> (try (simp (disch := decide) only [up_n, up_s, cp_n, rw_n, rw_s, up1_, if_true, if_false, ite_true, ite_false, reduceIte, eq_self, Int.reduceEq, true_and, and_true, not_true_eq_false, not_false_eq_true] at hc)) <;> (try (exfalso; omega))) | (refine fun (hc : ¬ _) => ?_; try (simp (disch := decide) only [up_n, up_s, cp_n, rw_n, rw_s, up1_, if_true, if_false, ite_true, ite_false, reduceIte, eq_self, Int.reduceEq, true_and, and_true, not_true_eq_false, not_false_eq_true] at hc)) | (refine fun (hc : _ = _) => ?_; try (simp (disch := decide) only [up_n, up_s, cp_n, rw_n, rw_s, up1_, if_true, if_false, ite_true, ite_false, reduceIte, eq_self, Int.reduceEq, true_and, and_true, not_true_eq_false, not_false_eq_true] at hc)))
      all_goals first | (exfalso; omega) | skip
      refine c_tpass_52 (by omega) ?_
      rw [e2, e32]
      repeat' (first | (refine And.intro (by first | omega | (simp (disch := decide) only [up_n, up_s, cp_n, rw_n, rw_s, up1_, if_true, if_false, ite_true, ite_false, reduceIte, eq_self, Int.reduceEq, true_and, and_true, not_true_eq_false, not_false_eq_true]; omega)) ?_) | (refine And.intro (fun hc => ?_) (fun hc => ?_) <;> (try (simp (disch := decide) only [up_n, up_s, cp_n, rw_n, rw_s, up1_, if_true, if_false, ite_true, ite_false, reduceIte, eq_self, Int.reduceEq, true_and, and_true, not_true_eq_false, not_false_eq_true] at hc)) <;> (try (exfalso; omega))) | (refine fun (hc : ¬ _) => ?_; try (simp (disch := decide) only [up_n, up_s, cp_n, rw_n, rw_s, up1_, if_true, if_false, ite_true, ite_false, reduceIte, eq_self, Int.reduceEq, true_and, and_true, not_true_eq_false, not_false_eq_true] at hc)) | (refine fun (hc : _ = _) => ?_; try (simp (disch := decide) only [up_n, up_s, cp_n, rw_n, rw_s, up1_, if_true, if_false, ite_true, ite_false, reduceIte, eq_self, Int.reduceEq, true_and, and_true, not_true_eq_false, not_false_eq_true] at hc)))
      have hfr : ∀ k' i, ¬ (43 < k' ∧ k' < 75) → fr_up (fr_up (fr_up X 53 (k : Int) b) 54 (k : Int) (ad p lg b / 64)) 52 2 ((k : Int) + 1) k' i = N k' i := fun k' i hk => by
        rw [up_x (by omega), up_x (by omega), up_x (by omega)]
        exact q1 k' i (by omega)
      refine q_call (c_afterBytes_52 (N := fr_up (fr_up (fr_up X 53 (k : Int) b) 54 (k : Int) (ad p lg b / 64)) 52 2 ((k : Int) + 1)) (p := p) (tp := tp) (lg := lg) (k := k) (r44 := X 44) (g := fr_up (fr_up (fr_up X 53 (k : Int) b) 54 (k : Int) (ad p lg b / 64)) 52 2 ((k : Int) + 1) 52) (gc := X 56) (gr := X 57) hw (hN.cg2 hfr) (hB.cg hfr) hSI (by omega) (by omega) q3 (fun r g' gc' gr' hC' hg' hneg' => ?_)) ?_
      · repeat' (first | (refine And.intro (by first | omega | (simp (disch := decide) only [up_n, up_s, cp_n, rw_n, rw_s, up1_, if_true, if_false, ite_true, ite_false, reduceIte, eq_self, Int.reduceEq, true_and, and_true, not_true_eq_false, not_false_eq_true]; omega)) ?_) | (refine And.intro (fun hc => ?_) (fun hc => ?_) <;> (try (simp (disch := decide) only [up_n, up_s, cp_n, rw_n, rw_s, up1_, if_true, if_false, ite_true, ite_false, reduceIte, eq_self, Int.reduceEq, true_and, and_true, not_true_eq_false, not_false_eq_true] at hc)) <;> (try (exfalso; omega))) | (refine fun (hc : ¬ _) => ?_; try (simp (disch := decide) only [up_n, up_s, cp_n, rw_n, rw_s, up1_, if_true, if_false, ite_true, ite_false, reduceIte, eq_self, Int.reduceEq, true_and, and_true, not_true_eq_false, not_false_eq_true] at hc)) | (refine fun (hc : _ = _) => ?_; try (simp (disch := decide) only [up_n, up_s, cp_n, rw_n, rw_s, up1_, if_true, if_false, ite_true, ite_false, reduceIte, eq_self, Int.reduceEq, true_and, and_true, not_true_eq_false, not_false_eq_true] at hc)))
        refine hi _ (fun k' i hk => ?_) hC' hneg' ⟨?_, ?_, ?_⟩ (fun j hj => ?_)
        · rw [rw_n (by omega), rw_n (by omega), rw_n (by omega), rw_n (by omega), up_x (by omega), up_x (by omega), up_x (by omega)]
          exact q1 k' i hk
        · show g' 0 = 1
          rw [hg' 0 (by omega) (by omega) (by omega) (by omega) (by omega) (by omega) (by omega)]
          exact q5.1
        · show g' 2 = ((k + 1 : Nat) : Int)
          rw [hg' 2 (by omega) (by omega) (by omega) (by omega) (by omega) (by omega) (by omega)]
          rfl
        · show g' 9 = 0
          rw [hg' 9 (by omega) (by omega) (by omega) (by omega) (by omega) (by omega) (by omega)]
          exact q5.2.2
        · show up1 (X 53) (k : Int) b (j : Int) = _ ∧ up1 (X 54) (k : Int) (ad p lg b / 64) (j : Int) = _
          rw [up1_, up1_]
          by_cases e : j = k
          · rw [if_pos (by omega), if_pos (by omega), e, hs]
            exact ⟨rfl, rfl⟩
          · rw [if_neg (by omega), if_neg (by omega)]
            exact q6 j (by omega)
      · have e0 := rw_id (M := fr_up (fr_up (fr_up X 53 (k : Int) b) 54 (k : Int) (ad p lg b / 64)) 52 2 ((k : Int) + 1)) (k := 44)
        have e1 := rw_id (M := fr_up (fr_up (fr_up X 53 (k : Int) b) 54 (k : Int) (ad p lg b / 64)) 52 2 ((k : Int) + 1)) (k := 52)
        have e4 := rw_id (M := fr_up (fr_up (fr_up X 53 (k : Int) b) 54 (k : Int) (ad p lg b / 64)) 52 2 ((k : Int) + 1)) (k := 56)
        have e5 := rw_id (M := fr_up (fr_up (fr_up X 53 (k : Int) b) 54 (k : Int) (ad p lg b / 64)) 52 2 ((k : Int) + 1)) (k := 57)
        have e0 : rw_ (fr_up (fr_up (fr_up X 53 (k : Int) b) 54 (k : Int) (ad p lg b / 64)) 52 2 ((k : Int) + 1)) 44 (X 44) = _ := e0
        have e4 : rw_ (fr_up (fr_up (fr_up X 53 (k : Int) b) 54 (k : Int) (ad p lg b / 64)) 52 2 ((k : Int) + 1)) 56 (X 56) = _ := e4
        have e5 : rw_ (fr_up (fr_up (fr_up X 53 (k : Int) b) 54 (k : Int) (ad p lg b / 64)) 52 2 ((k : Int) + 1)) 57 (X 57) = _ := e5
        rw [e0, e1, e4, e5]
set_option maxHeartbeats 4000000 in
set_option maxRecDepth 100000 in
theorem c_ry_52 {N p : fr_M} {tp lg : Int → Int} {b0 : Int} {Q : Option fr_V → fr_H → fr_M → Prop} (hw : WF p) (hN : RN p tp N) (hB : BN p lg N) (hb : 0 ≤ b0 ∧ b0 < p 75 4) (h : ∀ X K, (∀ k i, ¬ (k = 44 ∨ (52 ≤ k ∧ k ≤ 57)) → X k i = N k i) → REnd p tp b0 K → RY_52 p tp lg b0 K X → Q none sh0 X) : fr_Run 97 none 3 [some (.inr (.inl 44)), some (.inl b0), some (.inr (.inl 52)), none, none] [] sh0 N 0 0 Q := by
  refine fr_go k97 [9] 400 rfl ?_
  refine c_begin_52 (fun g gt hg hgt => ?_)
  repeat' (first | (refine And.intro (by first | omega | (simp (disch := decide) only [up_n, up_s, cp_n, rw_n, rw_s, up1_, if_true, if_false, ite_true, ite_false, reduceIte, eq_self, Int.reduceEq, true_and, and_true, not_true_eq_false, not_false_eq_true]; omega)) ?_) | (refine And.intro (fun hc => ?_) (fun hc => ?_) <;> (try (simp (disch := decide) only [up_n, up_s, cp_n, rw_n, rw_s, up1_, if_true, if_false, ite_true, ite_false, reduceIte, eq_self, Int.reduceEq, true_and, and_true, not_true_eq_false, not_false_eq_true] at hc)) <;> (try (exfalso; omega))) | (refine fun (hc : ¬ _) => ?_; try (simp (disch := decide) only [up_n, up_s, cp_n, rw_n, rw_s, up1_, if_true, if_false, ite_true, ite_false, reduceIte, eq_self, Int.reduceEq, true_and, and_true, not_true_eq_false, not_false_eq_true] at hc)) | (refine fun (hc : _ = _) => ?_; try (simp (disch := decide) only [up_n, up_s, cp_n, rw_n, rw_s, up1_, if_true, if_false, ite_true, ite_false, reduceIte, eq_self, Int.reduceEq, true_and, and_true, not_true_eq_false, not_false_eq_true] at hc)))
  have hh := c_ry_l_52 (N := N) (Q := Q) hw hN hB hb h 200 0 (rw_ (rw_ N 52 g) 55 gt) (by omega) (fun k i hk => by rw [rw_n (by omega), rw_n (by omega)]) (fun j hj => absurd hj (by omega)) ⟨⟨hg.2.2.2.1, hg.2.2.2.2.1, hg.2.2.2.2.2.1, hg.2.2.2.2.2.2.1, hg.2.2.2.2.2.2.2.1, hg.2.2.2.2.2.2.2.2.1⟩, fun j x hx => by cases j <;> cases hx⟩ (fun q => absurd q (by show ¬ b0 < 0; omega)) ⟨hg.1, hg.2.2.1, hg.2.2.2.2.2.2.2.2.2⟩ (fun j hj => absurd hj (by omega))
  rw [show (if (rs p tp b0 0).1 < 0 then -1 else (rs p tp b0 0).1) = b0 by (show (if b0 < 0 then -1 else b0) = b0; rw [if_neg (by omega)])] at hh
  exact hh
def RY_66 (p : fr_M) (tp lg : Int → Int) (b : Int) (K : Nat) (X : fr_M) : Prop := X 66 0 = 1 ∧ X 66 1 = ren (rs p tp b K) ∧ X 66 2 = (K : Int) ∧ X 66 3 = (rs p tp b K).2.1 ∧ X 66 5 = (rs p tp b K).2.2.2.1 ∧ X 66 6 = (rs p tp b K).2.2.2.2.2.1 ∧ X 66 7 = (rs p tp b K).2.2.2.2.2.2.1 ∧ X 66 8 = (rs p tp b K).2.2.2.2.2.2.2 ∧ X 66 9 = 0 ∧ (∀ j : Nat, j < K → X 67 (j : Int) = (rs p tp b j).1 ∧ X 68 (j : Int) = ad p lg (rs p tp b j).1 / 64)
set_option maxHeartbeats 4000000 in
set_option maxRecDepth 100000 in
theorem c_ry_l_66 {N p : fr_M} {tp lg : Int → Int} {b0 : Int} {Q : Option fr_V → fr_H → fr_M → Prop} (hw : WF p) (hN : RN p tp N) (hB : BN p lg N) (hb : 0 ≤ b0 ∧ b0 < p 75 4) (h : ∀ X K, (∀ k i, ¬ (k = 44 ∨ (66 ≤ k ∧ k ≤ 71)) → X k i = N k i) → REnd p tp b0 K → RY_66 p tp lg b0 K X → Q none sh0 X) : ∀ (t k : Nat) (X : fr_M), k + t = 200 → (∀ k i, ¬ (k = 44 ∨ (66 ≤ k ∧ k ≤ 71)) → X k i = N k i) → (∀ j, j < k → 0 ≤ (rs p tp b0 j).1) → CL p lg (X 66) (X 70) (X 71) (rs p tp b0 k) → ((rs p tp b0 k).1 < 0 → X 66 1 = -1 - (rs p tp b0 k).1) → (X 66 0 = 1 ∧ X 66 2 = (k : Int) ∧ X 66 9 = 0) → (∀ j : Nat, j < k → X 67 (j : Int) = (rs p tp b0 j).1 ∧ X 68 (j : Int) = ad p lg (rs p tp b0 j).1 / 64) → fr_Run 97 none 9 [some (.inr (.inl 44)), some (.inl b0), some (.inr (.inl 66)), some (.inl (if (rs p tp b0 k).1 < 0 then -1 else (rs p tp b0 k).1)), some (.inl (k : Int))] [] sh0 X 0 0 Q := by
  have ht := fun i q0 => (hN.2.2.2.2 i q0).2
  have h40 := hw.1.1
  intro t
  induction t with
  | zero =>
    intro k X q0 q1 q2 q3 q4 q5 q6
    have e : k = 200 := by omega
    subst e
    by_cases hneg : (rs p tp b0 200).1 < 0
    · have hh := h X 200 q1 ⟨Nat.le_refl _, q2, Or.inl hneg⟩ ⟨q5.1, by unfold ren; rw [if_pos hneg]; exact q4 hneg, q5.2.1, q3.1.1, q3.1.2.2.1, q3.1.2.2.2.1, q3.1.2.2.2.2.1, q3.1.2.2.2.2.2, q5.2.2, q6⟩
      clear h
      rw [if_pos hneg]
      refine fr_go k97 [9] 400 rfl ?_
      repeat' (first | (refine And.intro (by first | omega | (simp (disch := decide) only [up_n, up_s, cp_n, rw_n, rw_s, up1_, if_true, if_false, ite_true, ite_false, reduceIte, eq_self, Int.reduceEq, true_and, and_true, not_true_eq_false, not_false_eq_true]; omega)) ?_) | (refine And.intro (fun hc => ?_) (fun hc => ?_) <;> (try (simp (disch := decide) only [up_n, up_s, cp_n, rw_n, rw_s, up1_, if_true, if_false, ite_true, ite_false, reduceIte, eq_self, Int.reduceEq, true_and, and_true, not_true_eq_false, not_false_eq_true] at hc)) <;> (try (exfalso; omega))) | (refine fun (hc : ¬ _) => ?_; try (simp (disch := decide) only [up_n, up_s, cp_n, rw_n, rw_s, up1_, if_true, if_false, ite_true, ite_false, reduceIte, eq_self, Int.reduceEq, true_and, and_true, not_true_eq_false, not_false_eq_true] at hc)) | (refine fun (hc : _ = _) => ?_; try (simp (disch := decide) only [up_n, up_s, cp_n, rw_n, rw_s, up1_, if_true, if_false, ite_true, ite_false, reduceIte, eq_self, Int.reduceEq, true_and, and_true, not_true_eq_false, not_false_eq_true] at hc)))
      all_goals first | (exfalso; omega) | exact hh
    · have hh := h (fr_up X 66 1 3) 200 (fun k i hk => by rw [up_x (by omega)]; exact q1 k i hk) ⟨Nat.le_refl _, q2, Or.inr rfl⟩ ⟨q5.1, by unfold ren; rw [if_neg hneg]; rfl, q5.2.1, q3.1.1, q3.1.2.2.1, q3.1.2.2.2.1, q3.1.2.2.2.2.1, q3.1.2.2.2.2.2, q5.2.2, q6⟩
      clear h
      rw [if_neg hneg]
      refine fr_go k97 [9] 400 rfl ?_
      repeat' (first | (refine And.intro (by first | omega | (simp (disch := decide) only [up_n, up_s, cp_n, rw_n, rw_s, up1_, if_true, if_false, ite_true, ite_false, reduceIte, eq_self, Int.reduceEq, true_and, and_true, not_true_eq_false, not_false_eq_true]; omega)) ?_) | (refine c_stop_66 ?_) | (refine And.intro (fun hc => ?_) (fun hc => ?_) <;> (try (simp (disch := decide) only [up_n, up_s, cp_n, rw_n, rw_s, up1_, if_true, if_false, ite_true, ite_false, reduceIte, eq_self, Int.reduceEq, true_and, and_true, not_true_eq_false, not_false_eq_true] at hc)) <;> (try (exfalso; omega))) | (refine fun (hc : ¬ _) => ?_; try (simp (disch := decide) only [up_n, up_s, cp_n, rw_n, rw_s, up1_, if_true, if_false, ite_true, ite_false, reduceIte, eq_self, Int.reduceEq, true_and, and_true, not_true_eq_false, not_false_eq_true] at hc)) | (refine fun (hc : _ = _) => ?_; try (simp (disch := decide) only [up_n, up_s, cp_n, rw_n, rw_s, up1_, if_true, if_false, ite_true, ite_false, reduceIte, eq_self, Int.reduceEq, true_and, and_true, not_true_eq_false, not_false_eq_true] at hc)))
      all_goals first | (exfalso; omega) | exact hh
  | succ t ih =>
    intro k X q0 q1 q2 q3 q4 q5 q6
    by_cases hneg : (rs p tp b0 k).1 < 0
    · have hh := h X k q1 ⟨by omega, q2, Or.inl hneg⟩ ⟨q5.1, by unfold ren; rw [if_pos hneg]; exact q4 hneg, q5.2.1, q3.1.1, q3.1.2.2.1, q3.1.2.2.2.1, q3.1.2.2.2.2.1, q3.1.2.2.2.2.2, q5.2.2, q6⟩
      clear h ih
      rw [if_pos hneg]
      refine fr_go k97 [9] 400 rfl ?_
      repeat' (first | (refine And.intro (by first | omega | (simp (disch := decide) only [up_n, up_s, cp_n, rw_n, rw_s, up1_, if_true, if_false, ite_true, ite_false, reduceIte, eq_self, Int.reduceEq, true_and, and_true, not_true_eq_false, not_false_eq_true]; omega)) ?_) | (refine And.intro (fun hc => ?_) (fun hc => ?_) <;> (try (simp (disch := decide) only [up_n, up_s, cp_n, rw_n, rw_s, up1_, if_true, if_false, ite_true, ite_false, reduceIte, eq_self, Int.reduceEq, true_and, and_true, not_true_eq_false, not_false_eq_true] at hc)) <;> (try (exfalso; omega))) | (refine fun (hc : ¬ _) => ?_; try (simp (disch := decide) only [up_n, up_s, cp_n, rw_n, rw_s, up1_, if_true, if_false, ite_true, ite_false, reduceIte, eq_self, Int.reduceEq, true_and, and_true, not_true_eq_false, not_false_eq_true] at hc)) | (refine fun (hc : _ = _) => ?_; try (simp (disch := decide) only [up_n, up_s, cp_n, rw_n, rw_s, up1_, if_true, if_false, ite_true, ite_false, reduceIte, eq_self, Int.reduceEq, true_and, and_true, not_true_eq_false, not_false_eq_true] at hc)))
      all_goals first | (exfalso; omega) | exact hh
    · rw [if_neg hneg]
      have hSI := rs_si hw ht hb k
      have hnext : rs p tp b0 (k + 1) = stp p tp (rs p tp b0 k) := by
        rw [rs, if_neg hneg]
      have hi := fun X' a1 a2 a3 a4 a5 => ih (k + 1) X' (by omega) a1 (fun j hj => by
        by_cases e : j = k
        · rw [e]; omega
        · exact q2 j (by omega)) a2 a3 a4 a5
      rw [hnext] at hi
      rcases hs : rs p tp b0 k with ⟨b, ch, st, mo, tk, jm, tj, ts⟩
      rw [hs] at hi hSI q3 hneg
      have hneg : ¬ b < 0 := hneg
      have hbc : b < p 75 4 := hSI.1.2
      have e2 := q5.2.1
      have e32 : X 32 b = ad p lg b := by
        rw [q1 32 b (by omega)]
        exact (hB.2.1 b (by omega) hbc).2.1
      have hab := (ad_b hw (lg := lg) (b := b) (by omega)).1
      clear ih h
      refine fr_go k97 [9] 400 rfl ?_
      repeat' (first | (refine And.intro (by first | omega | (simp (disch := decide) only [up_n, up_s, cp_n, rw_n, rw_s, up1_, if_true, if_false, ite_true, ite_false, reduceIte, eq_self, Int.reduceEq, true_and, and_true, not_true_eq_false, not_false_eq_true]; omega)) ?_) | (refine And.intro (fun hc => ?_) (fun hc => ?_) <;> (try (simp (disch := decide) only [up_n, up_s, cp_n, rw_n, rw_s, up1_, if_true, if_false, ite_true, ite_false, reduceIte, eq_self, Int.reduceEq, true_and, and_true, not_true_eq_false, not_false_eq_true] at hc)) <;> (try (exfalso; omega))) | (refine fun (hc : ¬ _) => ?_; try (simp (disch := decide) only [up_n, up_s, cp_n, rw_n, rw_s, up1_, if_true, if_false, ite_true, ite_false, reduceIte, eq_self, Int.reduceEq, true_and, and_true, not_true_eq_false, not_false_eq_true] at hc)) | (refine fun (hc : _ = _) => ?_; try (simp (disch := decide) only [up_n, up_s, cp_n, rw_n, rw_s, up1_, if_true, if_false, ite_true, ite_false, reduceIte, eq_self, Int.reduceEq, true_and, and_true, not_true_eq_false, not_false_eq_true] at hc)))
      all_goals first | (exfalso; omega) | skip
      refine c_tpass_66 (by omega) ?_
      rw [e2, e32]
      repeat' (first | (refine And.intro (by first | omega | (simp (disch := decide) only [up_n, up_s, cp_n, rw_n, rw_s, up1_, if_true, if_false, ite_true, ite_false, reduceIte, eq_self, Int.reduceEq, true_and, and_true, not_true_eq_false, not_false_eq_true]; omega)) ?_) | (refine And.intro (fun hc => ?_) (fun hc => ?_) <;> (try (simp (disch := decide) only [up_n, up_s, cp_n, rw_n, rw_s, up1_, if_true, if_false, ite_true, ite_false, reduceIte, eq_self, Int.reduceEq, true_and, and_true, not_true_eq_false, not_false_eq_true] at hc)) <;> (try (exfalso; omega))) | (refine fun (hc : ¬ _) => ?_; try (simp (disch := decide) only [up_n, up_s, cp_n, rw_n, rw_s, up1_, if_true, if_false, ite_true, ite_false, reduceIte, eq_self, Int.reduceEq, true_and, and_true, not_true_eq_false, not_false_eq_true] at hc)) | (refine fun (hc : _ = _) => ?_; try (simp (disch := decide) only [up_n, up_s, cp_n, rw_n, rw_s, up1_, if_true, if_false, ite_true, ite_false, reduceIte, eq_self, Int.reduceEq, true_and, and_true, not_true_eq_false, not_false_eq_true] at hc)))
      have hfr : ∀ k' i, ¬ (43 < k' ∧ k' < 75) → fr_up (fr_up (fr_up X 67 (k : Int) b) 68 (k : Int) (ad p lg b / 64)) 66 2 ((k : Int) + 1) k' i = N k' i := fun k' i hk => by
        rw [up_x (by omega), up_x (by omega), up_x (by omega)]
        exact q1 k' i (by omega)
      refine q_call (c_afterBytes_66 (N := fr_up (fr_up (fr_up X 67 (k : Int) b) 68 (k : Int) (ad p lg b / 64)) 66 2 ((k : Int) + 1)) (p := p) (tp := tp) (lg := lg) (k := k) (r44 := X 44) (g := fr_up (fr_up (fr_up X 67 (k : Int) b) 68 (k : Int) (ad p lg b / 64)) 66 2 ((k : Int) + 1) 66) (gc := X 70) (gr := X 71) hw (hN.cg2 hfr) (hB.cg hfr) hSI (by omega) (by omega) q3 (fun r g' gc' gr' hC' hg' hneg' => ?_)) ?_
      · repeat' (first | (refine And.intro (by first | omega | (simp (disch := decide) only [up_n, up_s, cp_n, rw_n, rw_s, up1_, if_true, if_false, ite_true, ite_false, reduceIte, eq_self, Int.reduceEq, true_and, and_true, not_true_eq_false, not_false_eq_true]; omega)) ?_) | (refine And.intro (fun hc => ?_) (fun hc => ?_) <;> (try (simp (disch := decide) only [up_n, up_s, cp_n, rw_n, rw_s, up1_, if_true, if_false, ite_true, ite_false, reduceIte, eq_self, Int.reduceEq, true_and, and_true, not_true_eq_false, not_false_eq_true] at hc)) <;> (try (exfalso; omega))) | (refine fun (hc : ¬ _) => ?_; try (simp (disch := decide) only [up_n, up_s, cp_n, rw_n, rw_s, up1_, if_true, if_false, ite_true, ite_false, reduceIte, eq_self, Int.reduceEq, true_and, and_true, not_true_eq_false, not_false_eq_true] at hc)) | (refine fun (hc : _ = _) => ?_; try (simp (disch := decide) only [up_n, up_s, cp_n, rw_n, rw_s, up1_, if_true, if_false, ite_true, ite_false, reduceIte, eq_self, Int.reduceEq, true_and, and_true, not_true_eq_false, not_false_eq_true] at hc)))
        refine hi _ (fun k' i hk => ?_) hC' hneg' ⟨?_, ?_, ?_⟩ (fun j hj => ?_)
        · rw [rw_n (by omega), rw_n (by omega), rw_n (by omega), rw_n (by omega), up_x (by omega), up_x (by omega), up_x (by omega)]
          exact q1 k' i hk
        · show g' 0 = 1
          rw [hg' 0 (by omega) (by omega) (by omega) (by omega) (by omega) (by omega) (by omega)]
          exact q5.1
        · show g' 2 = ((k + 1 : Nat) : Int)
          rw [hg' 2 (by omega) (by omega) (by omega) (by omega) (by omega) (by omega) (by omega)]
          rfl
        · show g' 9 = 0
          rw [hg' 9 (by omega) (by omega) (by omega) (by omega) (by omega) (by omega) (by omega)]
          exact q5.2.2
        · show up1 (X 67) (k : Int) b (j : Int) = _ ∧ up1 (X 68) (k : Int) (ad p lg b / 64) (j : Int) = _
          rw [up1_, up1_]
          by_cases e : j = k
          · rw [if_pos (by omega), if_pos (by omega), e, hs]
            exact ⟨rfl, rfl⟩
          · rw [if_neg (by omega), if_neg (by omega)]
            exact q6 j (by omega)
      · have e0 := rw_id (M := fr_up (fr_up (fr_up X 67 (k : Int) b) 68 (k : Int) (ad p lg b / 64)) 66 2 ((k : Int) + 1)) (k := 44)
        have e1 := rw_id (M := fr_up (fr_up (fr_up X 67 (k : Int) b) 68 (k : Int) (ad p lg b / 64)) 66 2 ((k : Int) + 1)) (k := 66)
        have e4 := rw_id (M := fr_up (fr_up (fr_up X 67 (k : Int) b) 68 (k : Int) (ad p lg b / 64)) 66 2 ((k : Int) + 1)) (k := 70)
        have e5 := rw_id (M := fr_up (fr_up (fr_up X 67 (k : Int) b) 68 (k : Int) (ad p lg b / 64)) 66 2 ((k : Int) + 1)) (k := 71)
        have e0 : rw_ (fr_up (fr_up (fr_up X 67 (k : Int) b) 68 (k : Int) (ad p lg b / 64)) 66 2 ((k : Int) + 1)) 44 (X 44) = _ := e0
        have e4 : rw_ (fr_up (fr_up (fr_up X 67 (k : Int) b) 68 (k : Int) (ad p lg b / 64)) 66 2 ((k : Int) + 1)) 70 (X 70) = _ := e4
        have e5 : rw_ (fr_up (fr_up (fr_up X 67 (k : Int) b) 68 (k : Int) (ad p lg b / 64)) 66 2 ((k : Int) + 1)) 71 (X 71) = _ := e5
        rw [e0, e1, e4, e5]
set_option maxHeartbeats 4000000 in
set_option maxRecDepth 100000 in
theorem c_ry_66 {N p : fr_M} {tp lg : Int → Int} {b0 : Int} {Q : Option fr_V → fr_H → fr_M → Prop} (hw : WF p) (hN : RN p tp N) (hB : BN p lg N) (hb : 0 ≤ b0 ∧ b0 < p 75 4) (h : ∀ X K, (∀ k i, ¬ (k = 44 ∨ (66 ≤ k ∧ k ≤ 71)) → X k i = N k i) → REnd p tp b0 K → RY_66 p tp lg b0 K X → Q none sh0 X) : fr_Run 97 none 3 [some (.inr (.inl 44)), some (.inl b0), some (.inr (.inl 66)), none, none] [] sh0 N 0 0 Q := by
  refine fr_go k97 [9] 400 rfl ?_
  refine c_begin_66 (fun g gt hg hgt => ?_)
  repeat' (first | (refine And.intro (by first | omega | (simp (disch := decide) only [up_n, up_s, cp_n, rw_n, rw_s, up1_, if_true, if_false, ite_true, ite_false, reduceIte, eq_self, Int.reduceEq, true_and, and_true, not_true_eq_false, not_false_eq_true]; omega)) ?_) | (refine And.intro (fun hc => ?_) (fun hc => ?_) <;> (try (simp (disch := decide) only [up_n, up_s, cp_n, rw_n, rw_s, up1_, if_true, if_false, ite_true, ite_false, reduceIte, eq_self, Int.reduceEq, true_and, and_true, not_true_eq_false, not_false_eq_true] at hc)) <;> (try (exfalso; omega))) | (refine fun (hc : ¬ _) => ?_; try (simp (disch := decide) only [up_n, up_s, cp_n, rw_n, rw_s, up1_, if_true, if_false, ite_true, ite_false, reduceIte, eq_self, Int.reduceEq, true_and, and_true, not_true_eq_false, not_false_eq_true] at hc)) | (refine fun (hc : _ = _) => ?_; try (simp (disch := decide) only [up_n, up_s, cp_n, rw_n, rw_s, up1_, if_true, if_false, ite_true, ite_false, reduceIte, eq_self, Int.reduceEq, true_and, and_true, not_true_eq_false, not_false_eq_true] at hc)))
  have hh := c_ry_l_66 (N := N) (Q := Q) hw hN hB hb h 200 0 (rw_ (rw_ N 66 g) 69 gt) (by omega) (fun k i hk => by rw [rw_n (by omega), rw_n (by omega)]) (fun j hj => absurd hj (by omega)) ⟨⟨hg.2.2.2.1, hg.2.2.2.2.1, hg.2.2.2.2.2.1, hg.2.2.2.2.2.2.1, hg.2.2.2.2.2.2.2.1, hg.2.2.2.2.2.2.2.2.1⟩, fun j x hx => by cases j <;> cases hx⟩ (fun q => absurd q (by show ¬ b0 < 0; omega)) ⟨hg.1, hg.2.2.1, hg.2.2.2.2.2.2.2.2.2⟩ (fun j hj => absurd hj (by omega))
  rw [show (if (rs p tp b0 0).1 < 0 then -1 else (rs p tp b0 0).1) = b0 by (show (if b0 < 0 then -1 else b0) = b0; rw [if_neg (by omega)])] at hh
  exact hh
