theorem q_call {mj : Nat} {as : List fr_V} {sh : fr_H} {M M' : fr_M} {Q : Option fr_V → fr_H → fr_M → Prop} (h : fr_Call mj as sh M Q) (e : M = M') : fr_Call mj as sh M' Q := e ▸ h
theorem RN.cg {p : fr_M} {tp : Int → Int} {N X : fr_M} (h : RN p tp N) (e : ∀ k i, ¬ (44 < k ∧ k < 75) → X k i = N k i) : RN p tp X := by
  obtain ⟨n1, n2, n3, n4, n5⟩ := h
  refine ⟨fun b q0 q1 => ?_, fun b w q0 q1 q2 q3 => ?_, fun b q0 q1 q2 => ?_, ?_, fun i q0 => ?_⟩
  · rw [e 7 _ (by omega), e 8 _ (by omega)]
    exact n1 b q0 q1
  · rw [e 11 _ (by omega)]
    exact n2 b w q0 q1 q2 q3
  · rw [e 9 _ (by omega), e 3 _ (by omega)]
    exact n3 b q0 q1 q2
  · rw [e 42 _ (by omega)]
    exact n4
  · rw [e 42 _ (by omega), e 43 _ (by omega)]
    exact n5 i q0
/-- a run has come to its end behind K BLOCKS -/
def REnd (p : fr_M) (tp : Int → Int) (b : Int) (K : Nat) : Prop := K ≤ 200 ∧ (∀ j, j < K → 0 ≤ (rs p tp b j).1) ∧ ((rs p tp b K).1 < 0 ∨ K = 200)
theorem REnd.uniq {p : fr_M} {tp : Int → Int} {b : Int} {K K' : Nat} (h : REnd p tp b K) (h' : REnd p tp b K') : K = K' := by
  obtain ⟨a1, a2, a3⟩ := h
  obtain ⟨b1, b2, b3⟩ := h'
  by_cases e : K < K'
  · have := b2 K e
    omega
  · by_cases e2 : K' < K
    · have := a2 K' e2
      omega
    · omega
def ren (s : RS) : Int := if s.1 < 0 then -1 - s.1 else 3
def RF_45 (p : fr_M) (tp : Int → Int) (b : Int) (K : Nat) (X : fr_M) : Prop := X 45 0 = 1 ∧ X 45 1 = ren (rs p tp b K) ∧ X 45 2 = (K : Int) ∧ X 45 3 = (rs p tp b K).2.1 ∧ X 45 5 = (rs p tp b K).2.2.2.1 ∧ X 45 6 = 0 ∧ X 45 7 = 0 ∧ X 45 8 = 0 ∧ X 45 9 = 0 ∧ (∀ j : Nat, j < K → X 46 (j : Int) = (rs p tp b j).1) ∧ (∀ i, 0 ≤ i → i < 160 → X 48 i = (rs p tp b K).2.2.2.2.1 i)
set_option maxHeartbeats 4000000 in
set_option maxRecDepth 100000 in
theorem c_rb_l_45 {N p : fr_M} {tp : Int → Int} {b0 : Int} {Q : Option fr_V → fr_H → fr_M → Prop} (hw : WF p) (hN : RN p tp N) (hb : 0 ≤ b0 ∧ b0 < p 75 4) (h : ∀ X K, (∀ k i, ¬ (45 ≤ k ∧ k ≤ 50) → X k i = N k i) → REnd p tp b0 K → RF_45 p tp b0 K X → Q none sh0 X) : ∀ (t k : Nat) (X : fr_M), k + t = 200 → (∀ k i, ¬ (45 ≤ k ∧ k ≤ 50) → X k i = N k i) → (∀ j, j < k → 0 ≤ (rs p tp b0 j).1) → CR (X 45) (X 48) (X 49) (rs p tp b0 k) → ((rs p tp b0 k).1 < 0 → X 45 1 = -1 - (rs p tp b0 k).1) → (X 45 0 = 1 ∧ X 45 2 = (k : Int) ∧ X 45 6 = 0 ∧ X 45 7 = 0 ∧ X 45 8 = 0 ∧ X 45 9 = 0) → (∀ j : Nat, j < k → X 46 (j : Int) = (rs p tp b0 j).1) → fr_Run 90 none 6 [some (.inr (.inl 44)), some (.inl b0), some (.inr (.inl 45)), some (.inl (if (rs p tp b0 k).1 < 0 then -1 else (rs p tp b0 k).1)), some (.inl (k : Int))] [] sh0 X 0 0 Q := by
  have ht := fun i q0 => (hN.2.2.2.2 i q0).2
  have h40 := hw.1.1
  intro t
  induction t with
  | zero =>
    intro k X q0 q1 q2 q3 q4 q5 q6
    have e : k = 200 := by omega
    subst e
    by_cases hneg : (rs p tp b0 200).1 < 0
    · have hh := h X 200 q1 ⟨Nat.le_refl _, q2, Or.inl hneg⟩ ⟨q5.1, by unfold ren; rw [if_pos hneg]; exact q4 hneg, q5.2.1, q3.1, q3.2.2.1, q5.2.2.1, q5.2.2.2.1, q5.2.2.2.2.1, q5.2.2.2.2.2, q6, q3.2.2.2.1⟩
      clear h
      rw [if_pos hneg]
      refine fr_go k90 [6] 400 rfl ?_
      repeat' (first | (refine And.intro (by first | omega | (simp (disch := decide) only [up_n, up_s, cp_n, rw_n, rw_s, up1_, if_true, if_false, ite_true, ite_false, reduceIte, eq_self, Int.reduceEq, true_and, and_true, not_true_eq_false, not_false_eq_true]; omega)) ?_) | (refine And.intro (fun hc => ?_) (fun hc => ?_) <;> (try (simp (disch := decide) only [up_n, up_s, cp_n, rw_n, rw_s, up1_, if_true, if_false, ite_true, ite_false, reduceIte, eq_self, Int.reduceEq, true_and, and_true, not_true_eq_false, not_false_eq_true] at hc)) <;> (try (exfalso; omega))) | (refine fun (hc : ¬ _) => ?_; try (simp (disch := decide) only [up_n, up_s, cp_n, rw_n, rw_s, up1_, if_true, if_false, ite_true, ite_false, reduceIte, eq_self, Int.reduceEq, true_and, and_true, not_true_eq_false, not_false_eq_true] at hc)) | (refine fun (hc : _ = _) => ?_; try (simp (disch := decide) only [up_n, up_s, cp_n, rw_n, rw_s, up1_, if_true, if_false, ite_true, ite_false, reduceIte, eq_self, Int.reduceEq, true_and, and_true, not_true_eq_false, not_false_eq_true] at hc)))
      all_goals first | (exfalso; omega) | exact hh
    · have hh := h (fr_up X 45 1 3) 200 (fun k i hk => by rw [up_x (by omega)]; exact q1 k i hk) ⟨Nat.le_refl _, q2, Or.inr rfl⟩ ⟨q5.1, by unfold ren; rw [if_neg hneg]; rfl, q5.2.1, q3.1, q3.2.2.1, q5.2.2.1, q5.2.2.2.1, q5.2.2.2.2.1, q5.2.2.2.2.2, q6, q3.2.2.2.1⟩
      clear h
      rw [if_neg hneg]
      refine fr_go k90 [6] 400 rfl ?_
      repeat' (first | (refine And.intro (by first | omega | (simp (disch := decide) only [up_n, up_s, cp_n, rw_n, rw_s, up1_, if_true, if_false, ite_true, ite_false, reduceIte, eq_self, Int.reduceEq, true_and, and_true, not_true_eq_false, not_false_eq_true]; omega)) ?_) | (refine c_stop_45 ?_) | (refine And.intro (fun hc => ?_) (fun hc => ?_) <;> (try (simp (disch := decide) only [up_n, up_s, cp_n, rw_n, rw_s, up1_, if_true, if_false, ite_true, ite_false, reduceIte, eq_self, Int.reduceEq, true_and, and_true, not_true_eq_false, not_false_eq_true] at hc)) <;> (try (exfalso; omega))) | (refine fun (hc : ¬ _) => ?_; try (simp (disch := decide) only [up_n, up_s, cp_n, rw_n, rw_s, up1_, if_true, if_false, ite_true, ite_false, reduceIte, eq_self, Int.reduceEq, true_and, and_true, not_true_eq_false, not_false_eq_true] at hc)) | (refine fun (hc : _ = _) => ?_; try (simp (disch := decide) only [up_n, up_s, cp_n, rw_n, rw_s, up1_, if_true, if_false, ite_true, ite_false, reduceIte, eq_self, Int.reduceEq, true_and, and_true, not_true_eq_false, not_false_eq_true] at hc)))
      all_goals first | (exfalso; omega) | exact hh
  | succ t ih =>
    intro k X q0 q1 q2 q3 q4 q5 q6
    by_cases hneg : (rs p tp b0 k).1 < 0
    · have hh := h X k q1 ⟨by omega, q2, Or.inl hneg⟩ ⟨q5.1, by unfold ren; rw [if_pos hneg]; exact q4 hneg, q5.2.1, q3.1, q3.2.2.1, q5.2.2.1, q5.2.2.2.1, q5.2.2.2.2.1, q5.2.2.2.2.2, q6, q3.2.2.2.1⟩
      clear h ih
      rw [if_pos hneg]
      refine fr_go k90 [6] 400 rfl ?_
      repeat' (first | (refine And.intro (by first | omega | (simp (disch := decide) only [up_n, up_s, cp_n, rw_n, rw_s, up1_, if_true, if_false, ite_true, ite_false, reduceIte, eq_self, Int.reduceEq, true_and, and_true, not_true_eq_false, not_false_eq_true]; omega)) ?_) | (refine And.intro (fun hc => ?_) (fun hc => ?_) <;> (try (simp (disch := decide) only [up_n, up_s, cp_n, rw_n, rw_s, up1_, if_true, if_false, ite_true, ite_false, reduceIte, eq_self, Int.reduceEq, true_and, and_true, not_true_eq_false, not_false_eq_true] at hc)) <;> (try (exfalso; omega))) | (refine fun (hc : ¬ _) => ?_; try (simp (disch := decide) only [up_n, up_s, cp_n, rw_n, rw_s, up1_, if_true, if_false, ite_true, ite_false, reduceIte, eq_self, Int.reduceEq, true_and, and_true, not_true_eq_false, not_false_eq_true] at hc)) | (refine fun (hc : _ = _) => ?_; try (simp (disch := decide) only [up_n, up_s, cp_n, rw_n, rw_s, up1_, if_true, if_false, ite_true, ite_false, reduceIte, eq_self, Int.reduceEq, true_and, and_true, not_true_eq_false, not_false_eq_true] at hc)))
      all_goals first | (exfalso; omega) | exact hh
    · rw [if_neg hneg]
      have hSI := rs_si hw ht hb k
      have hnext : rs p tp b0 (k + 1) = stp p tp (rs p tp b0 k) := by
        rw [rs, if_neg hneg]
      have hi := fun X' a1 a2 a3 a4 a5 => ih (k + 1) X' (by omega) a1 (fun j hj => by
        by_cases e : j = k
        · rw [e]; omega
        · exact q2 j (by omega)) a2 a3 a4 a5
      rw [hnext] at hi
      rcases hs : rs p tp b0 k with ⟨b, ch, st, mo, tk, jm, tj, ts⟩
      rw [hs] at hi hSI q3 hneg
      have hneg : ¬ b < 0 := hneg
      have e2 := q5.2.1
      clear ih h
      refine fr_go k90 [6] 400 rfl ?_
      repeat' (first | (refine And.intro (by first | omega | (simp (disch := decide) only [up_n, up_s, cp_n, rw_n, rw_s, up1_, if_true, if_false, ite_true, ite_false, reduceIte, eq_self, Int.reduceEq, true_and, and_true, not_true_eq_false, not_false_eq_true]; omega)) ?_) | (refine c_tpass_45 (by omega) ?_) | (refine And.intro (fun hc => ?_) (fun hc => ?_) <;> (try (simp (disch := decide) only [up_n, up_s, cp_n, rw_n, rw_s, up1_, if_true, if_false, ite_true, ite_false, reduceIte, eq_self, Int.reduceEq, true_and, and_true, not_true_eq_false, not_false_eq_true] at hc)) <;> (try (exfalso; omega))) | (refine fun (hc : ¬ _) => ?_; try (simp (disch := decide) only [up_n, up_s, cp_n, rw_n, rw_s, up1_, if_true, if_false, ite_true, ite_false, reduceIte, eq_self, Int.reduceEq, true_and, and_true, not_true_eq_false, not_false_eq_true] at hc)) | (refine fun (hc : _ = _) => ?_; try (simp (disch := decide) only [up_n, up_s, cp_n, rw_n, rw_s, up1_, if_true, if_false, ite_true, ite_false, reduceIte, eq_self, Int.reduceEq, true_and, and_true, not_true_eq_false, not_false_eq_true] at hc)))
      all_goals first | (exfalso; omega) | skip
      rw [e2]
      have hRN : RN p tp (fr_up (fr_up (fr_up X 46 (k : Int) b) 47 (k : Int) 0) 45 2 ((k : Int) + 1)) := hN.cg (fun k' i hk => by rw [up_x (by omega), up_x (by omega), up_x (by omega)]; exact q1 k' i (by omega))
      refine q_call (c_after_45 (N := fr_up (fr_up (fr_up X 46 (k : Int) b) 47 (k : Int) 0) 45 2 ((k : Int) + 1)) (p := p) (tp := tp) (k := k) (g := fr_up (fr_up (fr_up X 46 (k : Int) b) 47 (k : Int) 0) 45 2 ((k : Int) + 1) 45) (gt := X 48) (gc := X 49) (gr := X 50) hw hRN hSI (by omega) (by omega) q3 (fun g' gt' gc' gr' hC' hg' hneg' => ?_)) ?_
      · repeat' (first | (refine And.intro (by first | omega | (simp (disch := decide) only [up_n, up_s, cp_n, rw_n, rw_s, up1_, if_true, if_false, ite_true, ite_false, reduceIte, eq_self, Int.reduceEq, true_and, and_true, not_true_eq_false, not_false_eq_true]; omega)) ?_) | (refine And.intro (fun hc => ?_) (fun hc => ?_) <;> (try (simp (disch := decide) only [up_n, up_s, cp_n, rw_n, rw_s, up1_, if_true, if_false, ite_true, ite_false, reduceIte, eq_self, Int.reduceEq, true_and, and_true, not_true_eq_false, not_false_eq_true] at hc)) <;> (try (exfalso; omega))) | (refine fun (hc : ¬ _) => ?_; try (simp (disch := decide) only [up_n, up_s, cp_n, rw_n, rw_s, up1_, if_true, if_false, ite_true, ite_false, reduceIte, eq_self, Int.reduceEq, true_and, and_true, not_true_eq_false, not_false_eq_true] at hc)) | (refine fun (hc : _ = _) => ?_; try (simp (disch := decide) only [up_n, up_s, cp_n, rw_n, rw_s, up1_, if_true, if_false, ite_true, ite_false, reduceIte, eq_self, Int.reduceEq, true_and, and_true, not_true_eq_false, not_false_eq_true] at hc)))
        refine hi _ (fun k' i hk => ?_) hC' hneg' ⟨?_, ?_, ?_, ?_, ?_, ?_⟩ (fun j hj => ?_)
        · rw [rw_n (by omega), rw_n (by omega), rw_n (by omega), rw_n (by omega), up_x (by omega), up_x (by omega), up_x (by omega)]
          exact q1 k' i hk
        · show g' 0 = 1
          rw [hg' 0 (by omega) (by omega) (by omega) (by omega)]
          exact q5.1
        · show g' 2 = ((k + 1 : Nat) : Int)
          rw [hg' 2 (by omega) (by omega) (by omega) (by omega)]
          rfl
        · show g' 6 = 0
          rw [hg' 6 (by omega) (by omega) (by omega) (by omega)]
          exact q5.2.2.1
        · show g' 7 = 0
          rw [hg' 7 (by omega) (by omega) (by omega) (by omega)]
          exact q5.2.2.2.1
        · show g' 8 = 0
          rw [hg' 8 (by omega) (by omega) (by omega) (by omega)]
          exact q5.2.2.2.2.1
        · show g' 9 = 0
          rw [hg' 9 (by omega) (by omega) (by omega) (by omega)]
          exact q5.2.2.2.2.2
        · show up1 (X 46) (k : Int) b (j : Int) = _
          rw [up1_]
          by_cases e : j = k
          · rw [if_pos (by omega), e, hs]
          · rw [if_neg (by omega)]
            exact q6 j (by omega)
      · have e1 := rw_id (M := fr_up (fr_up (fr_up X 46 (k : Int) b) 47 (k : Int) 0) 45 2 ((k : Int) + 1)) (k := 45)
        have e3 := rw_id (M := fr_up (fr_up (fr_up X 46 (k : Int) b) 47 (k : Int) 0) 45 2 ((k : Int) + 1)) (k := 48)
        have e4 := rw_id (M := fr_up (fr_up (fr_up X 46 (k : Int) b) 47 (k : Int) 0) 45 2 ((k : Int) + 1)) (k := 49)
        have e5 := rw_id (M := fr_up (fr_up (fr_up X 46 (k : Int) b) 47 (k : Int) 0) 45 2 ((k : Int) + 1)) (k := 50)
        have e3 : rw_ (fr_up (fr_up (fr_up X 46 (k : Int) b) 47 (k : Int) 0) 45 2 ((k : Int) + 1)) 48 (X 48) = _ := e3
        have e4 : rw_ (fr_up (fr_up (fr_up X 46 (k : Int) b) 47 (k : Int) 0) 45 2 ((k : Int) + 1)) 49 (X 49) = _ := e4
        have e5 : rw_ (fr_up (fr_up (fr_up X 46 (k : Int) b) 47 (k : Int) 0) 45 2 ((k : Int) + 1)) 50 (X 50) = _ := e5
        rw [e1, e3, e4, e5]
set_option maxHeartbeats 4000000 in
set_option maxRecDepth 100000 in
theorem c_runBlocks_45 {N p : fr_M} {tp : Int → Int} {b0 : Int} {Q : Option fr_V → fr_H → fr_M → Prop} (hw : WF p) (hN : RN p tp N) (hb : 0 ≤ b0 ∧ b0 < p 75 4) (h : ∀ X K, (∀ k i, ¬ (45 ≤ k ∧ k ≤ 50) → X k i = N k i) → REnd p tp b0 K → RF_45 p tp b0 K X → Q none sh0 X) : fr_Call 90 [.inr (.inl 44), .inl b0, .inr (.inl 45)] sh0 N Q := by
  refine fr_cgo k90 [some (.inr (.inl 44)), some (.inl b0), some (.inr (.inl 45)), none, none] 0 0 [6] 400 rfl rfl rfl rfl ?_
  refine c_begin_45 (fun g gt hg hgt => ?_)
  repeat' (first | (refine And.intro (by first | omega | (simp (disch := decide) only [up_n, up_s, cp_n, rw_n, rw_s, up1_, if_true, if_false, ite_true, ite_false, reduceIte, eq_self, Int.reduceEq, true_and, and_true, not_true_eq_false, not_false_eq_true]; omega)) ?_) | (refine And.intro (fun hc => ?_) (fun hc => ?_) <;> (try (simp (disch := decide) only [up_n, up_s, cp_n, rw_n, rw_s, up1_, if_true, if_false, ite_true, ite_false, reduceIte, eq_self, Int.reduceEq, true_and, and_true, not_true_eq_false, not_false_eq_true] at hc)) <;> (try (exfalso; omega))) | (refine fun (hc : ¬ _) => ?_; try (simp (disch := decide) only [up_n, up_s, cp_n, rw_n, rw_s, up1_, if_true, if_false, ite_true, ite_false, reduceIte, eq_self, Int.reduceEq, true_and, and_true, not_true_eq_false, not_false_eq_true] at hc)) | (refine fun (hc : _ = _) => ?_; try (simp (disch := decide) only [up_n, up_s, cp_n, rw_n, rw_s, up1_, if_true, if_false, ite_true, ite_false, reduceIte, eq_self, Int.reduceEq, true_and, and_true, not_true_eq_false, not_false_eq_true] at hc)))
  have hh := c_rb_l_45 (N := N) (Q := Q) hw hN hb h 200 0 (rw_ (rw_ N 45 g) 48 gt) (by omega) (fun k i hk => by rw [rw_n (by omega), rw_n (by omega)]) (fun j hj => absurd hj (by omega)) ⟨hg.2.2.2.1, hg.2.2.2.2.1, hg.2.2.2.2.2.1, hgt, fun j x hx => by cases j <;> cases hx⟩ (fun q => absurd q (by show ¬ b0 < 0; omega)) ⟨hg.1, hg.2.2.1, hg.2.2.2.2.2.2.1, hg.2.2.2.2.2.2.2.1, hg.2.2.2.2.2.2.2.2.1, hg.2.2.2.2.2.2.2.2.2⟩ (fun j hj => absurd hj (by omega))
  rw [show (if (rs p tp b0 0).1 < 0 then -1 else (rs p tp b0 0).1) = b0 by (show (if b0 < 0 then -1 else b0) = b0; rw [if_neg (by omega)])] at hh
  exact hh
def RF_59 (p : fr_M) (tp : Int → Int) (b : Int) (K : Nat) (X : fr_M) : Prop := X 59 0 = 1 ∧ X 59 1 = ren (rs p tp b K) ∧ X 59 2 = (K : Int) ∧ X 59 3 = (rs p tp b K).2.1 ∧ X 59 5 = (rs p tp b K).2.2.2.1 ∧ X 59 6 = 0 ∧ X 59 7 = 0 ∧ X 59 8 = 0 ∧ X 59 9 = 0 ∧ (∀ j : Nat, j < K → X 60 (j : Int) = (rs p tp b j).1) ∧ (∀ i, 0 ≤ i → i < 160 → X 62 i = (rs p tp b K).2.2.2.2.1 i)
set_option maxHeartbeats 4000000 in
set_option maxRecDepth 100000 in
theorem c_rb_l_59 {N p : fr_M} {tp : Int → Int} {b0 : Int} {Q : Option fr_V → fr_H → fr_M → Prop} (hw : WF p) (hN : RN p tp N) (hb : 0 ≤ b0 ∧ b0 < p 75 4) (h : ∀ X K, (∀ k i, ¬ (59 ≤ k ∧ k ≤ 64) → X k i = N k i) → REnd p tp b0 K → RF_59 p tp b0 K X → Q none sh0 X) : ∀ (t k : Nat) (X : fr_M), k + t = 200 → (∀ k i, ¬ (59 ≤ k ∧ k ≤ 64) → X k i = N k i) → (∀ j, j < k → 0 ≤ (rs p tp b0 j).1) → CR (X 59) (X 62) (X 63) (rs p tp b0 k) → ((rs p tp b0 k).1 < 0 → X 59 1 = -1 - (rs p tp b0 k).1) → (X 59 0 = 1 ∧ X 59 2 = (k : Int) ∧ X 59 6 = 0 ∧ X 59 7 = 0 ∧ X 59 8 = 0 ∧ X 59 9 = 0) → (∀ j : Nat, j < k → X 60 (j : Int) = (rs p tp b0 j).1) → fr_Run 90 none 6 [some (.inr (.inl 44)), some (.inl b0), some (.inr (.inl 59)), some (.inl (if (rs p tp b0 k).1 < 0 then -1 else (rs p tp b0 k).1)), some (.inl (k : Int))] [] sh0 X 0 0 Q := by
  have ht := fun i q0 => (hN.2.2.2.2 i q0).2
  have h40 := hw.1.1
  intro t
  induction t with
  | zero =>
    intro k X q0 q1 q2 q3 q4 q5 q6
    have e : k = 200 := by omega
    subst e
    by_cases hneg : (rs p tp b0 200).1 < 0
    · have hh := h X 200 q1 ⟨Nat.le_refl _, q2, Or.inl hneg⟩ ⟨q5.1, by unfold ren; rw [if_pos hneg]; exact q4 hneg, q5.2.1, q3.1, q3.2.2.1, q5.2.2.1, q5.2.2.2.1, q5.2.2.2.2.1, q5.2.2.2.2.2, q6, q3.2.2.2.1⟩
      clear h
      rw [if_pos hneg]
      refine fr_go k90 [6] 400 rfl ?_
      repeat' (first | (refine And.intro (by first | omega | (simp (disch := decide) only [up_n, up_s, cp_n, rw_n, rw_s, up1_, if_true, if_false, ite_true, ite_false, reduceIte, eq_self, Int.reduceEq, true_and, and_true, not_true_eq_false, not_false_eq_true]; omega)) ?_) | (refine And.intro (fun hc => ?_) (fun hc => ?_) <;> (try (simp (disch := decide) only [up_n, up_s, cp_n, rw_n, rw_s, up1_, if_true, if_false, ite_true, ite_false, reduceIte, eq_self, Int.reduceEq, true_and, and_true, not_true_eq_false, not_false_eq_true] at hc)) <;> (try (exfalso; omega))) | (refine fun (hc : ¬ _) => ?_; try (simp (disch := decide) only [up_n, up_s, cp_n, rw_n, rw_s, up1_, if_true, if_false, ite_true, ite_false, reduceIte, eq_self, Int.reduceEq, true_and, and_true, not_true_eq_false, not_false_eq_true] at hc)) | (refine fun (hc : _ = _) => ?_; try (simp (disch := decide) only [up_n, up_s, cp_n, rw_n, rw_s, up1_, if_true, if_false, ite_true, ite_false, reduceIte, eq_self, Int.reduceEq, true_and, and_true, not_true_eq_false, not_false_eq_true] at hc)))
      all_goals first | (exfalso; omega) | exact hh
    · have hh := h (fr_up X 59 1 3) 200 (fun k i hk => by rw [up_x (by omega)]; exact q1 k i hk) ⟨Nat.le_refl _, q2, Or.inr rfl⟩ ⟨q5.1, by unfold ren; rw [if_neg hneg]; rfl, q5.2.1, q3.1, q3.2.2.1, q5.2.2.1, q5.2.2.2.1, q5.2.2.2.2.1, q5.2.2.2.2.2, q6, q3.2.2.2.1⟩
      clear h
      rw [if_neg hneg]
      refine fr_go k90 [6] 400 rfl ?_
      repeat' (first | (refine And.intro (by first | omega | (simp (disch := decide) only [up_n, up_s, cp_n, rw_n, rw_s, up1_, if_true, if_false, ite_true, ite_false, reduceIte, eq_self, Int.reduceEq, true_and, and_true, not_true_eq_false, not_false_eq_true]; omega)) ?_) | (refine c_stop_59 ?_) | (refine And.intro (fun hc => ?_) (fun hc => ?_) <;> (try (simp (disch := decide) only [up_n, up_s, cp_n, rw_n, rw_s, up1_, if_true, if_false, ite_true, ite_false, reduceIte, eq_self, Int.reduceEq, true_and, and_true, not_true_eq_false, not_false_eq_true] at hc)) <;> (try (exfalso; omega))) | (refine fun (hc : ¬ _) => ?_; try (simp (disch := decide) only [up_n, up_s, cp_n, rw_n, rw_s, up1_, if_true, if_false, ite_true, ite_false, reduceIte, eq_self, Int.reduceEq, true_and, and_true, not_true_eq_false, not_false_eq_true] at hc)) | (refine fun (hc : _ = _) => ?_; try (simp (disch := decide) only [up_n, up_s, cp_n, rw_n, rw_s, up1_, if_true, if_false, ite_true, ite_false, reduceIte, eq_self, Int.reduceEq, true_and, and_true, not_true_eq_false, not_false_eq_true] at hc)))
      all_goals first | (exfalso; omega) | exact hh
  | succ t ih =>
    intro k X q0 q1 q2 q3 q4 q5 q6
    by_cases hneg : (rs p tp b0 k).1 < 0
    · have hh := h X k q1 ⟨by omega, q2, Or.inl hneg⟩ ⟨q5.1, by unfold ren; rw [if_pos hneg]; exact q4 hneg, q5.2.1, q3.1, q3.2.2.1, q5.2.2.1, q5.2.2.2.1, q5.2.2.2.2.1, q5.2.2.2.2.2, q6, q3.2.2.2.1⟩
      clear h ih
      rw [if_pos hneg]
      refine fr_go k90 [6] 400 rfl ?_
      repeat' (first | (refine And.intro (by first | omega | (simp (disch := decide) only [up_n, up_s, cp_n, rw_n, rw_s, up1_, if_true, if_false, ite_true, ite_false, reduceIte, eq_self, Int.reduceEq, true_and, and_true, not_true_eq_false, not_false_eq_true]; omega)) ?_) | (refine And.intro (fun hc => ?_) (fun hc => ?_) <;> (try (simp (disch := decide) only [up_n, up_s, cp_n, rw_n, rw_s, up1_, if_true, if_false, ite_true, ite_false, reduceIte, eq_self, Int.reduceEq, true_and, and_true, not_true_eq_false, not_false_eq_true] at hc)) <;> (try (exfalso; omega))) | (refine fun (hc : ¬ _) => ?_; try (simp (disch := decide) only [up_n, up_s, cp_n, rw_n, rw_s, up1_, if_true, if_false, ite_true, ite_false, reduceIte, eq_self, Int.reduceEq, true_and, and_true, not_true_eq_false, not_false_eq_true] at hc)) | (refine fun (hc : _ = _) => ?_; try (simp (disch := decide) only [up_n, up_s, cp_n, rw_n, rw_s, up1_, if_true, if_false, ite_true, ite_false, reduceIte, eq_self, Int.reduceEq, true_and, and_true, not_true_eq_false, not_false_eq_true] at hc)))
      all_goals first | (exfalso; omega) | exact hh
    · rw [if_neg hneg]
      have hSI := rs_si hw ht hb k
      have hnext : rs p tp b0 (k + 1) = stp p tp (rs p tp b0 k) := by
        rw [rs, if_neg hneg]
      have hi := fun X' a1 a2 a3 a4 a5 => ih (k + 1) X' (by omega) a1 (fun j hj => by
        by_cases e : j = k
        · rw [e]; omega
        · exact q2 j (by omega)) a2 a3 a4 a5
      rw [hnext] at hi
      rcases hs : rs p tp b0 k with ⟨b, ch, st, mo, tk, jm, tj, ts⟩
      rw [hs] at hi hSI q3 hneg
      have hneg : ¬ b < 0 := hneg
      have e2 := q5.2.1
      clear ih h
      refine fr_go k90 [6] 400 rfl ?_
      repeat' (first | (refine And.intro (by first | omega | (simp (disch := decide) only [up_n, up_s, cp_n, rw_n, rw_s, up1_, if_true, if_false, ite_true, ite_false, reduceIte, eq_self, Int.reduceEq, true_and, and_true, not_true_eq_false, not_false_eq_true]; omega)) ?_) | (refine c_tpass_59 (by omega) ?_) | (refine And.intro (fun hc => ?_) (fun hc => ?_) <;> (try (simp (disch := decide) only [up_n, up_s, cp_n, rw_n, rw_s, up1_, if_true, if_false, ite_true, ite_false, reduceIte, eq_self, Int.reduceEq, true_and, and_true, not_true_eq_false, not_false_eq_true] at hc)) <;> (try (exfalso; omega))) | (refine fun (hc : ¬ _) => ?_; try (simp (disch := decide) only [up_n, up_s, cp_n, rw_n, rw_s, up1_, if_true, if_false, ite_true, ite_false, reduceIte, eq_self, Int.reduceEq, true_and, and_true, not_true_eq_false, not_false_eq_true] at hc)) | (refine fun (hc : _ = _) => ?_; try (simp (disch := decide) only [up_n, up_s, cp_n, rw_n, rw_s, up1_, if_true, if_false, ite_true, ite_false, reduceIte, eq_self, Int.reduceEq, true_and, and_true, not_true_eq_false, not_false_eq_true] at hc)))
      all_goals first | (exfalso; omega) | skip
      rw [e2]
      have hRN : RN p tp (fr_up (fr_up (fr_up X 60 (k : Int) b) 61 (k : Int) 0) 59 2 ((k : Int) + 1)) := hN.cg (fun k' i hk => by rw [up_x (by omega), up_x (by omega), up_x (by omega)]; exact q1 k' i (by omega))
      refine q_call (c_after_59 (N := fr_up (fr_up (fr_up X 60 (k : Int) b) 61 (k : Int) 0) 59 2 ((k : Int) + 1)) (p := p) (tp := tp) (k := k) (g := fr_up (fr_up (fr_up X 60 (k : Int) b) 61 (k : Int) 0) 59 2 ((k : Int) + 1) 59) (gt := X 62) (gc := X 63) (gr := X 64) hw hRN hSI (by omega) (by omega) q3 (fun g' gt' gc' gr' hC' hg' hneg' => ?_)) ?_
      · repeat' (first | (refine And.intro (by first | omega | (simp (disch := decide) only [up_n, up_s, cp_n, rw_n, rw_s, up1_, if_true, if_false, ite_true, ite_false, reduceIte, eq_self, Int.reduceEq, true_and, and_true, not_true_eq_false, not_false_eq_true]; omega)) ?_) | (refine And.intro (fun hc => ?_) (fun hc => ?_) <;> (try (simp (disch := decide) only [up_n, up_s, cp_n, rw_n, rw_s, up1_, if_true, if_false, ite_true, ite_false, reduceIte, eq_self, Int.reduceEq, true_and, and_true, not_true_eq_false, not_false_eq_true] at hc)) <;> (try (exfalso; omega))) | (refine fun (hc : ¬ _) => ?_; try (simp (disch := decide) only [up_n, up_s, cp_n, rw_n, rw_s, up1_, if_true, if_false, ite_true, ite_false, reduceIte, eq_self, Int.reduceEq, true_and, and_true, not_true_eq_false, not_false_eq_true] at hc)) | (refine fun (hc : _ = _) => ?_; try (simp (disch := decide) only [up_n, up_s, cp_n, rw_n, rw_s, up1_, if_true, if_false, ite_true, ite_false, reduceIte, eq_self, Int.reduceEq, true_and, and_true, not_true_eq_false, not_false_eq_true] at hc)))
        refine hi _ (fun k' i hk => ?_) hC' hneg' ⟨?_, ?_, ?_, ?_, ?_, ?_⟩ (fun j hj => ?_)
        · rw [rw_n (by omega), rw_n (by omega), rw_n (by omega), rw_n (by omega), up_x (by omega), up_x (by omega), up_x (by omega)]
          exact q1 k' i hk
        · show g' 0 = 1
          rw [hg' 0 (by omega) (by omega) (by omega) (by omega)]
          exact q5.1
        · show g' 2 = ((k + 1 : Nat) : Int)
          rw [hg' 2 (by omega) (by omega) (by omega) (by omega)]
          rfl
        · show g' 6 = 0
          rw [hg' 6 (by omega) (by omega) (by omega) (by omega)]
          exact q5.2.2.1
        · show g' 7 = 0
          rw [hg' 7 (by omega) (by omega) (by omega) (by omega)]
          exact q5.2.2.2.1
        · show g' 8 = 0
          rw [hg' 8 (by omega) (by omega) (by omega) (by omega)]
          exact q5.2.2.2.2.1
        · show g' 9 = 0
          rw [hg' 9 (by omega) (by omega) (by omega) (by omega)]
          exact q5.2.2.2.2.2
        · show up1 (X 60) (k : Int) b (j : Int) = _
          rw [up1_]
          by_cases e : j = k
          · rw [if_pos (by omega), e, hs]
          · rw [if_neg (by omega)]
            exact q6 j (by omega)
      · have e1 := rw_id (M := fr_up (fr_up (fr_up X 60 (k : Int) b) 61 (k : Int) 0) 59 2 ((k : Int) + 1)) (k := 59)
        have e3 := rw_id (M := fr_up (fr_up (fr_up X 60 (k : Int) b) 61 (k : Int) 0) 59 2 ((k : Int) + 1)) (k := 62)
        have e4 := rw_id (M := fr_up (fr_up (fr_up X 60 (k : Int) b) 61 (k : Int) 0) 59 2 ((k : Int) + 1)) (k := 63)
        have e5 := rw_id (M := fr_up (fr_up (fr_up X 60 (k : Int) b) 61 (k : Int) 0) 59 2 ((k : Int) + 1)) (k := 64)
        have e3 : rw_ (fr_up (fr_up (fr_up X 60 (k : Int) b) 61 (k : Int) 0) 59 2 ((k : Int) + 1)) 62 (X 62) = _ := e3
        have e4 : rw_ (fr_up (fr_up (fr_up X 60 (k : Int) b) 61 (k : Int) 0) 59 2 ((k : Int) + 1)) 63 (X 63) = _ := e4
        have e5 : rw_ (fr_up (fr_up (fr_up X 60 (k : Int) b) 61 (k : Int) 0) 59 2 ((k : Int) + 1)) 64 (X 64) = _ := e5
        rw [e1, e3, e4, e5]
set_option maxHeartbeats 4000000 in
set_option maxRecDepth 100000 in
theorem c_runBlocks_59 {N p : fr_M} {tp : Int → Int} {b0 : Int} {Q : Option fr_V → fr_H → fr_M → Prop} (hw : WF p) (hN : RN p tp N) (hb : 0 ≤ b0 ∧ b0 < p 75 4) (h : ∀ X K, (∀ k i, ¬ (59 ≤ k ∧ k ≤ 64) → X k i = N k i) → REnd p tp b0 K → RF_59 p tp b0 K X → Q none sh0 X) : fr_Call 90 [.inr (.inl 44), .inl b0, .inr (.inl 59)] sh0 N Q := by
  refine fr_cgo k90 [some (.inr (.inl 44)), some (.inl b0), some (.inr (.inl 59)), none, none] 0 0 [6] 400 rfl rfl rfl rfl ?_
  refine c_begin_59 (fun g gt hg hgt => ?_)
  repeat' (first | (refine And.intro (by first | omega | (simp (disch := decide) only [up_n, up_s, cp_n, rw_n, rw_s, up1_, if_true, if_false, ite_true, ite_false, reduceIte, eq_self, Int.reduceEq, true_and, and_true, not_true_eq_false, not_false_eq_true]; omega)) ?_) | (refine And.intro (fun hc => ?_) (fun hc => ?_) <;> (try (simp (disch := decide) only [up_n, up_s, cp_n, rw_n, rw_s, up1_, if_true, if_false, ite_true, ite_false, reduceIte, eq_self, Int.reduceEq, true_and, and_true, not_true_eq_false, not_false_eq_true] at hc)) <;> (try (exfalso; omega))) | (refine fun (hc : ¬ _) => ?_; try (simp (disch := decide) only [up_n, up_s, cp_n, rw_n, rw_s, up1_, if_true, if_false, ite_true, ite_false, reduceIte, eq_self, Int.reduceEq, true_and, and_true, not_true_eq_false, not_false_eq_true] at hc)) | (refine fun (hc : _ = _) => ?_; try (simp (disch := decide) only [up_n, up_s, cp_n, rw_n, rw_s, up1_, if_true, if_false, ite_true, ite_false, reduceIte, eq_self, Int.reduceEq, true_and, and_true, not_true_eq_false, not_false_eq_true] at hc)))
  have hh := c_rb_l_59 (N := N) (Q := Q) hw hN hb h 200 0 (rw_ (rw_ N 59 g) 62 gt) (by omega) (fun k i hk => by rw [rw_n (by omega), rw_n (by omega)]) (fun j hj => absurd hj (by omega)) ⟨hg.2.2.2.1, hg.2.2.2.2.1, hg.2.2.2.2.2.1, hgt, fun j x hx => by cases j <;> cases hx⟩ (fun q => absurd q (by show ¬ b0 < 0; omega)) ⟨hg.1, hg.2.2.1, hg.2.2.2.2.2.2.1, hg.2.2.2.2.2.2.2.1, hg.2.2.2.2.2.2.2.2.1, hg.2.2.2.2.2.2.2.2.2⟩ (fun j hj => absurd hj (by omega))
  rw [show (if (rs p tp b0 0).1 < 0 then -1 else (rs p tp b0 0).1) = b0 by (show (if b0 < 0 then -1 else b0) = b0; rw [if_neg (by omega)])] at hh
  exact hh
