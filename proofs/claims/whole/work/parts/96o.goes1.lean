def pgf (p : fr_M) (tp lg : Int → Int) (b : Int) : Int → Int := fun j => ad p lg (rs p tp b j.toNat).1 / 64
theorem pgf_n {p : fr_M} {tp lg : Int → Int} {b : Int} {k : Nat} : pgf p tp lg b (k : Int) = ad p lg (rs p tp b k).1 / 64 := by
  unfold pgf
  rw [Int.toNat_natCast]
set_option maxHeartbeats 4000000 in
set_option maxRecDepth 100000 in
theorem m_passesX {X p : fr_M} {tp : Int → Int} {z : Int} {s : RS} {k : Nat} {Q : Option fr_V → fr_H → fr_M → Prop} (hw : WF p) (hN : QN p tp X) (hL : QL p z X) (hS : SI p k s) (hk : k ≤ 200) (h0 : 0 ≤ s.1) (hC : MR z (X 75 50) (X 111) (X 113) (X 115) s) (h8 : 0 ≤ X 111 8 ∧ X 111 8 ≤ 1000) (h : ∀ X', (∀ k i, ¬ gq k i → X' k i = X k i) → (∀ k i, k = 112 ∨ k = 114 ∨ k = 116 ∨ (k = 75 ∧ i = 52) → X' k i = X k i) → MR z (X' 75 50) (X' 111) (X' 113) (X' 115) (stp p tp s) → (X' 111 1 = X 111 1 ∧ X' 111 8 = X 111 8) → Q (some (.inl (stp p tp s).1)) sh0 X') : fr_Call 197 [.inr (.inl 75), .inl (s.1), .inl z] sh0 X Q := by
  obtain ⟨b, ch, st, mo, tk, jm, tj, ts⟩ := s
  refine q_call (m_passes (N := X) (p := p) (tp := tp) (z := z) (k := k) (o := X 75 50) (g := X 111) (gc := X 113) (gt := X 115) hw hN hL hS hk h0 hC h8 (fun o' g' gc' gt' hC' hg' => ?_)) xm_id
  refine h _ (fun k i hk => ?_) (fun k i hk => ?_) hC' ⟨hg'.2.1, hg'.2.2⟩
  · rw [rw_n (by omega), rw_n (by omega), rw_n (by omega), up_x (by omega)]
  · rw [rw_n (by omega), rw_n (by omega), rw_n (by omega), up_x (by omega)]
def GF1 (p : fr_M) (tp lg : Int → Int) (kp : Nat) (b : Int) (K : Nat) (X : fr_M) : Prop := X 111 0 = ren (rs p tp b K) ∧ X 111 1 = (K : Int) ∧ X 111 2 = (rs p tp b K).2.1 ∧ X 111 3 = (rs p tp b K).2.2.2.1 ∧ (X 111 4 = 2 * X 111 5 + 3 * X 111 6 + X 111 7 + 50 * X 111 8 ∧ X 111 5 = (rs p tp b K).2.2.2.2.2.1 ∧ X 111 6 = (rs p tp b K).2.2.2.2.2.2.1 ∧ X 111 7 = (rs p tp b K).2.2.2.2.2.2.2 ∧ X 111 8 = (lrun kp (pgf p tp lg b) K).2) ∧ (∀ j : Nat, j < K → X 112 (j : Int) = (rs p tp b j).1 ∧ X 116 (j : Int) = pgf p tp lg b (j : Int))
set_option maxHeartbeats 4000000 in
set_option maxRecDepth 100000 in
theorem m_gp1_l {N p : fr_M} {tp lg : Int → Int} {b0 : Int} {kp : Nat} {Q : Option fr_V → fr_H → fr_M → Prop} (hw : WF p) (hN : QN p tp N) (hL : QL p 1 N) (hA : ∀ b, 0 ≤ b → b < p 75 4 → N 98 b = ad p lg b ∧ 0 ≤ ad p lg b ∧ ad p lg b ≤ 9300) (hkp : N 75 15 = (kp : Int) ∧ kp ≤ 8) (hb : 0 ≤ b0 ∧ b0 < p 75 4) (h : ∀ X K, (∀ k i, ¬ gq k i → X k i = N k i) → REnd p tp b0 K → GF1 p tp lg kp b0 K X → Q none sh0 X) : ∀ (t k : Nat) (X : fr_M) (x4 : Option fr_V), k + t = 200 → (∀ k i, ¬ gq k i → X k i = N k i) → (∀ j, j < k → 0 ≤ (rs p tp b0 j).1) → MR 1 (X 75 50) (X 111) (X 113) (X 115) (rs p tp b0 k) → (X 111 1 = (k : Int) ∧ X 111 8 = (lrun kp (pgf p tp lg b0) k).2) → (hd_ (X 114) (lrun kp (pgf p tp lg b0) k).1 ∧ X 75 52 = ((lrun kp (pgf p tp lg b0) k).1.length : Int)) → (∀ j : Nat, j < k → X 112 (j : Int) = (rs p tp b0 j).1 ∧ X 116 (j : Int) = pgf p tp lg b0 (j : Int)) → fr_Run 198 none 36 [some (.inr (.inl 75)), some (.inl b0), some (.inl 1), some (.inl (rs p tp b0 k).1), x4] [] sh0 X 0 0 Q := by
  have ht := fun i q0 => (hN.2.2 i q0).2
  have h40 := hw.1.1
  intro t
  induction t with
  | zero =>
    intro k X x4 q0 q1 q2 q3 q5 q7 q6
    have e : k = 200 := by omega
    subst e
    have hSI := rs_si hw ht hb 200
    have hr := hSI.1
    have c6 := q3.2.2.2.2.2.2 rfl
    by_cases hneg : (rs p tp b0 200).1 < 0
    · have hh := h (fr_up X 111 0 (-1 - (rs p tp b0 200).1)) 200 (fun k i hk => by rw [up_x (by omega)]; exact q1 k i hk) ⟨Nat.le_refl _, q2, Or.inl hneg⟩ ⟨by unfold ren; rw [if_pos hneg]; rfl, q5.1, q3.1, q3.2.2.1, ⟨c6.2.2.2, c6.1, c6.2.1, c6.2.2.1, q5.2⟩, q6⟩
      clear h
      refine fr_go k198 [36] 400 rfl ?_
      repeat' (first | (refine And.intro (by first | omega | (simp (disch := decide) only [up_n, up_s, cp_n, rw_n, rw_s, up1_, if_true, if_false, ite_true, ite_false, reduceIte, eq_self, Int.reduceEq, true_and, and_true, not_true_eq_false, not_false_eq_true]; omega)) ?_) | (refine And.intro (fun hc => ?_) (fun hc => ?_) <;> (try (simp (disch := decide) only [up_n, up_s, cp_n, rw_n, rw_s, up1_, if_true, if_false, ite_true, ite_false, reduceIte, eq_self, Int.reduceEq, true_and, and_true, not_true_eq_false, not_false_eq_true] at hc)) <;> (try (exfalso; omega))) | (refine fun (hc : ¬ _) => ?_; try (simp (disch := decide) only [up_n, up_s, cp_n, rw_n, rw_s, up1_, if_true, if_false, ite_true, ite_false, reduceIte, eq_self, Int.reduceEq, true_and, and_true, not_true_eq_false, not_false_eq_true] at hc)) | (refine fun (hc : _ = _) => ?_; try (simp (disch := decide) only [up_n, up_s, cp_n, rw_n, rw_s, up1_, if_true, if_false, ite_true, ite_false, reduceIte, eq_self, Int.reduceEq, true_and, and_true, not_true_eq_false, not_false_eq_true] at hc)))
      all_goals first | (exfalso; omega) | exact hh
    · have hh := h (fr_up X 111 0 (-1 - -4)) 200 (fun k i hk => by rw [up_x (by omega)]; exact q1 k i hk) ⟨Nat.le_refl _, q2, Or.inr rfl⟩ ⟨by unfold ren; rw [if_neg hneg]; rfl, q5.1, q3.1, q3.2.2.1, ⟨c6.2.2.2, c6.1, c6.2.1, c6.2.2.1, q5.2⟩, q6⟩
      clear h
      have e1 := q5.1
      refine fr_go k198 [36] 400 rfl ?_
      repeat' (first | (refine And.intro (by first | omega | (simp (disch := decide) only [up_n, up_s, cp_n, rw_n, rw_s, up1_, if_true, if_false, ite_true, ite_false, reduceIte, eq_self, Int.reduceEq, true_and, and_true, not_true_eq_false, not_false_eq_true]; omega)) ?_) | (refine And.intro (fun hc => ?_) (fun hc => ?_) <;> (try (simp (disch := decide) only [up_n, up_s, cp_n, rw_n, rw_s, up1_, if_true, if_false, ite_true, ite_false, reduceIte, eq_self, Int.reduceEq, true_and, and_true, not_true_eq_false, not_false_eq_true] at hc)) <;> (try (exfalso; omega))) | (refine fun (hc : ¬ _) => ?_; try (simp (disch := decide) only [up_n, up_s, cp_n, rw_n, rw_s, up1_, if_true, if_false, ite_true, ite_false, reduceIte, eq_self, Int.reduceEq, true_and, and_true, not_true_eq_false, not_false_eq_true] at hc)) | (refine fun (hc : _ = _) => ?_; try (simp (disch := decide) only [up_n, up_s, cp_n, rw_n, rw_s, up1_, if_true, if_false, ite_true, ite_false, reduceIte, eq_self, Int.reduceEq, true_and, and_true, not_true_eq_false, not_false_eq_true] at hc)))
      all_goals first | (exfalso; omega) | skip
      refine fr_go k198 [36] 400 rfl ?_
      repeat' (first | (refine And.intro (by first | omega | (simp (disch := decide) only [up_n, up_s, cp_n, rw_n, rw_s, up1_, if_true, if_false, ite_true, ite_false, reduceIte, eq_self, Int.reduceEq, true_and, and_true, not_true_eq_false, not_false_eq_true]; omega)) ?_) | (refine And.intro (fun hc => ?_) (fun hc => ?_) <;> (try (simp (disch := decide) only [up_n, up_s, cp_n, rw_n, rw_s, up1_, if_true, if_false, ite_true, ite_false, reduceIte, eq_self, Int.reduceEq, true_and, and_true, not_true_eq_false, not_false_eq_true] at hc)) <;> (try (exfalso; omega))) | (refine fun (hc : ¬ _) => ?_; try (simp (disch := decide) only [up_n, up_s, cp_n, rw_n, rw_s, up1_, if_true, if_false, ite_true, ite_false, reduceIte, eq_self, Int.reduceEq, true_and, and_true, not_true_eq_false, not_false_eq_true] at hc)) | (refine fun (hc : _ = _) => ?_; try (simp (disch := decide) only [up_n, up_s, cp_n, rw_n, rw_s, up1_, if_true, if_false, ite_true, ite_false, reduceIte, eq_self, Int.reduceEq, true_and, and_true, not_true_eq_false, not_false_eq_true] at hc)))
      all_goals first | (exfalso; omega) | exact hh
  | succ t ih =>
    intro k X x4 q0 q1 q2 q3 q5 q7 q6
    have hSI := rs_si hw ht hb k
    have hr := hSI.1
    have c6 := q3.2.2.2.2.2.2 rfl
    by_cases hneg : (rs p tp b0 k).1 < 0
    · have hh := h (fr_up X 111 0 (-1 - (rs p tp b0 k).1)) k (fun k i hk => by rw [up_x (by omega)]; exact q1 k i hk) ⟨by omega, q2, Or.inl hneg⟩ ⟨by unfold ren; rw [if_pos hneg]; rfl, q5.1, q3.1, q3.2.2.1, ⟨c6.2.2.2, c6.1, c6.2.1, c6.2.2.1, q5.2⟩, q6⟩
      clear h ih
      refine fr_go k198 [36] 400 rfl ?_
      repeat' (first | (refine And.intro (by first | omega | (simp (disch := decide) only [up_n, up_s, cp_n, rw_n, rw_s, up1_, if_true, if_false, ite_true, ite_false, reduceIte, eq_self, Int.reduceEq, true_and, and_true, not_true_eq_false, not_false_eq_true]; omega)) ?_) | (refine And.intro (fun hc => ?_) (fun hc => ?_) <;> (try (simp (disch := decide) only [up_n, up_s, cp_n, rw_n, rw_s, up1_, if_true, if_false, ite_true, ite_false, reduceIte, eq_self, Int.reduceEq, true_and, and_true, not_true_eq_false, not_false_eq_true] at hc)) <;> (try (exfalso; omega))) | (refine fun (hc : ¬ _) => ?_; try (simp (disch := decide) only [up_n, up_s, cp_n, rw_n, rw_s, up1_, if_true, if_false, ite_true, ite_false, reduceIte, eq_self, Int.reduceEq, true_and, and_true, not_true_eq_false, not_false_eq_true] at hc)) | (refine fun (hc : _ = _) => ?_; try (simp (disch := decide) only [up_n, up_s, cp_n, rw_n, rw_s, up1_, if_true, if_false, ite_true, ite_false, reduceIte, eq_self, Int.reduceEq, true_and, and_true, not_true_eq_false, not_false_eq_true] at hc)))
      all_goals first | (exfalso; omega) | exact hh
    · have hnext : rs p tp b0 (k + 1) = stp p tp (rs p tp b0 k) := by
        rw [rs, if_neg hneg]
      have hi := fun X' x4 a1 a2 a3 a5 a4 => ih (k + 1) X' x4 (by omega) a1 (fun j hj => by
        by_cases e : j = k
        · rw [e]; omega
        · exact q2 j (by omega)) a2 a3 a5 a4
      rw [hnext] at hi
      have e1 := q5.1
      have e8 := q5.2
      have hc := lrun_cnt (k := kp) (pg := pgf p tp lg b0) k
      have hl := lrun_len (k := kp) (pg := pgf p tp lg b0) k
      have e98 : X 98 (rs p tp b0 k).1 = ad p lg (rs p tp b0 k).1 := by
        rw [q1 98 _ (by omega)]
        exact (hA _ (by omega) (by omega)).1
      have had := (hA (rs p tp b0 k).1 (by omega) (by omega)).2
      have e15 : X 75 15 = (kp : Int) := by
        rw [q1 75 15 (by omega)]
        exact hkp.1
      have hkp8 := hkp.2
      have n7 := hSI.2.2.2.2.2.2
      have el1 : (lrun kp (pgf p tp lg b0) (k + 1)).1 = lstep kp (lrun kp (pgf p tp lg b0) k).1 (ad p lg (rs p tp b0 k).1 / 64) := by
        rw [← pgf_n]
        rfl
      have el2 : (lrun kp (pgf p tp lg b0) (k + 1)).2 = (lrun kp (pgf p tp lg b0) k).2 + (if (ad p lg (rs p tp b0 k).1 / 64) ∈ (lrun kp (pgf p tp lg b0) k).1 then 0 else 1) := by
        rw [← pgf_n]
        show (if _ ∈ _ then _ else _) = _
        split <;> omega
      have hpth : ∀ (X' : fr_M), X' 112 = up1 (X 112) (k : Int) (rs p tp b0 k).1 → X' 116 = up1 (X 116) (k : Int) (ad p lg (rs p tp b0 k).1 / 64) → ∀ j : Nat, j < k + 1 → X' 112 (j : Int) = (rs p tp b0 j).1 ∧ X' 116 (j : Int) = pgf p tp lg b0 (j : Int) := by
        intro X' e112 e116 j hj
        rw [e112, e116, up1_, up1_]
        by_cases e : j = k
        · rw [if_pos (by omega), if_pos (by omega), e, pgf_n]
          exact ⟨rfl, rfl⟩
        · rw [if_neg (by omega), if_neg (by omega)]
          exact q6 j (by omega)
      clear ih h
      refine fr_go k198 [36] 400 rfl ?_
      repeat' (first | (refine And.intro (by first | omega | (simp (disch := decide) only [up_n, up_s, cp_n, rw_n, rw_s, up1_, if_true, if_false, ite_true, ite_false, reduceIte, eq_self, Int.reduceEq, true_and, and_true, not_true_eq_false, not_false_eq_true]; omega)) ?_) | (refine And.intro (fun hc => ?_) (fun hc => ?_) <;> (try (simp (disch := decide) only [up_n, up_s, cp_n, rw_n, rw_s, up1_, if_true, if_false, ite_true, ite_false, reduceIte, eq_self, Int.reduceEq, true_and, and_true, not_true_eq_false, not_false_eq_true] at hc)) <;> (try (exfalso; omega))) | (refine fun (hc : ¬ _) => ?_; try (simp (disch := decide) only [up_n, up_s, cp_n, rw_n, rw_s, up1_, if_true, if_false, ite_true, ite_false, reduceIte, eq_self, Int.reduceEq, true_and, and_true, not_true_eq_false, not_false_eq_true] at hc)) | (refine fun (hc : _ = _) => ?_; try (simp (disch := decide) only [up_n, up_s, cp_n, rw_n, rw_s, up1_, if_true, if_false, ite_true, ite_false, reduceIte, eq_self, Int.reduceEq, true_and, and_true, not_true_eq_false, not_false_eq_true] at hc)))
      all_goals first | (exfalso; omega) | skip
      all_goals (show fr_Call 193 _ sh0 _ _)
      simp (disch := decide) only [up_n, up_s, cp_n, rw_n, rw_s, up1_, if_true, if_false, ite_true, ite_false, reduceIte, eq_self, Int.reduceEq, true_and, and_true, not_true_eq_false, not_false_eq_true]
      rw [e1, e98, e15]
      refine m_misses (L := (lrun kp (pgf p tp lg b0) k).1) (by omega) q7.2 (by omega) q7.1 (fun g' hg' => ?_)
      rw [Int.toNat_natCast] at hg' ⊢
      rw [← el1] at hg' ⊢
      by_cases hm : (ad p lg (rs p tp b0 k).1 / 64) ∈ (lrun kp (pgf p tp lg b0) k).1
      all_goals first | rw [if_pos hm] at el2 ⊢ | rw [if_neg hm] at el2 ⊢
      all_goals (repeat' (first | (refine And.intro (by first | omega | (simp (disch := decide) only [up_n, up_s, cp_n, rw_n, rw_s, up1_, if_true, if_false, ite_true, ite_false, reduceIte, eq_self, Int.reduceEq, true_and, and_true, not_true_eq_false, not_false_eq_true]; omega)) ?_) | (refine And.intro (fun hc => ?_) (fun hc => ?_) <;> (try (simp (disch := decide) only [up_n, up_s, cp_n, rw_n, rw_s, up1_, if_true, if_false, ite_true, ite_false, reduceIte, eq_self, Int.reduceEq, true_and, and_true, not_true_eq_false, not_false_eq_true] at hc)) <;> (try (exfalso; omega))) | (refine fun (hc : ¬ _) => ?_; try (simp (disch := decide) only [up_n, up_s, cp_n, rw_n, rw_s, up1_, if_true, if_false, ite_true, ite_false, reduceIte, eq_self, Int.reduceEq, true_and, and_true, not_true_eq_false, not_false_eq_true] at hc)) | (refine fun (hc : _ = _) => ?_; try (simp (disch := decide) only [up_n, up_s, cp_n, rw_n, rw_s, up1_, if_true, if_false, ite_true, ite_false, reduceIte, eq_self, Int.reduceEq, true_and, and_true, not_true_eq_false, not_false_eq_true] at hc))))
      all_goals first | (exfalso; omega) | (exfalso; simp (disch := decide) only [up_n, up_s, cp_n, rw_n, rw_s, up1_, if_true, if_false, ite_true, ite_false, reduceIte, eq_self, Int.reduceEq, true_and, and_true, not_true_eq_false, not_false_eq_true] at *; omega) | skip
      all_goals (show fr_Call 197 _ sh0 _ _)
      all_goals (refine m_passesX (p := p) (tp := tp) (z := 1) (k := k) (s := rs p tp b0 k) hw (hN.cg (fun k' i hk => ?_)) (hL.cg (fun k' i hk => ?_)) hSI (by omega) (by omega) ?_ ?_ (fun X' f1 f2 hC' hg8 => ?_))
      all_goals first | (rw [up_x (by omega), up_x (by omega), up_x (by omega), rw_n (by omega), up_x (by omega), up_x (by omega), up_x (by omega)]; exact q1 k' i hk) | skip
      all_goals first | (refine ⟨q3.1, q3.2.1, q3.2.2.1, q3.2.2.2.1, q3.2.2.2.2.1, fun q => by omega, fun _ => ⟨c6.1, c6.2.1, c6.2.2.1, ?_⟩⟩; show X 111 4 + _ = 2 * X 111 5 + 3 * X 111 6 + X 111 7 + 50 * (X 111 8 + _); omega) | skip
      all_goals first | (show 0 ≤ X 111 8 + _ ∧ X 111 8 + _ ≤ 1000; omega) | skip
      all_goals (repeat' (first | (refine And.intro (by first | omega | (simp (disch := decide) only [up_n, up_s, cp_n, rw_n, rw_s, up1_, if_true, if_false, ite_true, ite_false, reduceIte, eq_self, Int.reduceEq, true_and, and_true, not_true_eq_false, not_false_eq_true]; omega)) ?_) | (refine And.intro (fun hc => ?_) (fun hc => ?_) <;> (try (simp (disch := decide) only [up_n, up_s, cp_n, rw_n, rw_s, up1_, if_true, if_false, ite_true, ite_false, reduceIte, eq_self, Int.reduceEq, true_and, and_true, not_true_eq_false, not_false_eq_true] at hc)) <;> (try (exfalso; omega))) | (refine fun (hc : ¬ _) => ?_; try (simp (disch := decide) only [up_n, up_s, cp_n, rw_n, rw_s, up1_, if_true, if_false, ite_true, ite_false, reduceIte, eq_self, Int.reduceEq, true_and, and_true, not_true_eq_false, not_false_eq_true] at hc)) | (refine fun (hc : _ = _) => ?_; try (simp (disch := decide) only [up_n, up_s, cp_n, rw_n, rw_s, up1_, if_true, if_false, ite_true, ite_false, reduceIte, eq_self, Int.reduceEq, true_and, and_true, not_true_eq_false, not_false_eq_true] at hc))))
      all_goals (refine hi X' _ (fun k' i hk => ?_) hC' ⟨hg8.1.trans (by show X 111 1 + 1 = _; omega), hg8.2.trans (by show X 111 8 + _ = _; omega)⟩ ⟨?_, ?_⟩ (hpth X' ?_ ?_))
      all_goals first | (rw [f1 k' i hk, up_x (by omega), up_x (by omega), up_x (by omega), rw_n (by omega), up_x (by omega), up_x (by omega), up_x (by omega)]; exact q1 k' i hk) | skip
      all_goals first | (rw [show X' 114 = g' from funext (fun i => (f2 114 i (by omega)).trans rfl)]; exact hg') | skip
      all_goals first | (rw [f2 75 52 (by omega)]; rfl) | skip
      all_goals first | exact funext (fun i => (f2 112 i (by omega)).trans rfl) | exact funext (fun i => (f2 116 i (by omega)).trans rfl)
def PP (M : fr_M) : Prop := P1 M ∧ P2 M ∧ P4 M ∧ O1 M ∧ S1 M
theorem PP.cg {M Y : fr_M} (h : PP M) (e : ∀ k i, ¬ sr k i → Y k i = M k i) : PP Y := by
  have ec : cor2 Y = cor2 M := by
    funext k i
    unfold cor2
    split
    · rfl
    · next q => exact e k i q
  have c : ∀ (Z : fr_M → Prop), (∀ M, Z (cor2 M) = Z M) → Z M → Z Y := by
    intro Z hz hm
    rw [← hz, ec, hz]
    exact hm
  obtain ⟨h1, h2, h4, o1, s1⟩ := h
  exact ⟨c P1 (fun _ => rfl) h1, c P2 (fun _ => rfl) h2, c P4 (fun _ => rfl) h4, c O1 (fun _ => rfl) o1, c S1 (fun _ => rfl) s1⟩
theorem Rel.pp {n : Int} {M : fr_M} (h : Rel n M) : PP M := by
  obtain ⟨h0, h1, h2, h3, h4, h5, h6, h7, h8, o1, o2, o3, k1, k2, k3, k4, k5, t1, t2, s1, r1, r1', r2, r2', r3, r4, l⟩ := h
  exact ⟨h1, h2, h4, o1, s1⟩
set_option maxHeartbeats 4000000 in
set_option maxRecDepth 100000 in
theorem m_goes1 {N p : fr_M} {tp : Int → Int} {b0 : Int} {Q : Option fr_V → fr_H → fr_M → Prop} (hw : WF p) (hN : QN p tp N) (hP : PP N) (hb : 0 ≤ b0 ∧ b0 < p 75 4) (h : ∀ X K (T : Nat), (∀ k i, ¬ (gq k i ∨ rc k i) → X k i = N k i) → (dn p T ∧ ∀ t, t < T → ¬ dn p t) → REnd p tp b0 K → GF1 p tp (lgT p T) (N 75 15).toNat b0 K X → Q none sh0 X) : fr_Call 198 [.inr (.inl 75), .inl b0, .inl 1] sh0 N Q := by
  have hp := hN.1
  refine fr_cgo k198 [some (.inr (.inl 75)), some (.inl b0), some (.inl 1), none, none] 0 0 [2] 400 rfl rfl rfl rfl ?_
  repeat' (first | (refine And.intro (by first | omega | (simp (disch := decide) only [up_n, up_s, cp_n, rw_n, rw_s, up1_, if_true, if_false, ite_true, ite_false, reduceIte, eq_self, Int.reduceEq, true_and, and_true, not_true_eq_false, not_false_eq_true]; omega)) ?_) | (refine And.intro (fun hc => ?_) (fun hc => ?_) <;> (try (simp (disch := decide) only [up_n, up_s, cp_n, rw_n, rw_s, up1_, if_true, if_false, ite_true, ite_false, reduceIte, eq_self, Int.reduceEq, true_and, and_true, not_true_eq_false, not_false_eq_true] at hc)) <;> (try (exfalso; omega))) | (refine fun (hc : ¬ _) => ?_; try (simp (disch := decide) only [up_n, up_s, cp_n, rw_n, rw_s, up1_, if_true, if_false, ite_true, ite_false, reduceIte, eq_self, Int.reduceEq, true_and, and_true, not_true_eq_false, not_false_eq_true] at hc)) | (refine fun (hc : _ = _) => ?_; try (simp (disch := decide) only [up_n, up_s, cp_n, rw_n, rw_s, up1_, if_true, if_false, ite_true, ite_false, reduceIte, eq_self, Int.reduceEq, true_and, and_true, not_true_eq_false, not_false_eq_true] at hc)))
  refine q_run (m_g1 (M := N) (fun g hg => ?_) 9 0 (N 111) (by omega) (by omega) (fun j y0 y1 => by omega)) rw_id
  refine fr_go k198 [14] 400 rfl ?_
  repeat' (first | (refine And.intro (by first | omega | (simp (disch := decide) only [up_n, up_s, cp_n, rw_n, rw_s, up1_, if_true, if_false, ite_true, ite_false, reduceIte, eq_self, Int.reduceEq, true_and, and_true, not_true_eq_false, not_false_eq_true]; omega)) ?_) | (refine And.intro (fun hc => ?_) (fun hc => ?_) <;> (try (simp (disch := decide) only [up_n, up_s, cp_n, rw_n, rw_s, up1_, if_true, if_false, ite_true, ite_false, reduceIte, eq_self, Int.reduceEq, true_and, and_true, not_true_eq_false, not_false_eq_true] at hc)) <;> (try (exfalso; omega))) | (refine fun (hc : ¬ _) => ?_; try (simp (disch := decide) only [up_n, up_s, cp_n, rw_n, rw_s, up1_, if_true, if_false, ite_true, ite_false, reduceIte, eq_self, Int.reduceEq, true_and, and_true, not_true_eq_false, not_false_eq_true] at hc)) | (refine fun (hc : _ = _) => ?_; try (simp (disch := decide) only [up_n, up_s, cp_n, rw_n, rw_s, up1_, if_true, if_false, ite_true, ite_false, reduceIte, eq_self, Int.reduceEq, true_and, and_true, not_true_eq_false, not_false_eq_true] at hc)))
  refine q_run (m_g2 (M := rw_ N 111 g) (fun gt hgt => ?_) 160 0 (N 115) (by omega) (by omega) (fun j y0 y1 => by omega)) rw_id
  refine fr_go k198 [36] 400 rfl ?_
  repeat' (first | (refine And.intro (by first | omega | (simp (disch := decide) only [up_n, up_s, cp_n, rw_n, rw_s, up1_, if_true, if_false, ite_true, ite_false, reduceIte, eq_self, Int.reduceEq, true_and, and_true, not_true_eq_false, not_false_eq_true]; omega)) ?_) | (refine And.intro (fun hc => ?_) (fun hc => ?_) <;> (try (simp (disch := decide) only [up_n, up_s, cp_n, rw_n, rw_s, up1_, if_true, if_false, ite_true, ite_false, reduceIte, eq_self, Int.reduceEq, true_and, and_true, not_true_eq_false, not_false_eq_true] at hc)) <;> (try (exfalso; omega))) | (refine fun (hc : ¬ _) => ?_; try (simp (disch := decide) only [up_n, up_s, cp_n, rw_n, rw_s, up1_, if_true, if_false, ite_true, ite_false, reduceIte, eq_self, Int.reduceEq, true_and, and_true, not_true_eq_false, not_false_eq_true] at hc)) | (refine fun (hc : _ = _) => ?_; try (simp (disch := decide) only [up_n, up_s, cp_n, rw_n, rw_s, up1_, if_true, if_false, ite_true, ite_false, reduceIte, eq_self, Int.reduceEq, true_and, and_true, not_true_eq_false, not_false_eq_true] at hc)))
  all_goals first | (exfalso; omega) | skip
  all_goals (show fr_Call 182 _ sh0 _ _)
  have hf0 : ∀ k i, ¬ gq k i → fr_up (fr_up (rw_ (rw_ N 111 g) 115 gt) 75 50 0) 75 52 0 k i = N k i := fun k i hk => by
    rw [up_x (by omega), up_x (by omega), rw_n (by omega), rw_n (by omega)]
  have hP0 : PP (fr_up (fr_up (rw_ (rw_ N 111 g) 115 gt) 75 50 0) 75 52 0) := hP.cg (fun k i hk => hf0 k i (by omega))
  have hp0 : pg (fr_up (fr_up (rw_ (rw_ N 111 g) 115 gt) 75 50 0) 75 52 0) = p := by
    rw [← hp]
    exact pg_cg (fun k i q => hf0 k i (by omega))
  refine m_lays (by rw [hp0]; exact hw) hP0.1 hP0.2.1 hP0.2.2.1 hP0.2.2.2.1 hP0.2.2.2.2 (fun M2 T hf2 hP2 => ?_)
  rw [hp0] at hP2
  repeat' (first | (refine And.intro (by first | omega | (simp (disch := decide) only [up_n, up_s, cp_n, rw_n, rw_s, up1_, if_true, if_false, ite_true, ite_false, reduceIte, eq_self, Int.reduceEq, true_and, and_true, not_true_eq_false, not_false_eq_true]; omega)) ?_) | (refine And.intro (fun hc => ?_) (fun hc => ?_) <;> (try (simp (disch := decide) only [up_n, up_s, cp_n, rw_n, rw_s, up1_, if_true, if_false, ite_true, ite_false, reduceIte, eq_self, Int.reduceEq, true_and, and_true, not_true_eq_false, not_false_eq_true] at hc)) <;> (try (exfalso; omega))) | (refine fun (hc : ¬ _) => ?_; try (simp (disch := decide) only [up_n, up_s, cp_n, rw_n, rw_s, up1_, if_true, if_false, ite_true, ite_false, reduceIte, eq_self, Int.reduceEq, true_and, and_true, not_true_eq_false, not_false_eq_true] at hc)) | (refine fun (hc : _ = _) => ?_; try (simp (disch := decide) only [up_n, up_s, cp_n, rw_n, rw_s, up1_, if_true, if_false, ite_true, ite_false, reduceIte, eq_self, Int.reduceEq, true_and, and_true, not_true_eq_false, not_false_eq_true] at hc)))
  have hN2 : QN p tp M2 := by
    obtain ⟨n1, n2, n3⟩ := hN
    refine ⟨?_, ?_, fun i q0 => ?_⟩
    · rw [← hp0]
      exact pg_cg (fun k i q => hf2 k i (by omega))
    · rw [hf2 75 17 (by omega), hf0 75 17 (by omega)]
      exact n2
    · rw [hf2 75 17 (by omega), hf0 75 17 (by omega), hf2 87 _ (by omega), hf0 87 _ (by omega)]
      exact n3 i q0
  have s1 := hP.2.2.2.2
  have e15 : M2 75 15 = N 75 15 := by rw [hf2 75 15 (by omega), hf0 75 15 (by omega)]
  have r15 := s1.2.2.2.2.2
  refine m_gp1_l (N := M2) (p := p) (tp := tp) (lg := lgT p T) (kp := (N 75 15).toNat) (Q := Q) hw hN2 ⟨Or.inr rfl, fun _ => ⟨fun b q0 q1 => (hP2.2.2.2.1 b q0 q1).1, fun s q0 q1 => (hP2.2.2.2.2 s q0 q1).1⟩⟩ (fun b q0 q1 => ⟨(hP2.2.2.2.1 b q0 q1).2.1, (ad_b hw ⟨q0, q1⟩).1⟩) ⟨by omega, by omega⟩ hb (fun X K hfX hE hG => h X K T (fun k i hk => by rw [hfX k i (by omega), hf2 k i (by omega), hf0 k i (by omega)]) hP2.1 hE hG) 200 0 M2 none (by omega) (fun k i hk => rfl) (fun j hj => absurd hj (by omega)) ?_ ?_ ?_ (fun j hj => absurd hj (by omega))
  · have e111 : M2 111 = g := by
      funext i
      rw [hf2 111 i (by omega)]
      rfl
    have e115 : M2 115 = gt := by
      funext i
      rw [hf2 115 i (by omega)]
      rfl
    have e50 : M2 75 50 = 0 := by
      rw [hf2 75 50 (by omega)]
      rfl
    rw [e111, e115, e50]
    refine ⟨hg 2 (by omega) (by omega), rfl, hg 3 (by omega) (by omega), hgt, (fun j x hx => by cases j <;> cases hx), fun q => by omega, fun _ => ⟨hg 5 (by omega) (by omega), hg 6 (by omega) (by omega), hg 7 (by omega) (by omega), ?_⟩⟩
    rw [hg 4 (by omega) (by omega), hg 5 (by omega) (by omega), hg 6 (by omega) (by omega), hg 7 (by omega) (by omega), hg 8 (by omega) (by omega)]
    rfl
  · rw [hf2 111 1 (by omega), hf2 111 8 (by omega)]
    exact ⟨hg 1 (by omega) (by omega), hg 8 (by omega) (by omega)⟩
  · refine ⟨(fun j x hx => by cases j <;> cases hx), ?_⟩
    rw [hf2 75 52 (by omega)]
    rfl
