def ldw (M : fr_M) (b : Int) (fi : Int → Int) (x : Int) : Nat → Int
  | 0 => 0
  | w + 1 => ldw M b fi x w + (if fi (M 5 (M 84 (4 * b + (w : Int)))) = x then M 85 (4 * b + (w : Int)) else 0)
def ld (M : fr_M) (r : Int) (fi : Int → Int) (y x : Int) : Int := ldw M (M 77 (9 * r + y)) fi x (M 83 (M 77 (9 * r + y))).toNat
theorem ldw_b {M : fr_M} {b : Int} {fi : Int → Int} {x : Int} (hb : 0 ≤ b ∧ b < 40) (h85 : ∀ i, 0 ≤ i → i < 160 → 0 ≤ M 85 i ∧ M 85 i ≤ 1000000) : ∀ w : Nat, w ≤ 4 → 0 ≤ ldw M b fi x w ∧ ldw M b fi x w ≤ 1000000 * (w : Int)
  | 0, _ => ⟨Int.le_refl 0, Int.le_refl 0⟩
  | w + 1, h => by
    have a := ldw_b (fi := fi) (x := x) hb h85 w (by omega)
    have c := h85 (4 * b + (w : Int)) (by omega) (by omega)
    rw [ldw]
    split <;> omega
theorem ld_b {M : fr_M} {r n : Int} {fi : Int → Int} {y x : Int} (hR : RC M r n) (hy : 0 ≤ y ∧ y < n) : 0 ≤ ld M r fi y x ∧ ld M r fi y x ≤ 4000000 := by
  have a := hR.bl hy
  have b := ldw_b (fi := fi) (x := x) a.1 hR.2.2.2.2.2 (M 83 (M 77 (9 * r + y))).toNat (by omega)
  unfold ld
  omega
theorem ldw_cg {p q : fr_M} {b x : Int} {fi fi' : Int → Int} (h : ∀ k i, k = 5 ∨ k = 84 ∨ k = 85 → q k i = p k i) : ∀ w : Nat, (∀ v : Nat, v < w → fi (p 5 (p 84 (4 * b + (v : Int)))) = fi' (p 5 (p 84 (4 * b + (v : Int))))) → ldw q b fi x w = ldw p b fi' x w
  | 0, _ => rfl
  | w + 1, hf => by
    rw [ldw, ldw, ldw_cg h w (fun v hv => hf v (by omega)), h 84 _ (by omega), h 5 _ (by omega), h 85 _ (by omega), hf w (by omega)]
set_option maxHeartbeats 4000000 in
set_option maxRecDepth 100000 in
theorem c_ld2w {X : fr_M} {r n s i y x : Int} {fi : Int → Int} {Q : Option fr_V → fr_H → fr_M → Prop} (hP : PC X) (hR : RC X r n) (h25 : ∀ j, 0 ≤ j → j < n → X 25 j = fi j) (hy : 0 ≤ y ∧ y < n) (hs : 0 ≤ s ∧ s ≤ 36000000) (h : fr_Run 17 none 50 [some (.inr (.inl 24)), some (.inl x), some (.inr (.inl 74)), some (.inl (s + ld X r fi y x)), some (.inl i), some (.inl (X 77 (9 * r + y))), some (.inl (X 83 (X 77 (9 * r + y))))] [] sh0 X 0 0 Q) : ∀ (t w : Nat), (w : Int) + t = X 83 (X 77 (9 * r + y)) → fr_Run 17 none 19 [some (.inr (.inl 24)), some (.inl x), some (.inr (.inl 74)), some (.inl (s + ldw X (X 77 (9 * r + y)) fi x w)), some (.inl i), some (.inl (X 77 (9 * r + y))), some (.inl (w : Int))] [] sh0 X 0 0 Q := by
  have hr := hR.1
  have hn9 := hR.2.2.1
  have hbl := hR.bl hy
  have hy3 := hP.2.2.1 r y hr.1 hr.2 hy.1 (by rw [hR.2.1]; exact hy.2)
  have h8 : X 8 (X 77 (9 * r + y)) = X 83 (X 77 (9 * r + y)) := (hP.2.2.2.2.1 (X 77 (9 * r + y)) hbl.1.1 hy3.2.2.1).2.2.2.1
  intro t
  induction t with
  | zero =>
    intro w q0
    unfold ld at h
    rw [show (X 83 (X 77 (9 * r + y))).toNat = w by omega] at h
    have e : X 83 (X 77 (9 * r + y)) = (w : Int) := by omega
    rw [e] at h
    clear hP hR h25
    generalize X 77 (9 * r + y) = b at *
    refine fr_go k17 [19, 50] 400 rfl ?_
    repeat' (first | (refine And.intro (by first | omega | (simp (disch := decide) only [up_n, up_s, cp_n, rw_n, rw_s, up1_, if_true, if_false, ite_true, ite_false, reduceIte, eq_self, Int.reduceEq, true_and, and_true, not_true_eq_false, not_false_eq_true]; omega)) ?_) | (refine And.intro (fun hc => ?_) (fun hc => ?_) <;> (try (simp (disch := decide) only [up_n, up_s, cp_n, rw_n, rw_s, up1_, if_true, if_false, ite_true, ite_false, reduceIte, eq_self, Int.reduceEq, true_and, and_true, not_true_eq_false, not_false_eq_true] at hc)) <;> (try (exfalso; omega))) | (refine fun (hc : ¬ _) => ?_; try (simp (disch := decide) only [up_n, up_s, cp_n, rw_n, rw_s, up1_, if_true, if_false, ite_true, ite_false, reduceIte, eq_self, Int.reduceEq, true_and, and_true, not_true_eq_false, not_false_eq_true] at hc)) | (refine fun (hc : _ = _) => ?_; try (simp (disch := decide) only [up_n, up_s, cp_n, rw_n, rw_s, up1_, if_true, if_false, ite_true, ite_false, reduceIte, eq_self, Int.reduceEq, true_and, and_true, not_true_eq_false, not_false_eq_true] at hc)))
    all_goals first | (exfalso; omega) | exact h
  | succ t ih =>
    intro w q0
    have hh := ih (w + 1) (by omega)
    have hway := hP.way hR hy (w := (w : Int)) (by omega)
    have hfi := h25 _ hway.1.1 hway.1.2
    have h12 := hP.2.2.2.2.2.2 (4 * X 77 (9 * r + y) + (w : Int)) (by omega) (by omega)
    rw [show 4 * X 77 (9 * r + y) + (w : Int) = X 77 (9 * r + y) * 4 + (w : Int) by omega] at h12
    have hlb := ldw_b (fi := fi) (x := x) hbl.1 hR.2.2.2.2.2 w (by omega)
    rw [ldw, show ((w + 1 : Nat) : Int) = (w : Int) + 1 by omega] at hh
    rw [show X 77 (9 * r + y) * 4 + (w : Int) = 4 * X 77 (9 * r + y) + (w : Int) by omega] at h12
    have e11 := hway.2.2.2
    have e12 : X 12 (X 77 (9 * r + y) * 4 + (w : Int)) = X 85 (4 * X 77 (9 * r + y) + (w : Int)) := by
      rw [show X 77 (9 * r + y) * 4 + (w : Int) = 4 * X 77 (9 * r + y) + (w : Int) by omega]
      exact h12.1
    have w1 := hway.1
    have w2 := hway.2.2.1
    clear ih h hP hR h25 hy3 hway
    generalize X 77 (9 * r + y) = b at *
    by_cases c : fi (X 5 (X 84 (4 * b + (w : Int)))) = x
    · rw [if_pos c] at hh
      refine fr_go k17 [19, 50] 400 rfl ?_
      repeat' (first | (refine And.intro (by first | omega | (simp (disch := decide) only [up_n, up_s, cp_n, rw_n, rw_s, up1_, if_true, if_false, ite_true, ite_false, reduceIte, eq_self, Int.reduceEq, true_and, and_true, not_true_eq_false, not_false_eq_true]; omega)) ?_) | (refine And.intro (fun hc => ?_) (fun hc => ?_) <;> (try (simp (disch := decide) only [up_n, up_s, cp_n, rw_n, rw_s, up1_, if_true, if_false, ite_true, ite_false, reduceIte, eq_self, Int.reduceEq, true_and, and_true, not_true_eq_false, not_false_eq_true] at hc)) <;> (try (exfalso; omega))) | (refine fun (hc : ¬ _) => ?_; try (simp (disch := decide) only [up_n, up_s, cp_n, rw_n, rw_s, up1_, if_true, if_false, ite_true, ite_false, reduceIte, eq_self, Int.reduceEq, true_and, and_true, not_true_eq_false, not_false_eq_true] at hc)) | (refine fun (hc : _ = _) => ?_; try (simp (disch := decide) only [up_n, up_s, cp_n, rw_n, rw_s, up1_, if_true, if_false, ite_true, ite_false, reduceIte, eq_self, Int.reduceEq, true_and, and_true, not_true_eq_false, not_false_eq_true] at hc)))
      all_goals first | (exfalso; omega) | skip
      refine c_wayOf hbl.1 (by omega) (fun hc => ?_) (fun hc => ?_)
      · rw [e11]
        generalize X 84 (4 * b + (w : Int)) = bw at *
        repeat' (first | (refine And.intro (by first | omega | (simp (disch := decide) only [up_n, up_s, cp_n, rw_n, rw_s, up1_, if_true, if_false, ite_true, ite_false, reduceIte, eq_self, Int.reduceEq, true_and, and_true, not_true_eq_false, not_false_eq_true]; omega)) ?_) | (refine And.intro (fun hc => ?_) (fun hc => ?_) <;> (try (simp (disch := decide) only [up_n, up_s, cp_n, rw_n, rw_s, up1_, if_true, if_false, ite_true, ite_false, reduceIte, eq_self, Int.reduceEq, true_and, and_true, not_true_eq_false, not_false_eq_true] at hc)) <;> (try (exfalso; omega))) | (refine fun (hc : ¬ _) => ?_; try (simp (disch := decide) only [up_n, up_s, cp_n, rw_n, rw_s, up1_, if_true, if_false, ite_true, ite_false, reduceIte, eq_self, Int.reduceEq, true_and, and_true, not_true_eq_false, not_false_eq_true] at hc)) | (refine fun (hc : _ = _) => ?_; try (simp (disch := decide) only [up_n, up_s, cp_n, rw_n, rw_s, up1_, if_true, if_false, ite_true, ite_false, reduceIte, eq_self, Int.reduceEq, true_and, and_true, not_true_eq_false, not_false_eq_true] at hc)))
        all_goals first | (exfalso; omega) | skip
        refine c_countOf hbl.1 (by omega) (fun hc2 => ?_) (fun hc2 => ?_)
        · rw [e12]
          rw [← Int.add_assoc] at hh
          repeat' (first | (refine And.intro (by first | omega | (simp (disch := decide) only [up_n, up_s, cp_n, rw_n, rw_s, up1_, if_true, if_false, ite_true, ite_false, reduceIte, eq_self, Int.reduceEq, true_and, and_true, not_true_eq_false, not_false_eq_true]; omega)) ?_) | (refine And.intro (fun hc => ?_) (fun hc => ?_) <;> (try (simp (disch := decide) only [up_n, up_s, cp_n, rw_n, rw_s, up1_, if_true, if_false, ite_true, ite_false, reduceIte, eq_self, Int.reduceEq, true_and, and_true, not_true_eq_false, not_false_eq_true] at hc)) <;> (try (exfalso; omega))) | (refine fun (hc : ¬ _) => ?_; try (simp (disch := decide) only [up_n, up_s, cp_n, rw_n, rw_s, up1_, if_true, if_false, ite_true, ite_false, reduceIte, eq_self, Int.reduceEq, true_and, and_true, not_true_eq_false, not_false_eq_true] at hc)) | (refine fun (hc : _ = _) => ?_; try (simp (disch := decide) only [up_n, up_s, cp_n, rw_n, rw_s, up1_, if_true, if_false, ite_true, ite_false, reduceIte, eq_self, Int.reduceEq, true_and, and_true, not_true_eq_false, not_false_eq_true] at hc)))
          all_goals first | (exfalso; omega) | exact hh
        · exfalso
          omega
      · exfalso
        omega
    · rw [if_neg c] at hh
      rw [show ldw X b fi x w + 0 = ldw X b fi x w by omega] at hh
      refine fr_go k17 [19, 50] 400 rfl ?_
      repeat' (first | (refine And.intro (by first | omega | (simp (disch := decide) only [up_n, up_s, cp_n, rw_n, rw_s, up1_, if_true, if_false, ite_true, ite_false, reduceIte, eq_self, Int.reduceEq, true_and, and_true, not_true_eq_false, not_false_eq_true]; omega)) ?_) | (refine And.intro (fun hc => ?_) (fun hc => ?_) <;> (try (simp (disch := decide) only [up_n, up_s, cp_n, rw_n, rw_s, up1_, if_true, if_false, ite_true, ite_false, reduceIte, eq_self, Int.reduceEq, true_and, and_true, not_true_eq_false, not_false_eq_true] at hc)) <;> (try (exfalso; omega))) | (refine fun (hc : ¬ _) => ?_; try (simp (disch := decide) only [up_n, up_s, cp_n, rw_n, rw_s, up1_, if_true, if_false, ite_true, ite_false, reduceIte, eq_self, Int.reduceEq, true_and, and_true, not_true_eq_false, not_false_eq_true] at hc)) | (refine fun (hc : _ = _) => ?_; try (simp (disch := decide) only [up_n, up_s, cp_n, rw_n, rw_s, up1_, if_true, if_false, ite_true, ite_false, reduceIte, eq_self, Int.reduceEq, true_and, and_true, not_true_eq_false, not_false_eq_true] at hc)))
      all_goals first | (exfalso; omega) | skip
      refine c_wayOf hbl.1 (by omega) (fun hc => ?_) (fun hc => ?_)
      · rw [e11]
        generalize X 84 (4 * b + (w : Int)) = bw at *
        repeat' (first | (refine And.intro (by first | omega | (simp (disch := decide) only [up_n, up_s, cp_n, rw_n, rw_s, up1_, if_true, if_false, ite_true, ite_false, reduceIte, eq_self, Int.reduceEq, true_and, and_true, not_true_eq_false, not_false_eq_true]; omega)) ?_) | (refine And.intro (fun hc => ?_) (fun hc => ?_) <;> (try (simp (disch := decide) only [up_n, up_s, cp_n, rw_n, rw_s, up1_, if_true, if_false, ite_true, ite_false, reduceIte, eq_self, Int.reduceEq, true_and, and_true, not_true_eq_false, not_false_eq_true] at hc)) <;> (try (exfalso; omega))) | (refine fun (hc : ¬ _) => ?_; try (simp (disch := decide) only [up_n, up_s, cp_n, rw_n, rw_s, up1_, if_true, if_false, ite_true, ite_false, reduceIte, eq_self, Int.reduceEq, true_and, and_true, not_true_eq_false, not_false_eq_true] at hc)) | (refine fun (hc : _ = _) => ?_; try (simp (disch := decide) only [up_n, up_s, cp_n, rw_n, rw_s, up1_, if_true, if_false, ite_true, ite_false, reduceIte, eq_self, Int.reduceEq, true_and, and_true, not_true_eq_false, not_false_eq_true] at hc)))
        all_goals first | (exfalso; omega) | exact hh
      · exfalso
        omega
set_option maxHeartbeats 4000000 in
set_option maxRecDepth 100000 in
theorem c_lt_l {X : fr_M} {r n x : Int} {pd : Nat} {fi rk : Int → Int} {Q : Option fr_V → fr_H → fr_M → Prop} (hP : PC X) (hR : RC X r n) (h24 : X 24 5 = r ∧ X 24 7 = (pd : Int)) (hpd : (pd : Int) ≤ n) (h25 : ∀ j, 0 ≤ j → j < n → X 25 j = fi j) (hk : ∀ i, 0 ≤ i → i < (pd : Int) → X 74 i = rk i ∧ 0 ≤ rk i ∧ rk i < n) (h : Q (some (.inl (sm (fun i => ld X r fi (rk i) x) pd))) sh0 X) : ∀ (t k : Nat) (x5 x6 : Option fr_V), k + t = pd → fr_Run 17 none 4 [some (.inr (.inl 24)), some (.inl x), some (.inr (.inl 74)), some (.inl (sm (fun i => ld X r fi (rk i) x) k)), some (.inl (k : Int)), x5, x6] [] sh0 X 0 0 Q := by
  have hr := hR.1
  have hn9 := hR.2.2.1
  intro t
  induction t with
  | zero =>
    intro k x5 x6 q0
    have e : pd = k := by omega
    rw [e] at h
    refine fr_go k17 [4] 400 rfl ?_
    repeat' (first | (refine And.intro (by first | omega | (simp (disch := decide) only [up_n, up_s, cp_n, rw_n, rw_s, up1_, if_true, if_false, ite_true, ite_false, reduceIte, eq_self, Int.reduceEq, true_and, and_true, not_true_eq_false, not_false_eq_true]; omega)) ?_) | (refine And.intro (fun hc => ?_) (fun hc => ?_) <;> (try (simp (disch := decide) only [up_n, up_s, cp_n, rw_n, rw_s, up1_, if_true, if_false, ite_true, ite_false, reduceIte, eq_self, Int.reduceEq, true_and, and_true, not_true_eq_false, not_false_eq_true] at hc)) <;> (try (exfalso; omega))) | (refine fun (hc : ¬ _) => ?_; try (simp (disch := decide) only [up_n, up_s, cp_n, rw_n, rw_s, up1_, if_true, if_false, ite_true, ite_false, reduceIte, eq_self, Int.reduceEq, true_and, and_true, not_true_eq_false, not_false_eq_true] at hc)) | (refine fun (hc : _ = _) => ?_; try (simp (disch := decide) only [up_n, up_s, cp_n, rw_n, rw_s, up1_, if_true, if_false, ite_true, ite_false, reduceIte, eq_self, Int.reduceEq, true_and, and_true, not_true_eq_false, not_false_eq_true] at hc)))
    all_goals first | (exfalso; omega) | exact h
  | succ t ih =>
    intro k x5 x6 q0
    have a := hk (k : Int) (by omega) (by omega)
    have hsb := sm_b (u := fun i => ld X r fi (rk i) x) (B := 4000000) k (fun i i0 i1 => ld_b hR (hk i i0 (by omega)).2)
    have hbl := hR.bl a.2
    have h3 := (hP.2.2.1 r (rk (k : Int)) hr.1 hr.2 a.2.1 (by rw [hR.2.1]; exact a.2.2)).1
    have hh := fun x5 x6 => ih (k + 1) x5 x6 (by omega)
    rw [sm, show ((k + 1 : Nat) : Int) = (k : Int) + 1 by omega] at hh
    have hw := c_ld2w (Q := Q) (x := x) (i := (k : Int)) hP hR h25 a.2 (s := sm (fun i => ld X r fi (rk i) x) k) (by omega) (by
      clear ih h hk h25
      refine fr_go k17 [4] 400 rfl ?_
      repeat' (first | (refine And.intro (by first | omega | (simp (disch := decide) only [up_n, up_s, cp_n, rw_n, rw_s, up1_, if_true, if_false, ite_true, ite_false, reduceIte, eq_self, Int.reduceEq, true_and, and_true, not_true_eq_false, not_false_eq_true]; omega)) ?_) | (refine And.intro (fun hc => ?_) (fun hc => ?_) <;> (try (simp (disch := decide) only [up_n, up_s, cp_n, rw_n, rw_s, up1_, if_true, if_false, ite_true, ite_false, reduceIte, eq_self, Int.reduceEq, true_and, and_true, not_true_eq_false, not_false_eq_true] at hc)) <;> (try (exfalso; omega))) | (refine fun (hc : ¬ _) => ?_; try (simp (disch := decide) only [up_n, up_s, cp_n, rw_n, rw_s, up1_, if_true, if_false, ite_true, ite_false, reduceIte, eq_self, Int.reduceEq, true_and, and_true, not_true_eq_false, not_false_eq_true] at hc)) | (refine fun (hc : _ = _) => ?_; try (simp (disch := decide) only [up_n, up_s, cp_n, rw_n, rw_s, up1_, if_true, if_false, ite_true, ite_false, reduceIte, eq_self, Int.reduceEq, true_and, and_true, not_true_eq_false, not_false_eq_true] at hc)))
      exact hh _ _) (X 83 (X 77 (9 * r + rk (k : Int)))).toNat 0 (by omega)
    rw [show sm (fun i => ld X r fi (rk i) x) k + ldw X (X 77 (9 * r + rk (k : Int))) fi x 0 = sm (fun i => ld X r fi (rk i) x) k from Int.add_zero _] at hw
    clear ih h hk h25 hh
    refine fr_go k17 [4, 19] 400 rfl ?_
    repeat' (first | (refine And.intro (by first | omega | (simp (disch := decide) only [up_n, up_s, cp_n, rw_n, rw_s, up1_, if_true, if_false, ite_true, ite_false, reduceIte, eq_self, Int.reduceEq, true_and, and_true, not_true_eq_false, not_false_eq_true]; omega)) ?_) | (refine And.intro (fun hc => ?_) (fun hc => ?_) <;> (try (simp (disch := decide) only [up_n, up_s, cp_n, rw_n, rw_s, up1_, if_true, if_false, ite_true, ite_false, reduceIte, eq_self, Int.reduceEq, true_and, and_true, not_true_eq_false, not_false_eq_true] at hc)) <;> (try (exfalso; omega))) | (refine fun (hc : ¬ _) => ?_; try (simp (disch := decide) only [up_n, up_s, cp_n, rw_n, rw_s, up1_, if_true, if_false, ite_true, ite_false, reduceIte, eq_self, Int.reduceEq, true_and, and_true, not_true_eq_false, not_false_eq_true] at hc)) | (refine fun (hc : _ = _) => ?_; try (simp (disch := decide) only [up_n, up_s, cp_n, rw_n, rw_s, up1_, if_true, if_false, ite_true, ite_false, reduceIte, eq_self, Int.reduceEq, true_and, and_true, not_true_eq_false, not_false_eq_true] at hc)))
    all_goals first | (exfalso; omega) | skip
    rw [h24.1, a.1]
    refine c_ownBlock hr (by omega) ?_
    rw [h3]
    repeat' (first | (refine And.intro (by first | omega | (simp (disch := decide) only [up_n, up_s, cp_n, rw_n, rw_s, up1_, if_true, if_false, ite_true, ite_false, reduceIte, eq_self, Int.reduceEq, true_and, and_true, not_true_eq_false, not_false_eq_true]; omega)) ?_) | (refine And.intro (fun hc => ?_) (fun hc => ?_) <;> (try (simp (disch := decide) only [up_n, up_s, cp_n, rw_n, rw_s, up1_, if_true, if_false, ite_true, ite_false, reduceIte, eq_self, Int.reduceEq, true_and, and_true, not_true_eq_false, not_false_eq_true] at hc)) <;> (try (exfalso; omega))) | (refine fun (hc : ¬ _) => ?_; try (simp (disch := decide) only [up_n, up_s, cp_n, rw_n, rw_s, up1_, if_true, if_false, ite_true, ite_false, reduceIte, eq_self, Int.reduceEq, true_and, and_true, not_true_eq_false, not_false_eq_true] at hc)) | (refine fun (hc : _ = _) => ?_; try (simp (disch := decide) only [up_n, up_s, cp_n, rw_n, rw_s, up1_, if_true, if_false, ite_true, ite_false, reduceIte, eq_self, Int.reduceEq, true_and, and_true, not_true_eq_false, not_false_eq_true] at hc)))
    exact hw
set_option maxHeartbeats 4000000 in
set_option maxRecDepth 100000 in
theorem c_leadTo {X : fr_M} {r n x : Int} {pd : Nat} {fi rk : Int → Int} {Q : Option fr_V → fr_H → fr_M → Prop} (hP : PC X) (hR : RC X r n) (h24 : X 24 5 = r ∧ X 24 7 = (pd : Int)) (hpd : (pd : Int) ≤ n) (h25 : ∀ j, 0 ≤ j → j < n → X 25 j = fi j) (hk : ∀ i, 0 ≤ i → i < (pd : Int) → X 74 i = rk i ∧ 0 ≤ rk i ∧ rk i < n) (h : Q (some (.inl (sm (fun i => ld X r fi (rk i) x) pd))) sh0 X) : fr_Call 17 [.inr (.inl 24), .inl x, .inr (.inl 74)] sh0 X Q := by
  refine fr_cgo k17 [some (.inr (.inl 24)), some (.inl x), some (.inr (.inl 74)), none, none, none, none] 0 0 [4] 400 rfl rfl rfl rfl ?_
  repeat' (first | (refine And.intro (by first | omega | (simp (disch := decide) only [up_n, up_s, cp_n, rw_n, rw_s, up1_, if_true, if_false, ite_true, ite_false, reduceIte, eq_self, Int.reduceEq, true_and, and_true, not_true_eq_false, not_false_eq_true]; omega)) ?_) | (refine And.intro (fun hc => ?_) (fun hc => ?_) <;> (try (simp (disch := decide) only [up_n, up_s, cp_n, rw_n, rw_s, up1_, if_true, if_false, ite_true, ite_false, reduceIte, eq_self, Int.reduceEq, true_and, and_true, not_true_eq_false, not_false_eq_true] at hc)) <;> (try (exfalso; omega))) | (refine fun (hc : ¬ _) => ?_; try (simp (disch := decide) only [up_n, up_s, cp_n, rw_n, rw_s, up1_, if_true, if_false, ite_true, ite_false, reduceIte, eq_self, Int.reduceEq, true_and, and_true, not_true_eq_false, not_false_eq_true] at hc)) | (refine fun (hc : _ = _) => ?_; try (simp (disch := decide) only [up_n, up_s, cp_n, rw_n, rw_s, up1_, if_true, if_false, ite_true, ite_false, reduceIte, eq_self, Int.reduceEq, true_and, and_true, not_true_eq_false, not_false_eq_true] at hc)))
  exact c_lt_l hP hR h24 hpd h25 hk h pd 0 none none (by omega)
set_option maxHeartbeats 4000000 in
set_option maxRecDepth 100000 in
theorem c_stg_l {X : fr_M} {r n : Int} {pd : Nat} {fi pl rk : Int → Int} {Q : Option fr_V → fr_H → fr_M → Prop} (hP : PC X) (hR : RC X r n) (h24 : X 24 5 = r ∧ X 24 6 = n ∧ X 24 7 = (pd : Int)) (hpd : (pd : Int) ≤ n) (h25 : ∀ j, 0 ≤ j → j < n → X 25 j = fi j ∧ X 28 j = pl j) (hk : ∀ i, 0 ≤ i → i < (pd : Int) → X 74 i = rk i ∧ 0 ≤ rk i ∧ rk i < n) (h : Q (some (.inl (stg fi pl (fun z => sm (fun i => ld X r fi (rk i) z) pd) n.toNat).1)) sh0 X) : ∀ (t k : Nat) (x5 : Option fr_V), (k : Int) + t = n → fr_Run 18 none 6 [some (.inr (.inl 24)), some (.inr (.inl 74)), some (.inl (stg fi pl (fun z => sm (fun i => ld X r fi (rk i) z) pd) k).1), some (.inl (stg fi pl (fun z => sm (fun i => ld X r fi (rk i) z) pd) k).2), some (.inl (k : Int)), x5] [] sh0 X 0 0 Q := by
  have hn9 := hR.2.2.1
  intro t
  induction t with
  | zero =>
    intro k x5 q0
    rw [show n.toNat = k by omega] at h
    refine fr_go k18 [6] 400 rfl ?_
    repeat' (first | (refine And.intro (by first | omega | (simp (disch := decide) only [up_n, up_s, cp_n, rw_n, rw_s, up1_, if_true, if_false, ite_true, ite_false, reduceIte, eq_self, Int.reduceEq, true_and, and_true, not_true_eq_false, not_false_eq_true]; omega)) ?_) | (refine And.intro (fun hc => ?_) (fun hc => ?_) <;> (try (simp (disch := decide) only [up_n, up_s, cp_n, rw_n, rw_s, up1_, if_true, if_false, ite_true, ite_false, reduceIte, eq_self, Int.reduceEq, true_and, and_true, not_true_eq_false, not_false_eq_true] at hc)) <;> (try (exfalso; omega))) | (refine fun (hc : ¬ _) => ?_; try (simp (disch := decide) only [up_n, up_s, cp_n, rw_n, rw_s, up1_, if_true, if_false, ite_true, ite_false, reduceIte, eq_self, Int.reduceEq, true_and, and_true, not_true_eq_false, not_false_eq_true] at hc)) | (refine fun (hc : _ = _) => ?_; try (simp (disch := decide) only [up_n, up_s, cp_n, rw_n, rw_s, up1_, if_true, if_false, ite_true, ite_false, reduceIte, eq_self, Int.reduceEq, true_and, and_true, not_true_eq_false, not_false_eq_true] at hc)))
    all_goals first | (exfalso; omega) | exact h
  | succ t ih =>
    intro k x5 q0
    have hh := fun x5 => ih (k + 1) x5 (by omega)
    have a := h25 (k : Int) (by omega) (by omega)
    rw [stg, show ((k + 1 : Nat) : Int) = (k : Int) + 1 by omega] at hh
    by_cases c1 : fi (k : Int) = (k : Int) ∧ pl (k : Int) = 0
    · have hl := fun Q' hq => c_leadTo (X := X) (r := r) (n := n) (x := (k : Int)) (pd := pd) (fi := fi) (rk := rk) (Q := Q') hP hR ⟨h24.1, h24.2.2⟩ hpd (fun j j0 j1 => (h25 j j0 j1).1) hk hq
      clear ih h hk h25
      generalize stg fi pl (fun z => sm (fun i => ld X r fi (rk i) z) pd) k = G at *
      by_cases c2 : sm (fun i => ld X r fi (rk i) (k : Int)) pd > G.2
      · rw [if_pos ⟨c1.1, c1.2, c2⟩] at hh
        replace hh := fun x5 => (hh x5 : fr_Run 18 none 6 [some (.inr (.inl 24)), some (.inr (.inl 74)), some (.inl (k : Int)), some (.inl (sm (fun i => ld X r fi (rk i) (k : Int)) pd)), some (.inl ((k : Int) + 1)), x5] [] sh0 X 0 0 Q)
        refine fr_go k18 [6] 400 rfl ?_
        repeat' (first | (refine And.intro (by first | omega | (simp (disch := decide) only [up_n, up_s, cp_n, rw_n, rw_s, up1_, if_true, if_false, ite_true, ite_false, reduceIte, eq_self, Int.reduceEq, true_and, and_true, not_true_eq_false, not_false_eq_true]; omega)) ?_) | (refine And.intro (fun hc => ?_) (fun hc => ?_) <;> (try (simp (disch := decide) only [up_n, up_s, cp_n, rw_n, rw_s, up1_, if_true, if_false, ite_true, ite_false, reduceIte, eq_self, Int.reduceEq, true_and, and_true, not_true_eq_false, not_false_eq_true] at hc)) <;> (try (exfalso; omega))) | (refine fun (hc : ¬ _) => ?_; try (simp (disch := decide) only [up_n, up_s, cp_n, rw_n, rw_s, up1_, if_true, if_false, ite_true, ite_false, reduceIte, eq_self, Int.reduceEq, true_and, and_true, not_true_eq_false, not_false_eq_true] at hc)) | (refine fun (hc : _ = _) => ?_; try (simp (disch := decide) only [up_n, up_s, cp_n, rw_n, rw_s, up1_, if_true, if_false, ite_true, ite_false, reduceIte, eq_self, Int.reduceEq, true_and, and_true, not_true_eq_false, not_false_eq_true] at hc)))
        all_goals first | (exfalso; omega) | skip
        refine hl _ ?_
        generalize sm (fun i => ld X r fi (rk i) (k : Int)) pd = v at *
        repeat' (first | (refine And.intro (by first | omega | (simp (disch := decide) only [up_n, up_s, cp_n, rw_n, rw_s, up1_, if_true, if_false, ite_true, ite_false, reduceIte, eq_self, Int.reduceEq, true_and, and_true, not_true_eq_false, not_false_eq_true]; omega)) ?_) | (refine And.intro (fun hc => ?_) (fun hc => ?_) <;> (try (simp (disch := decide) only [up_n, up_s, cp_n, rw_n, rw_s, up1_, if_true, if_false, ite_true, ite_false, reduceIte, eq_self, Int.reduceEq, true_and, and_true, not_true_eq_false, not_false_eq_true] at hc)) <;> (try (exfalso; omega))) | (refine fun (hc : ¬ _) => ?_; try (simp (disch := decide) only [up_n, up_s, cp_n, rw_n, rw_s, up1_, if_true, if_false, ite_true, ite_false, reduceIte, eq_self, Int.reduceEq, true_and, and_true, not_true_eq_false, not_false_eq_true] at hc)) | (refine fun (hc : _ = _) => ?_; try (simp (disch := decide) only [up_n, up_s, cp_n, rw_n, rw_s, up1_, if_true, if_false, ite_true, ite_false, reduceIte, eq_self, Int.reduceEq, true_and, and_true, not_true_eq_false, not_false_eq_true] at hc)))
        all_goals first | (exfalso; omega) | exact hh _
      · rw [if_neg (fun q => c2 q.2.2)] at hh
        refine fr_go k18 [6] 400 rfl ?_
        repeat' (first | (refine And.intro (by first | omega | (simp (disch := decide) only [up_n, up_s, cp_n, rw_n, rw_s, up1_, if_true, if_false, ite_true, ite_false, reduceIte, eq_self, Int.reduceEq, true_and, and_true, not_true_eq_false, not_false_eq_true]; omega)) ?_) | (refine And.intro (fun hc => ?_) (fun hc => ?_) <;> (try (simp (disch := decide) only [up_n, up_s, cp_n, rw_n, rw_s, up1_, if_true, if_false, ite_true, ite_false, reduceIte, eq_self, Int.reduceEq, true_and, and_true, not_true_eq_false, not_false_eq_true] at hc)) <;> (try (exfalso; omega))) | (refine fun (hc : ¬ _) => ?_; try (simp (disch := decide) only [up_n, up_s, cp_n, rw_n, rw_s, up1_, if_true, if_false, ite_true, ite_false, reduceIte, eq_self, Int.reduceEq, true_and, and_true, not_true_eq_false, not_false_eq_true] at hc)) | (refine fun (hc : _ = _) => ?_; try (simp (disch := decide) only [up_n, up_s, cp_n, rw_n, rw_s, up1_, if_true, if_false, ite_true, ite_false, reduceIte, eq_self, Int.reduceEq, true_and, and_true, not_true_eq_false, not_false_eq_true] at hc)))
        all_goals first | (exfalso; omega) | skip
        refine hl _ ?_
        generalize sm (fun i => ld X r fi (rk i) (k : Int)) pd = v at *
        repeat' (first | (refine And.intro (by first | omega | (simp (disch := decide) only [up_n, up_s, cp_n, rw_n, rw_s, up1_, if_true, if_false, ite_true, ite_false, reduceIte, eq_self, Int.reduceEq, true_and, and_true, not_true_eq_false, not_false_eq_true]; omega)) ?_) | (refine And.intro (fun hc => ?_) (fun hc => ?_) <;> (try (simp (disch := decide) only [up_n, up_s, cp_n, rw_n, rw_s, up1_, if_true, if_false, ite_true, ite_false, reduceIte, eq_self, Int.reduceEq, true_and, and_true, not_true_eq_false, not_false_eq_true] at hc)) <;> (try (exfalso; omega))) | (refine fun (hc : ¬ _) => ?_; try (simp (disch := decide) only [up_n, up_s, cp_n, rw_n, rw_s, up1_, if_true, if_false, ite_true, ite_false, reduceIte, eq_self, Int.reduceEq, true_and, and_true, not_true_eq_false, not_false_eq_true] at hc)) | (refine fun (hc : _ = _) => ?_; try (simp (disch := decide) only [up_n, up_s, cp_n, rw_n, rw_s, up1_, if_true, if_false, ite_true, ite_false, reduceIte, eq_self, Int.reduceEq, true_and, and_true, not_true_eq_false, not_false_eq_true] at hc)))
        all_goals first | (exfalso; omega) | exact hh _
    · rw [if_neg (fun q => c1 ⟨q.1, q.2.1⟩)] at hh
      clear ih h hk h25
      refine fr_go k18 [6] 400 rfl ?_
      repeat' (first | (refine And.intro (by first | omega | (simp (disch := decide) only [up_n, up_s, cp_n, rw_n, rw_s, up1_, if_true, if_false, ite_true, ite_false, reduceIte, eq_self, Int.reduceEq, true_and, and_true, not_true_eq_false, not_false_eq_true]; omega)) ?_) | (refine And.intro (fun hc => ?_) (fun hc => ?_) <;> (try (simp (disch := decide) only [up_n, up_s, cp_n, rw_n, rw_s, up1_, if_true, if_false, ite_true, ite_false, reduceIte, eq_self, Int.reduceEq, true_and, and_true, not_true_eq_false, not_false_eq_true] at hc)) <;> (try (exfalso; omega))) | (refine fun (hc : ¬ _) => ?_; try (simp (disch := decide) only [up_n, up_s, cp_n, rw_n, rw_s, up1_, if_true, if_false, ite_true, ite_false, reduceIte, eq_self, Int.reduceEq, true_and, and_true, not_true_eq_false, not_false_eq_true] at hc)) | (refine fun (hc : _ = _) => ?_; try (simp (disch := decide) only [up_n, up_s, cp_n, rw_n, rw_s, up1_, if_true, if_false, ite_true, ite_false, reduceIte, eq_self, Int.reduceEq, true_and, and_true, not_true_eq_false, not_false_eq_true] at hc)))
      all_goals first | (exfalso; omega) | exact hh _
set_option maxHeartbeats 4000000 in
set_option maxRecDepth 100000 in
theorem c_strongest {X : fr_M} {r n : Int} {pd : Nat} {fi pl rk : Int → Int} {Q : Option fr_V → fr_H → fr_M → Prop} (hP : PC X) (hR : RC X r n) (h24 : X 24 5 = r ∧ X 24 6 = n ∧ X 24 7 = (pd : Int)) (hpd : (pd : Int) ≤ n) (h25 : ∀ j, 0 ≤ j → j < n → X 25 j = fi j ∧ X 28 j = pl j) (hk : ∀ i, 0 ≤ i → i < (pd : Int) → X 74 i = rk i ∧ 0 ≤ rk i ∧ rk i < n) (h : Q (some (.inl (stg fi pl (fun z => sm (fun i => ld X r fi (rk i) z) pd) n.toNat).1)) sh0 X) : fr_Call 18 [.inr (.inl 24), .inr (.inl 74)] sh0 X Q := by
  have hn9 := hR.2.2.1
  refine fr_cgo k18 [some (.inr (.inl 24)), some (.inr (.inl 74)), none, none, none, none] 0 0 [6] 400 rfl rfl rfl rfl ?_
  repeat' (first | (refine And.intro (by first | omega | (simp (disch := decide) only [up_n, up_s, cp_n, rw_n, rw_s, up1_, if_true, if_false, ite_true, ite_false, reduceIte, eq_self, Int.reduceEq, true_and, and_true, not_true_eq_false, not_false_eq_true]; omega)) ?_) | (refine And.intro (fun hc => ?_) (fun hc => ?_) <;> (try (simp (disch := decide) only [up_n, up_s, cp_n, rw_n, rw_s, up1_, if_true, if_false, ite_true, ite_false, reduceIte, eq_self, Int.reduceEq, true_and, and_true, not_true_eq_false, not_false_eq_true] at hc)) <;> (try (exfalso; omega))) | (refine fun (hc : ¬ _) => ?_; try (simp (disch := decide) only [up_n, up_s, cp_n, rw_n, rw_s, up1_, if_true, if_false, ite_true, ite_false, reduceIte, eq_self, Int.reduceEq, true_and, and_true, not_true_eq_false, not_false_eq_true] at hc)) | (refine fun (hc : _ = _) => ?_; try (simp (disch := decide) only [up_n, up_s, cp_n, rw_n, rw_s, up1_, if_true, if_false, ite_true, ite_false, reduceIte, eq_self, Int.reduceEq, true_and, and_true, not_true_eq_false, not_false_eq_true] at hc)))
  exact c_stg_l hP hR h24 hpd h25 hk h n.toNat 0 none (by omega)
