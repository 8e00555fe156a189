theorem hd_app {f : Int → Int} {L : List Int} {x : Int} (h : hd_ f L) : hd_ (up1 f (L.length : Int) x) (L ++ [x]) := by
  intro j y hy
  rw [up1_]
  by_cases hj : j < L.length
  · rw [List.getElem?_append_left hj] at hy
    rw [if_neg (by omega)]
    exact h j y hy
  · rw [List.getElem?_append_right (by omega)] at hy
    have e : j = L.length := by
      have := (List.getElem?_eq_some_iff.mp hy).1
      simp at this
      omega
    subst e
    rw [if_pos rfl]
    simpa using hy
theorem inn_len {p : fr_M} {w r : Nat} : ∀ {m m' : Nat}, m ≤ m' → (inn p w r m).length ≤ (inn p w r m').length := by
  intro m m' h
  induction m' with
  | zero => rw [show m = 0 by omega]; exact Nat.le_refl _
  | succ k ih =>
    by_cases e : m = k + 1
    · rw [e]; exact Nat.le_refl _
    · have := ih (by omega)
      rw [inn, List.length_append]
      omega
theorem out_len {p : fr_M} {w : Nat} : ∀ {r r' : Nat}, r ≤ r' → (out p w r).length ≤ (out p w r').length := by
  intro m m' h
  induction m' with
  | zero => rw [show m = 0 by omega]; exact Nat.le_refl _
  | succ k ih =>
    by_cases e : m = k + 1
    · rw [e]; exact Nat.le_refl _
    · have := ih (by omega)
      rw [out, List.length_append]
      omega
theorem out_ext {p : fr_M} {w R : Nat} (h : ∀ r : Nat, R ≤ r → r < 6 → p 76 (r : Int) = 0) : ∀ r', R ≤ r' → r' ≤ 6 → out p w r' = out p w R := by
  intro r' h1 h2
  induction r' with
  | zero => rw [show R = 0 by omega]
  | succ k ih =>
    by_cases e : R = k + 1
    · rw [e]
    · rw [out, ih (by omega) (by omega), h k (by omega) (by omega)]
      simp [inn]
theorem inn_s {p : fr_M} {w r m : Nat} {L : List Int} : L ++ inn p w r (m + 1) = if pr p w (p 78 (9 * (r : Int) + (m : Int))) then (L ++ inn p w r m) ++ [p 78 (9 * (r : Int) + (m : Int))] else L ++ inn p w r m := by
  rw [inn]
  split <;> simp
set_option maxHeartbeats 4000000 in
set_option maxRecDepth 100000 in
theorem c_lu_in {M : fr_M} {w r : Nat} {L : List Int} {fm : Int} {Q : Option fr_V → fr_H → fr_M → Prop} (h1 : P1 M) (h2 : P2 M) (h4 : P4 M) (o1 : O1 M) (s1 : S1 M) (hr : r < 6) (hw : w = 0 ∨ (w = 1 ∧ M 75 13 = 1)) (hlen : (L ++ inn (pg M) w r (M 76 (r : Int)).toNat).length ≤ 40) (h : ∀ g x6, hd_ g (L ++ inn (pg M) w r (M 76 (r : Int)).toNat) → fr_Run 27 none 50 [some (.inr (.inl 29)), some (.inl (w : Int)), some (.inl fm), some (.inl ((L ++ inn (pg M) w r (M 76 (r : Int)).toNat).length : Int)), some (.inl (r : Int)), some (.inl (M 76 (r : Int))), x6] [] sh0 (rw_ M 30 g) 0 0 Q) : ∀ (t m : Nat) (g : Int → Int) (x6 : Option fr_V), (m : Int) + t = M 76 (r : Int) → hd_ g (L ++ inn (pg M) w r m) → fr_Run 27 none 11 [some (.inr (.inl 29)), some (.inl (w : Int)), some (.inl fm), some (.inl ((L ++ inn (pg M) w r m).length : Int)), some (.inl (r : Int)), some (.inl (m : Int)), x6] [] sh0 (rw_ M 30 g) 0 0 Q := by
  obtain ⟨u1, u2, u3, u4⟩ := h2 (r : Int) (by omega) (by omega)
  intro t
  induction t with
  | zero =>
    intro m g x6 q0 q1
    have e : m = (M 76 (r : Int)).toNat := by omega
    subst e
    have hh := h g x6 q1
    refine fr_go k27 [11, 50] 400 rfl ?_
    repeat' (first | (refine And.intro (by first | omega | (simp (disch := decide) only [up_n, up_s, cp_n, rw_n, rw_s, up1_, if_true, if_false, ite_true, ite_false, reduceIte, eq_self, Int.reduceEq, true_and, and_true, not_true_eq_false, not_false_eq_true]; omega)) ?_) | (refine And.intro (fun hc => ?_) (fun hc => ?_) <;> (try (simp (disch := decide) only [up_n, up_s, cp_n, rw_n, rw_s, up1_, if_true, if_false, ite_true, ite_false, reduceIte, eq_self, Int.reduceEq, true_and, and_true, not_true_eq_false, not_false_eq_true] at hc)) <;> (try (exfalso; omega))) | (refine fun (hc : ¬ _) => ?_; try (simp (disch := decide) only [up_n, up_s, cp_n, rw_n, rw_s, up1_, if_true, if_false, ite_true, ite_false, reduceIte, eq_self, Int.reduceEq, true_and, and_true, not_true_eq_false, not_false_eq_true] at hc)) | (refine fun (hc : _ = _) => ?_; try (simp (disch := decide) only [up_n, up_s, cp_n, rw_n, rw_s, up1_, if_true, if_false, ite_true, ite_false, reduceIte, eq_self, Int.reduceEq, true_and, and_true, not_true_eq_false, not_false_eq_true] at hc)))
    all_goals first | (exfalso; omega) | skip
    rw [show (((M 76 (r : Int)).toNat : Nat) : Int) = M 76 (r : Int) by omega]
    exact hh
  | succ t ih =>
    intro m g x6 q0 q1
    obtain ⟨z1, z2, z3, z4, z5⟩ := o1 (r : Int) (m : Int) (by omega) (by omega) (by omega) (by omega)
    obtain ⟨y1, y2, y3, y4, y5, y6, y7, y8, y9, y10, y11, y12⟩ := h4 _ z2 z3
    obtain ⟨t1, t2, -⟩ := s1
    have hl2 := inn_len (p := pg M) (w := w) (r := r) (m := m + 1) (m' := (M 76 (r : Int)).toNat) (by omega)
    have es := inn_s (p := pg M) (w := w) (r := r) (m := m) (L := L)
    rw [show pg M 78 (9 * (r : Int) + (m : Int)) = M 78 (9 * (r : Int) + (m : Int)) from rfl] at es
    have hpr : pr (pg M) w (M 78 (9 * (r : Int) + (m : Int))) = if w = 0 then !(M 75 13 == 1 && M 81 (M 78 (9 * (r : Int) + (m : Int))) == 1) else M 81 (M 78 (9 * (r : Int) + (m : Int))) == 1 := rfl
    have hi := fun g' x => ih (m + 1) g' x (by omega)
    have p6 := h1.2.2.2.2.2
    rw [List.length_append] at hlen
    by_cases hp : pr (pg M) w (M 78 (9 * (r : Int) + (m : Int))) = true
    · rw [if_pos hp] at es
      rw [es] at hi
      have hbd : (((L ++ inn (pg M) w r m).length : Nat) : Int) < 40 := by
        have := congrArg List.length es
        rw [List.length_append, List.length_append (bs := [_])] at this
        simp at this
        rw [List.length_append]
        omega
      have hcond : w = 0 ∧ ¬ (M 75 13 = 1 ∧ M 81 (M 78 (9 * (r : Int) + (m : Int))) = 1) ∨ w = 1 ∧ M 75 13 = 1 ∧ M 81 (M 78 (9 * (r : Int) + (m : Int))) = 1 := by
        rw [hpr] at hp
        rcases hw with rfl | ⟨rfl, hw⟩
        · left
          simp at hp
          exact ⟨rfl, by omega⟩
        · right
          simp at hp
          exact ⟨rfl, hw, hp⟩
      have hfin : fr_Run 27 none 11 [some (.inr (.inl 29)), some (.inl (w : Int)), some (.inl fm), some (.inl (((L ++ inn (pg M) w r m).length : Int) + 1)), some (.inl (r : Int)), some (.inl ((m : Int) + 1)), some (.inl (M 78 (9 * (r : Int) + (m : Int))))] [] sh0 (rw_ M 30 (up1 g ((L ++ inn (pg M) w r m).length : Int) (M 78 (9 * (r : Int) + (m : Int))))) 0 0 Q := by
        have := hi _ (some (.inl (M 78 (9 * (r : Int) + (m : Int))))) (hd_app (x := M 78 (9 * (r : Int) + (m : Int))) q1)
        rw [List.length_append (bs := [_])] at this
        exact this
      clear hi ih es hpr hlen hl2 hp h o1 h1 h4 h2
      have z1' : rw_ M 30 g 14 ((r : Int) * 9 + (m : Int)) = M 78 (9 * (r : Int) + (m : Int)) := z1
      refine fr_go k27 [11, 28] 400 rfl ?_
      repeat' (first | (refine And.intro (by first | omega | (simp (disch := decide) only [up_n, up_s, cp_n, rw_n, rw_s, up1_, if_true, if_false, ite_true, ite_false, reduceIte, eq_self, Int.reduceEq, true_and, and_true, not_true_eq_false, not_false_eq_true]; omega)) ?_) | (refine And.intro (fun hc => ?_) (fun hc => ?_) <;> (try (simp (disch := decide) only [up_n, up_s, cp_n, rw_n, rw_s, up1_, if_true, if_false, ite_true, ite_false, reduceIte, eq_self, Int.reduceEq, true_and, and_true, not_true_eq_false, not_false_eq_true] at hc)) <;> (try (exfalso; omega))) | (refine fun (hc : ¬ _) => ?_; try (simp (disch := decide) only [up_n, up_s, cp_n, rw_n, rw_s, up1_, if_true, if_false, ite_true, ite_false, reduceIte, eq_self, Int.reduceEq, true_and, and_true, not_true_eq_false, not_false_eq_true] at hc)) | (refine fun (hc : _ = _) => ?_; try (simp (disch := decide) only [up_n, up_s, cp_n, rw_n, rw_s, up1_, if_true, if_false, ite_true, ite_false, reduceIte, eq_self, Int.reduceEq, true_and, and_true, not_true_eq_false, not_false_eq_true] at hc)))
      all_goals first | (exfalso; omega) | skip
      rw [z1']
      refine fr_go k27 [11] 400 rfl ?_
      repeat' (first | (refine And.intro (by first | omega | (simp (disch := decide) only [up_n, up_s, cp_n, rw_n, rw_s, up1_, if_true, if_false, ite_true, ite_false, reduceIte, eq_self, Int.reduceEq, true_and, and_true, not_true_eq_false, not_false_eq_true]; omega)) ?_) | (refine And.intro (fun hc => ?_) (fun hc => ?_) <;> (try (simp (disch := decide) only [up_n, up_s, cp_n, rw_n, rw_s, up1_, if_true, if_false, ite_true, ite_false, reduceIte, eq_self, Int.reduceEq, true_and, and_true, not_true_eq_false, not_false_eq_true] at hc)) <;> (try (exfalso; omega))) | (refine fun (hc : ¬ _) => ?_; try (simp (disch := decide) only [up_n, up_s, cp_n, rw_n, rw_s, up1_, if_true, if_false, ite_true, ite_false, reduceIte, eq_self, Int.reduceEq, true_and, and_true, not_true_eq_false, not_false_eq_true] at hc)) | (refine fun (hc : _ = _) => ?_; try (simp (disch := decide) only [up_n, up_s, cp_n, rw_n, rw_s, up1_, if_true, if_false, ite_true, ite_false, reduceIte, eq_self, Int.reduceEq, true_and, and_true, not_true_eq_false, not_false_eq_true] at hc)))
      all_goals first | (exfalso; omega) | skip
      all_goals (simp (disch := decide) only [up_rw, rw_u, up_up, rw_rw, rw_cm]; exact hfin)
    · rw [if_neg hp] at es
      rw [es] at hi
      have hcond : ¬ (w = 0 ∧ ¬ (M 75 13 = 1 ∧ M 81 (M 78 (9 * (r : Int) + (m : Int))) = 1) ∨ w = 1 ∧ M 75 13 = 1 ∧ M 81 (M 78 (9 * (r : Int) + (m : Int))) = 1) := by
        rw [hpr] at hp
        rcases hw with rfl | ⟨rfl, hw⟩
        · simp at hp
          omega
        · simp at hp
          omega
      have hfin := hi g (some (.inl (M 78 (9 * (r : Int) + (m : Int))))) q1
      clear hi ih es hpr hlen hl2 hp h o1 h1 h4 h2
      have z1' : rw_ M 30 g 14 ((r : Int) * 9 + (m : Int)) = M 78 (9 * (r : Int) + (m : Int)) := z1
      refine fr_go k27 [11, 28] 400 rfl ?_
      repeat' (first | (refine And.intro (by first | omega | (simp (disch := decide) only [up_n, up_s, cp_n, rw_n, rw_s, up1_, if_true, if_false, ite_true, ite_false, reduceIte, eq_self, Int.reduceEq, true_and, and_true, not_true_eq_false, not_false_eq_true]; omega)) ?_) | (refine And.intro (fun hc => ?_) (fun hc => ?_) <;> (try (simp (disch := decide) only [up_n, up_s, cp_n, rw_n, rw_s, up1_, if_true, if_false, ite_true, ite_false, reduceIte, eq_self, Int.reduceEq, true_and, and_true, not_true_eq_false, not_false_eq_true] at hc)) <;> (try (exfalso; omega))) | (refine fun (hc : ¬ _) => ?_; try (simp (disch := decide) only [up_n, up_s, cp_n, rw_n, rw_s, up1_, if_true, if_false, ite_true, ite_false, reduceIte, eq_self, Int.reduceEq, true_and, and_true, not_true_eq_false, not_false_eq_true] at hc)) | (refine fun (hc : _ = _) => ?_; try (simp (disch := decide) only [up_n, up_s, cp_n, rw_n, rw_s, up1_, if_true, if_false, ite_true, ite_false, reduceIte, eq_self, Int.reduceEq, true_and, and_true, not_true_eq_false, not_false_eq_true] at hc)))
      all_goals first | (exfalso; omega) | skip
      rw [z1']
      refine fr_go k27 [11] 400 rfl ?_
      repeat' (first | (refine And.intro (by first | omega | (simp (disch := decide) only [up_n, up_s, cp_n, rw_n, rw_s, up1_, if_true, if_false, ite_true, ite_false, reduceIte, eq_self, Int.reduceEq, true_and, and_true, not_true_eq_false, not_false_eq_true]; omega)) ?_) | (refine And.intro (fun hc => ?_) (fun hc => ?_) <;> (try (simp (disch := decide) only [up_n, up_s, cp_n, rw_n, rw_s, up1_, if_true, if_false, ite_true, ite_false, reduceIte, eq_self, Int.reduceEq, true_and, and_true, not_true_eq_false, not_false_eq_true] at hc)) <;> (try (exfalso; omega))) | (refine fun (hc : ¬ _) => ?_; try (simp (disch := decide) only [up_n, up_s, cp_n, rw_n, rw_s, up1_, if_true, if_false, ite_true, ite_false, reduceIte, eq_self, Int.reduceEq, true_and, and_true, not_true_eq_false, not_false_eq_true] at hc)) | (refine fun (hc : _ = _) => ?_; try (simp (disch := decide) only [up_n, up_s, cp_n, rw_n, rw_s, up1_, if_true, if_false, ite_true, ite_false, reduceIte, eq_self, Int.reduceEq, true_and, and_true, not_true_eq_false, not_false_eq_true] at hc)))
      all_goals first | (exfalso; omega) | exact hfin
