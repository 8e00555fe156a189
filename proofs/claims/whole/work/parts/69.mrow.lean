set_option maxHeartbeats 4000000 in
set_option maxRecDepth 100000 in
theorem m_mr_in {M : fr_M} {w r : Nat} {L : List Int} {Q : Option fr_V → fr_H → fr_M → Prop} (h1 : P1 M) (h2 : P2 M) (h4 : P4 M) (o1 : O1 M) (s1 : S1 M) (hr : r < 6) (hw : w = 0 ∨ (w = 1 ∧ M 75 13 = 1)) (hlen : (L ++ inn (pg M) w r (M 76 (r : Int)).toNat).length ≤ 40) (h : ∀ g x6, hd_ g (L ++ inn (pg M) w r (M 76 (r : Int)).toNat) → fr_Run 177 none 64 [some (.inr (.inl 75)), some (.inl (w : Int)), some (.inl (r : Int)), some (.inl (M 76 (r : Int))), x6] [] sh0 (rw_ (fr_up M 75 28 ((L ++ inn (pg M) w r (M 76 (r : Int)).toNat).length : Int)) 96 g) 0 0 Q) : ∀ (t m : Nat) (g : Int → Int) (x6 : Option fr_V), (m : Int) + t = M 76 (r : Int) → hd_ g (L ++ inn (pg M) w r m) → fr_Run 177 none 21 [some (.inr (.inl 75)), some (.inl (w : Int)), some (.inl (r : Int)), some (.inl (m : Int)), x6] [] sh0 (rw_ (fr_up M 75 28 ((L ++ inn (pg M) w r m).length : Int)) 96 g) 0 0 Q := by
  obtain ⟨u1, u2, u3, u4⟩ := h2 (r : Int) (by omega) (by omega)
  intro t
  induction t with
  | zero =>
    intro m g x6 q0 q1
    have e : m = (M 76 (r : Int)).toNat := by omega
    subst e
    have hh := h g x6 q1
    clear h
    refine fr_go k177 [21, 64] 400 rfl ?_
    repeat' (first | (refine And.intro (by first | omega | (simp (disch := decide) only [up_n, up_s, cp_n, rw_n, rw_s, up1_, if_true, if_false, ite_true, ite_false, reduceIte, eq_self, Int.reduceEq, true_and, and_true, not_true_eq_false, not_false_eq_true]; omega)) ?_) | (refine And.intro (fun hc => ?_) (fun hc => ?_) <;> (try (simp (disch := decide) only [up_n, up_s, cp_n, rw_n, rw_s, up1_, if_true, if_false, ite_true, ite_false, reduceIte, eq_self, Int.reduceEq, true_and, and_true, not_true_eq_false, not_false_eq_true] at hc)) <;> (try (exfalso; omega))) | (refine fun (hc : ¬ _) => ?_; try (simp (disch := decide) only [up_n, up_s, cp_n, rw_n, rw_s, up1_, if_true, if_false, ite_true, ite_false, reduceIte, eq_self, Int.reduceEq, true_and, and_true, not_true_eq_false, not_false_eq_true] at hc)) | (refine fun (hc : _ = _) => ?_; try (simp (disch := decide) only [up_n, up_s, cp_n, rw_n, rw_s, up1_, if_true, if_false, ite_true, ite_false, reduceIte, eq_self, Int.reduceEq, true_and, and_true, not_true_eq_false, not_false_eq_true] at hc)))
    all_goals first | (exfalso; omega) | skip
    rw [show (((M 76 (r : Int)).toNat : Nat) : Int) = M 76 (r : Int) by omega]
    exact hh
  | succ t ih =>
    intro m g x6 q0 q1
    obtain ⟨z1, z2, z3, z4, z5⟩ := o1 (r : Int) (m : Int) (by omega) (by omega) (by omega) (by omega)
    obtain ⟨y1, y2, y3, y4, y5, y6, y7, y8, y9, y10, y11, y12⟩ := h4 _ z2 z3
    obtain ⟨t1, t2, -⟩ := s1
    have hl2 := inn_len (p := pg M) (w := w) (r := r) (m := m + 1) (m' := (M 76 (r : Int)).toNat) (by omega)
    have es := inn_s (p := pg M) (w := w) (r := r) (m := m) (L := L)
    rw [show pg M 78 (9 * (r : Int) + (m : Int)) = M 78 (9 * (r : Int) + (m : Int)) from rfl] at es
    have hpr : pr (pg M) w (M 78 (9 * (r : Int) + (m : Int))) = if w = 0 then !(M 75 13 == 1 && M 81 (M 78 (9 * (r : Int) + (m : Int))) == 1) else M 81 (M 78 (9 * (r : Int) + (m : Int))) == 1 := rfl
    have hi := fun g' x => ih (m + 1) g' x (by omega)
    have p6 := h1.2.2.2.2.2
    rw [List.length_append] at hlen
    by_cases hp : pr (pg M) w (M 78 (9 * (r : Int) + (m : Int))) = true
    · rw [if_pos hp] at es
      rw [es] at hi
      have hbd : (((L ++ inn (pg M) w r m).length : Nat) : Int) < 40 := by
        have := congrArg List.length es
        rw [List.length_append, List.length_append (bs := [_])] at this
        simp at this
        rw [List.length_append]
        omega
      have hcond : w = 0 ∧ ¬ (M 75 13 = 1 ∧ M 81 (M 78 (9 * (r : Int) + (m : Int))) = 1) ∨ w = 1 ∧ M 75 13 = 1 ∧ M 81 (M 78 (9 * (r : Int) + (m : Int))) = 1 := by
        rw [hpr] at hp
        rcases hw with rfl | ⟨rfl, hw⟩
        · left
          simp at hp
          exact ⟨rfl, by omega⟩
        · right
          simp at hp
          exact ⟨rfl, hw, hp⟩
      have hfin : fr_Run 177 none 21 [some (.inr (.inl 75)), some (.inl (w : Int)), some (.inl (r : Int)), some (.inl ((m : Int) + 1)), some (.inl (M 78 (9 * (r : Int) + (m : Int))))] [] sh0 (rw_ (fr_up M 75 28 (((L ++ inn (pg M) w r m).length : Int) + 1)) 96 (up1 g ((L ++ inn (pg M) w r m).length : Int) (M 78 (9 * (r : Int) + (m : Int))))) 0 0 Q := by
        have := hi _ (some (.inl (M 78 (9 * (r : Int) + (m : Int))))) (hd_app (x := M 78 (9 * (r : Int) + (m : Int))) q1)
        rw [List.length_append (bs := [_])] at this
        exact this
      clear hi ih es hpr hlen hl2 hp h o1 h1 h4 h2
      refine fr_go k177 [21] 400 rfl ?_
      repeat' (first | (refine And.intro (by first | omega | (simp (disch := decide) only [up_n, up_s, cp_n, rw_n, rw_s, up1_, if_true, if_false, ite_true, ite_false, reduceIte, eq_self, Int.reduceEq, true_and, and_true, not_true_eq_false, not_false_eq_true]; omega)) ?_) | (refine And.intro (fun hc => ?_) (fun hc => ?_) <;> (try (simp (disch := decide) only [up_n, up_s, cp_n, rw_n, rw_s, up1_, if_true, if_false, ite_true, ite_false, reduceIte, eq_self, Int.reduceEq, true_and, and_true, not_true_eq_false, not_false_eq_true] at hc)) <;> (try (exfalso; omega))) | (refine fun (hc : ¬ _) => ?_; try (simp (disch := decide) only [up_n, up_s, cp_n, rw_n, rw_s, up1_, if_true, if_false, ite_true, ite_false, reduceIte, eq_self, Int.reduceEq, true_and, and_true, not_true_eq_false, not_false_eq_true] at hc)) | (refine fun (hc : _ = _) => ?_; try (simp (disch := decide) only [up_n, up_s, cp_n, rw_n, rw_s, up1_, if_true, if_false, ite_true, ite_false, reduceIte, eq_self, Int.reduceEq, true_and, and_true, not_true_eq_false, not_false_eq_true] at hc)))
      all_goals first | (exfalso; omega) | skip
      all_goals (simp (disch := decide) only [up_rw, rw_u, up_up, rw_rw, rw_cm]; (try (simp (disch := decide) only [up_n, up_s, cp_n, rw_n, rw_s, up1_, if_true, if_false, ite_true, ite_false, reduceIte, eq_self, Int.reduceEq, true_and, and_true, not_true_eq_false, not_false_eq_true])); exact hfin)
    · rw [if_neg hp] at es
      rw [es] at hi
      have hcond : ¬ (w = 0 ∧ ¬ (M 75 13 = 1 ∧ M 81 (M 78 (9 * (r : Int) + (m : Int))) = 1) ∨ w = 1 ∧ M 75 13 = 1 ∧ M 81 (M 78 (9 * (r : Int) + (m : Int))) = 1) := by
        rw [hpr] at hp
        rcases hw with rfl | ⟨rfl, hw⟩
        · simp at hp
          omega
        · simp at hp
          omega
      have hfin := hi g (some (.inl (M 78 (9 * (r : Int) + (m : Int))))) q1
      clear hi ih es hpr hlen hl2 hp h o1 h1 h4 h2
      refine fr_go k177 [21] 400 rfl ?_
      repeat' (first | (refine And.intro (by first | omega | (simp (disch := decide) only [up_n, up_s, cp_n, rw_n, rw_s, up1_, if_true, if_false, ite_true, ite_false, reduceIte, eq_self, Int.reduceEq, true_and, and_true, not_true_eq_false, not_false_eq_true]; omega)) ?_) | (refine And.intro (fun hc => ?_) (fun hc => ?_) <;> (try (simp (disch := decide) only [up_n, up_s, cp_n, rw_n, rw_s, up1_, if_true, if_false, ite_true, ite_false, reduceIte, eq_self, Int.reduceEq, true_and, and_true, not_true_eq_false, not_false_eq_true] at hc)) <;> (try (exfalso; omega))) | (refine fun (hc : ¬ _) => ?_; try (simp (disch := decide) only [up_n, up_s, cp_n, rw_n, rw_s, up1_, if_true, if_false, ite_true, ite_false, reduceIte, eq_self, Int.reduceEq, true_and, and_true, not_true_eq_false, not_false_eq_true] at hc)) | (refine fun (hc : _ = _) => ?_; try (simp (disch := decide) only [up_n, up_s, cp_n, rw_n, rw_s, up1_, if_true, if_false, ite_true, ite_false, reduceIte, eq_self, Int.reduceEq, true_and, and_true, not_true_eq_false, not_false_eq_true] at hc)))
      all_goals first | (exfalso; omega) | exact hfin
set_option maxHeartbeats 4000000 in
set_option maxRecDepth 100000 in
theorem m_mr_out {M : fr_M} {w : Nat} {base : List Int} {Q : Option fr_V → fr_H → fr_M → Prop} (h1 : P1 M) (h2 : P2 M) (h4 : P4 M) (o1 : O1 M) (s1 : S1 M) (hw : w = 0 ∨ (w = 1 ∧ M 75 13 = 1)) (hlen : (base ++ out (pg M) w 6).length ≤ 40) (h : ∀ g x2 x3 x6, hd_ g (base ++ out (pg M) w 6) → fr_Run 177 none 66 [some (.inr (.inl 75)), some (.inl (w : Int)), x2, x3, x6] [] sh0 (rw_ (fr_up M 75 28 ((base ++ out (pg M) w 6).length : Int)) 96 g) 0 0 Q) : ∀ (t r : Nat) (g : Int → Int) (x5 x6 : Option fr_V), (r : Int) + t = M 75 0 → hd_ g (base ++ out (pg M) w r) → fr_Run 177 none 15 [some (.inr (.inl 75)), some (.inl (w : Int)), some (.inl (r : Int)), x5, x6] [] sh0 (rw_ (fr_up M 75 28 ((base ++ out (pg M) w r).length : Int)) 96 g) 0 0 Q := by
  obtain ⟨p1, p2, p3, -⟩ := id h1
  intro t
  induction t with
  | zero =>
    intro r g x5 x6 q0 q1
    have e := out_ext (p := pg M) (w := w) (R := r) (fun r' z0 z1 => (h2 (r' : Int) (by omega) (by omega)).2.2.2 (by omega)) 6 (by omega) (by omega)
    rw [e] at h
    have hh := h g (some (.inl (r : Int))) x5 x6 q1
    clear h
    refine fr_go k177 [15, 66] 400 rfl ?_
    repeat' (first | (refine And.intro (by first | omega | (simp (disch := decide) only [up_n, up_s, cp_n, rw_n, rw_s, up1_, if_true, if_false, ite_true, ite_false, reduceIte, eq_self, Int.reduceEq, true_and, and_true, not_true_eq_false, not_false_eq_true]; omega)) ?_) | (refine And.intro (fun hc => ?_) (fun hc => ?_) <;> (try (simp (disch := decide) only [up_n, up_s, cp_n, rw_n, rw_s, up1_, if_true, if_false, ite_true, ite_false, reduceIte, eq_self, Int.reduceEq, true_and, and_true, not_true_eq_false, not_false_eq_true] at hc)) <;> (try (exfalso; omega))) | (refine fun (hc : ¬ _) => ?_; try (simp (disch := decide) only [up_n, up_s, cp_n, rw_n, rw_s, up1_, if_true, if_false, ite_true, ite_false, reduceIte, eq_self, Int.reduceEq, true_and, and_true, not_true_eq_false, not_false_eq_true] at hc)) | (refine fun (hc : _ = _) => ?_; try (simp (disch := decide) only [up_n, up_s, cp_n, rw_n, rw_s, up1_, if_true, if_false, ite_true, ite_false, reduceIte, eq_self, Int.reduceEq, true_and, and_true, not_true_eq_false, not_false_eq_true] at hc)))
    all_goals first | (exfalso; omega) | exact hh
  | succ t ih =>
    intro r g x5 x6 q0 q1
    have hl := out_len (p := pg M) (w := w) (r := r + 1) (r' := 6) (by omega)
    have hm := h2 (r : Int) (by omega) (by omega)
    have ea : base ++ out (pg M) w (r + 1) = (base ++ out (pg M) w r) ++ inn (pg M) w r (M 76 (r : Int)).toNat := by
      rw [out, List.append_assoc]
      rfl
    have hlen2 : ((base ++ out (pg M) w r) ++ inn (pg M) w r (M 76 (r : Int)).toNat).length ≤ 40 := by
      rw [← ea, List.length_append]
      rw [List.length_append] at hlen
      omega
    have hin := m_mr_in (M := M) (w := w) (r := r) (L := base ++ out (pg M) w r) (Q := Q) h1 h2 h4 o1 s1 (by omega) hw hlen2 ?_ (M 76 (r : Int)).toNat 0 g x6 (by omega) (by simpa [inn] using q1)
    · have e0 : base ++ out (pg M) w r ++ inn (pg M) w r 0 = base ++ out (pg M) w r := by simp [inn]
      rw [e0] at hin
      refine fr_go k177 [15, 21] 400 rfl ?_
      repeat' (first | (refine And.intro (by first | omega | (simp (disch := decide) only [up_n, up_s, cp_n, rw_n, rw_s, up1_, if_true, if_false, ite_true, ite_false, reduceIte, eq_self, Int.reduceEq, true_and, and_true, not_true_eq_false, not_false_eq_true]; omega)) ?_) | (refine And.intro (fun hc => ?_) (fun hc => ?_) <;> (try (simp (disch := decide) only [up_n, up_s, cp_n, rw_n, rw_s, up1_, if_true, if_false, ite_true, ite_false, reduceIte, eq_self, Int.reduceEq, true_and, and_true, not_true_eq_false, not_false_eq_true] at hc)) <;> (try (exfalso; omega))) | (refine fun (hc : ¬ _) => ?_; try (simp (disch := decide) only [up_n, up_s, cp_n, rw_n, rw_s, up1_, if_true, if_false, ite_true, ite_false, reduceIte, eq_self, Int.reduceEq, true_and, and_true, not_true_eq_false, not_false_eq_true] at hc)) | (refine fun (hc : _ = _) => ?_; try (simp (disch := decide) only [up_n, up_s, cp_n, rw_n, rw_s, up1_, if_true, if_false, ite_true, ite_false, reduceIte, eq_self, Int.reduceEq, true_and, and_true, not_true_eq_false, not_false_eq_true] at hc)))
      all_goals first | (exfalso; omega) | exact hin
    · intro g' x6' hg'
      have hh := ih (r + 1) g' (some (.inl (M 76 (r : Int)))) x6' (by omega) (by rw [ea]; exact hg')
      rw [ea] at hh
      refine fr_go k177 [15] 400 rfl ?_
      repeat' (first | (refine And.intro (by first | omega | (simp (disch := decide) only [up_n, up_s, cp_n, rw_n, rw_s, up1_, if_true, if_false, ite_true, ite_false, reduceIte, eq_self, Int.reduceEq, true_and, and_true, not_true_eq_false, not_false_eq_true]; omega)) ?_) | (refine And.intro (fun hc => ?_) (fun hc => ?_) <;> (try (simp (disch := decide) only [up_n, up_s, cp_n, rw_n, rw_s, up1_, if_true, if_false, ite_true, ite_false, reduceIte, eq_self, Int.reduceEq, true_and, and_true, not_true_eq_false, not_false_eq_true] at hc)) <;> (try (exfalso; omega))) | (refine fun (hc : ¬ _) => ?_; try (simp (disch := decide) only [up_n, up_s, cp_n, rw_n, rw_s, up1_, if_true, if_false, ite_true, ite_false, reduceIte, eq_self, Int.reduceEq, true_and, and_true, not_true_eq_false, not_false_eq_true] at hc)) | (refine fun (hc : _ = _) => ?_; try (simp (disch := decide) only [up_n, up_s, cp_n, rw_n, rw_s, up1_, if_true, if_false, ite_true, ite_false, reduceIte, eq_self, Int.reduceEq, true_and, and_true, not_true_eq_false, not_false_eq_true] at hc)))
      all_goals first | (exfalso; omega) | exact hh
def nn (x : Int) : Int := if x = -1 then -9 else x
set_option maxHeartbeats 4000000 in
set_option maxRecDepth 100000 in
theorem m_mr_nx {M : fr_M} {x2 x3 x4 : Option fr_V} {Q : Option fr_V → fr_H → fr_M → Prop} (hw : WF (pg M)) (hr28 : M 75 28 = M 75 4) (hl : ∀ k : Nat, (k : Int) < M 75 4 → M 96 (k : Int) = ln (pg M) k) (h : ∀ g, (∀ b, 0 ≤ b → b < M 75 4 → g b = nn (nx (pg M) b)) → Q none sh0 (rw_ M 97 g)) : ∀ (t k : Nat) (g : Int → Int), (k : Int) + t = M 75 4 → (∀ j : Nat, j < k → g (ln (pg M) j) = nn (nx (pg M) (ln (pg M) j))) → fr_Run 177 none 70 [some (.inr (.inl 75)), some (.inl (k : Int)), x2, x3, x4] [] sh0 (rw_ M 97 g) 0 0 Q := by
  have h40 : M 75 4 ≤ 40 := hw.1.1.2
  have hcN : (cN (pg M) : Int) = M 75 4 := by
    have h00 : 0 ≤ M 75 4 := hw.1.1.1
    show (((M 75 4).toNat : Nat) : Int) = M 75 4
    omega
  intro t
  induction t with
  | zero =>
    intro k g q0 q1
    have hh := h g (fun b z0 z1 => by
      have := q1 (ix (pg M) b) (by have := ix_lt hw ⟨z0, z1⟩; omega)
      rw [ln_ix hw ⟨z0, z1⟩] at this
      exact this)
    clear h
    refine fr_go k177 [70] 400 rfl ?_
    repeat' (first | (refine And.intro (by first | omega | (simp (disch := decide) only [up_n, up_s, cp_n, rw_n, rw_s, up1_, if_true, if_false, ite_true, ite_false, reduceIte, eq_self, Int.reduceEq, true_and, and_true, not_true_eq_false, not_false_eq_true]; omega)) ?_) | (refine And.intro (fun hc => ?_) (fun hc => ?_) <;> (try (simp (disch := decide) only [up_n, up_s, cp_n, rw_n, rw_s, up1_, if_true, if_false, ite_true, ite_false, reduceIte, eq_self, Int.reduceEq, true_and, and_true, not_true_eq_false, not_false_eq_true] at hc)) <;> (try (exfalso; omega))) | (refine fun (hc : ¬ _) => ?_; try (simp (disch := decide) only [up_n, up_s, cp_n, rw_n, rw_s, up1_, if_true, if_false, ite_true, ite_false, reduceIte, eq_self, Int.reduceEq, true_and, and_true, not_true_eq_false, not_false_eq_true] at hc)) | (refine fun (hc : _ = _) => ?_; try (simp (disch := decide) only [up_n, up_s, cp_n, rw_n, rw_s, up1_, if_true, if_false, ite_true, ite_false, reduceIte, eq_self, Int.reduceEq, true_and, and_true, not_true_eq_false, not_false_eq_true] at hc)))
    all_goals first | (exfalso; omega) | exact hh
  | succ t ih =>
    intro k g q0 q1
    have hk : k < cN (pg M) := by omega
    have hr := ln_rng hw hk
    have hr2 : ln (pg M) k < M 75 4 := hr.2
    have e1 := hl k (by omega)
    have e2 := nx_ln hw hk
    have hh := ih (k + 1) (up1 g (ln (pg M) k) (nn (nx (pg M) (ln (pg M) k)))) (by omega) (fun j hj => by
      rw [up1_]
      by_cases e : j = k
      · rw [e, if_pos rfl]
      · rw [if_neg (fun q => e (ln_inj hw (by omega) hk q))]
        exact q1 j (by omega))
    have e1' : rw_ M 97 g 96 (k : Int) = ln (pg M) k := e1
    by_cases hlast : k + 1 < cN (pg M)
    · rw [if_pos hlast] at e2
      have e3 := hl (k + 1) (by omega)
      have hr3 := ln_rng hw hlast
      have e3' : rw_ M 97 g 96 ((k : Int) + 1) = ln (pg M) (k + 1) := e3
      have e4 : nn (ln (pg M) (k + 1)) = ln (pg M) (k + 1) := by
        unfold nn
        rw [if_neg (by omega)]
      rw [e2, e4] at hh
      clear ih q1 hl h
      refine fr_go k177 [70] 400 rfl ?_
      repeat' (first | (refine And.intro (by first | omega | (simp (disch := decide) only [up_n, up_s, cp_n, rw_n, rw_s, up1_, if_true, if_false, ite_true, ite_false, reduceIte, eq_self, Int.reduceEq, true_and, and_true, not_true_eq_false, not_false_eq_true]; omega)) ?_) | (refine And.intro (fun hc => ?_) (fun hc => ?_) <;> (try (simp (disch := decide) only [up_n, up_s, cp_n, rw_n, rw_s, up1_, if_true, if_false, ite_true, ite_false, reduceIte, eq_self, Int.reduceEq, true_and, and_true, not_true_eq_false, not_false_eq_true] at hc)) <;> (try (exfalso; omega))) | (refine fun (hc : ¬ _) => ?_; try (simp (disch := decide) only [up_n, up_s, cp_n, rw_n, rw_s, up1_, if_true, if_false, ite_true, ite_false, reduceIte, eq_self, Int.reduceEq, true_and, and_true, not_true_eq_false, not_false_eq_true] at hc)) | (refine fun (hc : _ = _) => ?_; try (simp (disch := decide) only [up_n, up_s, cp_n, rw_n, rw_s, up1_, if_true, if_false, ite_true, ite_false, reduceIte, eq_self, Int.reduceEq, true_and, and_true, not_true_eq_false, not_false_eq_true] at hc)))
      all_goals first | (exfalso; omega) | skip
      rw [e1', e3']
      simp (disch := decide) only [up_rw, rw_u, up_up, rw_rw, rw_cm]
      exact hh
    · rw [if_neg hlast] at e2
      rw [e2, show nn (-1) = -9 from rfl] at hh
      clear ih q1 hl h
      refine fr_go k177 [70] 400 rfl ?_
      repeat' (first | (refine And.intro (by first | omega | (simp (disch := decide) only [up_n, up_s, cp_n, rw_n, rw_s, up1_, if_true, if_false, ite_true, ite_false, reduceIte, eq_self, Int.reduceEq, true_and, and_true, not_true_eq_false, not_false_eq_true]; omega)) ?_) | (refine And.intro (fun hc => ?_) (fun hc => ?_) <;> (try (simp (disch := decide) only [up_n, up_s, cp_n, rw_n, rw_s, up1_, if_true, if_false, ite_true, ite_false, reduceIte, eq_self, Int.reduceEq, true_and, and_true, not_true_eq_false, not_false_eq_true] at hc)) <;> (try (exfalso; omega))) | (refine fun (hc : ¬ _) => ?_; try (simp (disch := decide) only [up_n, up_s, cp_n, rw_n, rw_s, up1_, if_true, if_false, ite_true, ite_false, reduceIte, eq_self, Int.reduceEq, true_and, and_true, not_true_eq_false, not_false_eq_true] at hc)) | (refine fun (hc : _ = _) => ?_; try (simp (disch := decide) only [up_n, up_s, cp_n, rw_n, rw_s, up1_, if_true, if_false, ite_true, ite_false, reduceIte, eq_self, Int.reduceEq, true_and, and_true, not_true_eq_false, not_false_eq_true] at hc)))
      all_goals first | (exfalso; omega) | skip
      rw [e1']
      simp (disch := decide) only [up_rw, rw_u, up_up, rw_rw, rw_cm]
      exact hh
set_option maxHeartbeats 4000000 in
set_option maxRecDepth 100000 in
theorem m_makeRow {M : fr_M} {Q : Option fr_V → fr_H → fr_M → Prop} (hw : WF (pg M)) (h1 : P1 M) (h2 : P2 M) (h4 : P4 M) (o1 : O1 M) (s1 : S1 M) (h : ∀ g96 g97, (∀ k : Nat, (k : Int) < M 75 4 → g96 (k : Int) = ln (pg M) k) → (∀ b, 0 ≤ b → b < M 75 4 → g97 b = nn (nx (pg M) b)) → Q none sh0 (rw_ (rw_ (fr_up M 75 28 (M 75 4)) 96 g96) 97 g97)) : fr_Call 177 [.inr (.inl 75)] sh0 M Q := by
  obtain ⟨t1, t2, -⟩ := id s1
  have h40 : M 75 4 ≤ 40 := hw.1.1.2
  have hcN : (cN (pg M) : Int) = M 75 4 := by
    have h00 : 0 ≤ M 75 4 := hw.1.1.1
    show (((M 75 4).toNat : Nat) : Int) = M 75 4
    omega
  have hlr := len_row hw
  have p2 := h1.2.1
  have hnx : ∀ g96 x2 x3 x4, hd_ g96 (rowL (pg M)) → fr_Run 177 none 70 [some (.inr (.inl 75)), some (.inl 0), x2, x3, x4] [] sh0 (rw_ (fr_up M 75 28 (M 75 4)) 96 g96) 0 0 Q := by
    intro g96 x2 x3 x4 hg
    have hp : pg (rw_ (fr_up M 75 28 (M 75 4)) 96 g96) = pg M := by
      rw [pg_rw (by omega), pg_up (by omega)]
    have := m_mr_nx (M := rw_ (fr_up M 75 28 (M 75 4)) 96 g96) (x2 := x2) (x3 := x3) (x4 := x4) (Q := Q) (by rw [hp]; exact hw) rfl (by rw [hp]; intro k hk; rw [rw_s]; exact hd_ln hw hg k hk) (by rw [hp]; intro g97 hg97; exact h g96 g97 (hd_ln hw hg) hg97) (M 75 4).toNat 0 (M 97) (by show ((0 : Nat) : Int) + _ = M 75 4; have := h1.2.2.2.2.1; omega) (fun j hj => absurd hj (by omega))
    exact q_run this (rw_id (M := rw_ (fr_up M 75 28 (M 75 4)) 96 g96) (k := 97))
  have hlen0 : ([] ++ out (pg M) 0 6 : List Int).length ≤ 40 := by
    rw [List.nil_append]
    unfold rowL at hlr
    rw [List.length_append] at hlr
    omega
  have hpass0 : ∀ (Q' : Option fr_V → fr_H → fr_M → Prop), (∀ g x2 x3 x6, hd_ g (out (pg M) 0 6) → fr_Run 177 none 66 [some (.inr (.inl 75)), some (.inl 0), x2, x3, x6] [] sh0 (rw_ (fr_up M 75 28 ((out (pg M) 0 6).length : Int)) 96 g) 0 0 Q') → fr_Run 177 none 15 [some (.inr (.inl 75)), some (.inl 0), some (.inl 0), none, none] [] sh0 (fr_up M 75 28 0) 0 0 Q' := by
    intro Q' hq
    have := m_mr_out (M := M) (w := 0) (base := []) (Q := Q') h1 h2 h4 o1 s1 (Or.inl rfl) hlen0 (by intro g x2 x3 x6 hg; rw [List.nil_append] at hg ⊢; exact hq g x2 x3 x6 hg) (M 75 0).toNat 0 (M 96) none none (by omega) (fun j x hx => by cases j <;> cases hx)
    exact q_run this (rw_id (M := fr_up M 75 28 0) (k := 96))
  by_cases ha : M 75 13 = 1
  · have er : rowL (pg M) = out (pg M) 0 6 ++ out (pg M) 1 6 := by
      unfold rowL
      rw [if_pos (show pg M 75 13 = 1 from ha)]
    rw [er] at hlr hnx
    refine fr_cgo k177 [some (.inr (.inl 75)), none, none, none, none] 0 0 [15] 400 rfl rfl rfl rfl ?_
    repeat' (first | (refine And.intro (by first | omega | (simp (disch := decide) only [up_n, up_s, cp_n, rw_n, rw_s, up1_, if_true, if_false, ite_true, ite_false, reduceIte, eq_self, Int.reduceEq, true_and, and_true, not_true_eq_false, not_false_eq_true]; omega)) ?_) | (refine And.intro (fun hc => ?_) (fun hc => ?_) <;> (try (simp (disch := decide) only [up_n, up_s, cp_n, rw_n, rw_s, up1_, if_true, if_false, ite_true, ite_false, reduceIte, eq_self, Int.reduceEq, true_and, and_true, not_true_eq_false, not_false_eq_true] at hc)) <;> (try (exfalso; omega))) | (refine fun (hc : ¬ _) => ?_; try (simp (disch := decide) only [up_n, up_s, cp_n, rw_n, rw_s, up1_, if_true, if_false, ite_true, ite_false, reduceIte, eq_self, Int.reduceEq, true_and, and_true, not_true_eq_false, not_false_eq_true] at hc)) | (refine fun (hc : _ = _) => ?_; try (simp (disch := decide) only [up_n, up_s, cp_n, rw_n, rw_s, up1_, if_true, if_false, ite_true, ite_false, reduceIte, eq_self, Int.reduceEq, true_and, and_true, not_true_eq_false, not_false_eq_true] at hc)))
    all_goals first | (exfalso; omega) | (exfalso; simp (disch := decide) only [up_n, up_s, cp_n, rw_n, rw_s, up1_, if_true, if_false, ite_true, ite_false, reduceIte, eq_self, Int.reduceEq, true_and, and_true, not_true_eq_false, not_false_eq_true] at *; omega) | skip
    refine hpass0 Q (fun g x2 x3 x6 hg => ?_)
    refine fr_go k177 [15] 400 rfl ?_
    repeat' (first | (refine And.intro (by first | omega | (simp (disch := decide) only [up_n, up_s, cp_n, rw_n, rw_s, up1_, if_true, if_false, ite_true, ite_false, reduceIte, eq_self, Int.reduceEq, true_and, and_true, not_true_eq_false, not_false_eq_true]; omega)) ?_) | (refine And.intro (fun hc => ?_) (fun hc => ?_) <;> (try (simp (disch := decide) only [up_n, up_s, cp_n, rw_n, rw_s, up1_, if_true, if_false, ite_true, ite_false, reduceIte, eq_self, Int.reduceEq, true_and, and_true, not_true_eq_false, not_false_eq_true] at hc)) <;> (try (exfalso; omega))) | (refine fun (hc : ¬ _) => ?_; try (simp (disch := decide) only [up_n, up_s, cp_n, rw_n, rw_s, up1_, if_true, if_false, ite_true, ite_false, reduceIte, eq_self, Int.reduceEq, true_and, and_true, not_true_eq_false, not_false_eq_true] at hc)) | (refine fun (hc : _ = _) => ?_; try (simp (disch := decide) only [up_n, up_s, cp_n, rw_n, rw_s, up1_, if_true, if_false, ite_true, ite_false, reduceIte, eq_self, Int.reduceEq, true_and, and_true, not_true_eq_false, not_false_eq_true] at hc)))
    all_goals first | (exfalso; omega) | (exfalso; simp (disch := decide) only [up_n, up_s, cp_n, rw_n, rw_s, up1_, if_true, if_false, ite_true, ite_false, reduceIte, eq_self, Int.reduceEq, true_and, and_true, not_true_eq_false, not_false_eq_true] at *; omega) | skip
    have hlen1 : (out (pg M) 0 6 ++ out (pg M) 1 6).length ≤ 40 := by omega
    have := m_mr_out (M := M) (w := 1) (base := out (pg M) 0 6) (Q := Q) h1 h2 h4 o1 s1 (Or.inr ⟨rfl, ha⟩) hlen1 ?_ (M 75 0).toNat 0 g x3 x6 (by omega) (by simpa [out] using hg)
    · have e0 : out (pg M) 0 6 ++ out (pg M) 1 0 = out (pg M) 0 6 := by simp [out]
      rw [e0] at this
      exact this
    · intro g' y2 y3 y6 hg'
      rw [hlr, hcN]
      refine fr_go k177 [70] 400 rfl ?_
      repeat' (first | (refine And.intro (by first | omega | (simp (disch := decide) only [up_n, up_s, cp_n, rw_n, rw_s, up1_, if_true, if_false, ite_true, ite_false, reduceIte, eq_self, Int.reduceEq, true_and, and_true, not_true_eq_false, not_false_eq_true]; omega)) ?_) | (refine And.intro (fun hc => ?_) (fun hc => ?_) <;> (try (simp (disch := decide) only [up_n, up_s, cp_n, rw_n, rw_s, up1_, if_true, if_false, ite_true, ite_false, reduceIte, eq_self, Int.reduceEq, true_and, and_true, not_true_eq_false, not_false_eq_true] at hc)) <;> (try (exfalso; omega))) | (refine fun (hc : ¬ _) => ?_; try (simp (disch := decide) only [up_n, up_s, cp_n, rw_n, rw_s, up1_, if_true, if_false, ite_true, ite_false, reduceIte, eq_self, Int.reduceEq, true_and, and_true, not_true_eq_false, not_false_eq_true] at hc)) | (refine fun (hc : _ = _) => ?_; try (simp (disch := decide) only [up_n, up_s, cp_n, rw_n, rw_s, up1_, if_true, if_false, ite_true, ite_false, reduceIte, eq_self, Int.reduceEq, true_and, and_true, not_true_eq_false, not_false_eq_true] at hc)))
      all_goals first | (exfalso; omega) | (exfalso; simp (disch := decide) only [up_n, up_s, cp_n, rw_n, rw_s, up1_, if_true, if_false, ite_true, ite_false, reduceIte, eq_self, Int.reduceEq, true_and, and_true, not_true_eq_false, not_false_eq_true] at *; omega) | exact hnx g' y2 y3 y6 hg'
  · have er : rowL (pg M) = out (pg M) 0 6 := by
      unfold rowL
      rw [if_neg (show ¬ pg M 75 13 = 1 from ha), List.append_nil]
    rw [er] at hlr hnx
    refine fr_cgo k177 [some (.inr (.inl 75)), none, none, none, none] 0 0 [15] 400 rfl rfl rfl rfl ?_
    repeat' (first | (refine And.intro (by first | omega | (simp (disch := decide) only [up_n, up_s, cp_n, rw_n, rw_s, up1_, if_true, if_false, ite_true, ite_false, reduceIte, eq_self, Int.reduceEq, true_and, and_true, not_true_eq_false, not_false_eq_true]; omega)) ?_) | (refine And.intro (fun hc => ?_) (fun hc => ?_) <;> (try (simp (disch := decide) only [up_n, up_s, cp_n, rw_n, rw_s, up1_, if_true, if_false, ite_true, ite_false, reduceIte, eq_self, Int.reduceEq, true_and, and_true, not_true_eq_false, not_false_eq_true] at hc)) <;> (try (exfalso; omega))) | (refine fun (hc : ¬ _) => ?_; try (simp (disch := decide) only [up_n, up_s, cp_n, rw_n, rw_s, up1_, if_true, if_false, ite_true, ite_false, reduceIte, eq_self, Int.reduceEq, true_and, and_true, not_true_eq_false, not_false_eq_true] at hc)) | (refine fun (hc : _ = _) => ?_; try (simp (disch := decide) only [up_n, up_s, cp_n, rw_n, rw_s, up1_, if_true, if_false, ite_true, ite_false, reduceIte, eq_self, Int.reduceEq, true_and, and_true, not_true_eq_false, not_false_eq_true] at hc)))
    all_goals first | (exfalso; omega) | (exfalso; simp (disch := decide) only [up_n, up_s, cp_n, rw_n, rw_s, up1_, if_true, if_false, ite_true, ite_false, reduceIte, eq_self, Int.reduceEq, true_and, and_true, not_true_eq_false, not_false_eq_true] at *; omega) | skip
    refine hpass0 Q (fun g x2 x3 x6 hg => ?_)
    rw [hlr, hcN]
    refine fr_go k177 [70] 400 rfl ?_
    repeat' (first | (refine And.intro (by first | omega | (simp (disch := decide) only [up_n, up_s, cp_n, rw_n, rw_s, up1_, if_true, if_false, ite_true, ite_false, reduceIte, eq_self, Int.reduceEq, true_and, and_true, not_true_eq_false, not_false_eq_true]; omega)) ?_) | (refine And.intro (fun hc => ?_) (fun hc => ?_) <;> (try (simp (disch := decide) only [up_n, up_s, cp_n, rw_n, rw_s, up1_, if_true, if_false, ite_true, ite_false, reduceIte, eq_self, Int.reduceEq, true_and, and_true, not_true_eq_false, not_false_eq_true] at hc)) <;> (try (exfalso; omega))) | (refine fun (hc : ¬ _) => ?_; try (simp (disch := decide) only [up_n, up_s, cp_n, rw_n, rw_s, up1_, if_true, if_false, ite_true, ite_false, reduceIte, eq_self, Int.reduceEq, true_and, and_true, not_true_eq_false, not_false_eq_true] at hc)) | (refine fun (hc : _ = _) => ?_; try (simp (disch := decide) only [up_n, up_s, cp_n, rw_n, rw_s, up1_, if_true, if_false, ite_true, ite_false, reduceIte, eq_self, Int.reduceEq, true_and, and_true, not_true_eq_false, not_false_eq_true] at hc)))
    all_goals first | (exfalso; omega) | (exfalso; simp (disch := decide) only [up_n, up_s, cp_n, rw_n, rw_s, up1_, if_true, if_false, ite_true, ite_false, reduceIte, eq_self, Int.reduceEq, true_and, and_true, not_true_eq_false, not_false_eq_true] at *; omega) | exact hnx g x2 x3 x6 hg
