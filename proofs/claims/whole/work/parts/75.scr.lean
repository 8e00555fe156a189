/-- cells that no part of Rel but RL looks at -/
abbrev sc (k : Nat) (i : Int) : Prop := (16 + 2 ≤ k ∧ k ≤ 28) ∨ (k = 29 ∧ 13 ≤ i) ∨ (30 ≤ k ∧ k ≤ 41) ∨ k = 44 ∨ k = 47 ∨ (49 ≤ k ∧ k ≤ 51) ∨ (55 ≤ k ∧ k ≤ 74) ∨ (k = 75 ∧ (i = 28 ∨ (37 ≤ i ∧ i ≤ 39) ∨ i = 50 ∨ i = 52)) ∨ (90 ≤ k ∧ k ≤ 105) ∨ (111 ≤ k ∧ k ≤ 118)
def cor (M : fr_M) : fr_M := fun k i => if sc k i then 0 else M k i
theorem cor_e {M M' : fr_M} (e : ∀ k i, ¬ sc k i → M' k i = M k i) : cor M' = cor M := by
  funext k i
  unfold cor
  split
  · rfl
  · next q => exact e k i q
theorem cor_P1 {M : fr_M} : P1 (cor M) = P1 M := rfl
theorem cor_P2 {M : fr_M} : P2 (cor M) = P2 M := rfl
theorem cor_P3 {M : fr_M} : P3 (cor M) = P3 M := rfl
theorem cor_P4 {M : fr_M} : P4 (cor M) = P4 M := rfl
theorem cor_P5 {M : fr_M} : P5 (cor M) = P5 M := rfl
theorem cor_P6 {M : fr_M} : P6 (cor M) = P6 M := rfl
theorem cor_P7 {M : fr_M} : P7 (cor M) = P7 M := rfl
theorem cor_P8 {M : fr_M} : P8 (cor M) = P8 M := rfl
theorem cor_O1 {M : fr_M} : O1 (cor M) = O1 M := rfl
theorem cor_O2 {M : fr_M} : O2 (cor M) = O2 M := rfl
theorem cor_O3 {M : fr_M} : O3 (cor M) = O3 M := rfl
theorem cor_K1 {M : fr_M} : K1 (cor M) = K1 M := rfl
theorem cor_K2 {M : fr_M} : K2 (cor M) = K2 M := rfl
theorem cor_K3 {M : fr_M} : K3 (cor M) = K3 M := rfl
theorem cor_K4 {M : fr_M} : K4 (cor M) = K4 M := rfl
theorem cor_K5 {M : fr_M} : K5 (cor M) = K5 M := rfl
theorem cor_T1 {M : fr_M} : T1 (cor M) = T1 M := rfl
theorem cor_T2 {M : fr_M} : T2 (cor M) = T2 M := rfl
theorem cor_S1 {M : fr_M} : S1 (cor M) = S1 M := rfl
theorem cor_R1 {M : fr_M} : R1 (cor M) 45 0 = R1 M 45 0 := rfl
theorem cor_R1' {M : fr_M} : R1 (cor M) 52 1 = R1 M 52 1 := rfl
theorem cor_R2 {M : fr_M} : R2 (cor M) 45 46 0 = R2 M 45 46 0 := rfl
theorem cor_R2' {M : fr_M} : R2 (cor M) 52 53 1 = R2 M 52 53 1 := rfl
theorem cor_R3 {M : fr_M} : R3 (cor M) = R3 M := rfl
theorem cor_R4 {M : fr_M} : R4 (cor M) = R4 M := rfl
theorem Rel.scr {n : Int} {M M' : fr_M} (h : Rel n M) (e : ∀ k i, ¬ sc k i → M' k i = M k i) (hl : RL (n + 1) M') : Rel (n + 1) M' := by
  have ec := cor_e e
  obtain ⟨h0, h1, h2, h3, h4, h5, h6, h7, h8, o1, o2, o3, k1, k2, k3, k4, k5, t1, t2, s1, r1, r1', r2, r2', r3, r4, l⟩ := h
  refine ⟨by omega, ?_, ?_, ?_, ?_, ?_, ?_, ?_, ?_, ?_, ?_, ?_, ?_, ?_, ?_, ?_, ?_, ?_, ?_, ?_, ?_, ?_, ?_, ?_, ?_, ?_, hl⟩
  · rw [← cor_P1, ec, cor_P1]; exact h1
  · rw [← cor_P2, ec, cor_P2]; exact h2
  · rw [← cor_P3, ec, cor_P3]; exact h3
  · rw [← cor_P4, ec, cor_P4]; exact h4
  · rw [← cor_P5, ec, cor_P5]; exact h5
  · rw [← cor_P6, ec, cor_P6]; exact h6
  · rw [← cor_P7, ec, cor_P7]; exact h7
  · rw [← cor_P8, ec, cor_P8]; exact h8
  · rw [← cor_O1, ec, cor_O1]; exact o1
  · rw [← cor_O2, ec, cor_O2]; exact o2
  · rw [← cor_O3, ec, cor_O3]; exact o3
  · rw [← cor_K1, ec, cor_K1]; exact k1
  · rw [← cor_K2, ec, cor_K2]; exact k2
  · rw [← cor_K3, ec, cor_K3]; exact k3
  · rw [← cor_K4, ec, cor_K4]; exact k4
  · rw [← cor_K5, ec, cor_K5]; exact k5
  · rw [← cor_T1, ec, cor_T1]; exact t1
  · rw [← cor_T2, ec, cor_T2]; exact t2
  · rw [← cor_S1, ec, cor_S1]; exact s1
  · rw [← cor_R1, ec, cor_R1]; exact r1
  · rw [← cor_R1', ec, cor_R1']; exact r1'
  · rw [← cor_R2, ec, cor_R2]; exact r2
  · rw [← cor_R2', ec, cor_R2']; exact r2'
  · rw [← cor_R3, ec, cor_R3]; exact r3
  · rw [← cor_R4, ec, cor_R4]; exact r4
theorem lay_msk {M : fr_M} : LayOK (msk M) ↔ LayOK M := by
  unfold LayOK
  rw [pg_msk]
  exact Iff.rfl
theorem pic_msk {M : fr_M} : PicOK (msk M) ↔ PicOK M := by
  unfold PicOK
  rw [pg_msk]
  exact Iff.rfl
theorem RL.in_ {n : Int} {M : fr_M} (h : RL n M) : (M 29 18 = 0 ∨ M 29 18 = 1) ∧ 0 ≤ M 29 17 ∧ M 29 17 ≤ n ∧ 0 ≤ M 39 4 ∧ M 39 4 ≤ M 29 17 ∧ (M 29 18 = 1 → LayOK M) ∧ (M 29 18 = 1 → M 39 4 = M 29 17 → PicOK M) := by
  obtain ⟨a1, a2, a3, a4, a5, a6, a7⟩ := h
  exact ⟨a1, a2, a3, a4, a5, fun q => lay_msk.mp (a6 q), fun q q2 => pic_msk.mp (a7 q q2)⟩
theorem RL.mk_ {n : Int} {M : fr_M} (h : (M 29 18 = 0 ∨ M 29 18 = 1) ∧ 0 ≤ M 29 17 ∧ M 29 17 ≤ n ∧ 0 ≤ M 39 4 ∧ M 39 4 ≤ M 29 17 ∧ (M 29 18 = 1 → LayOK M) ∧ (M 29 18 = 1 → M 39 4 = M 29 17 → PicOK M)) : RL n M := by
  obtain ⟨a1, a2, a3, a4, a5, a6, a7⟩ := h
  exact ⟨a1, a2, a3, a4, a5, fun q => lay_msk.mpr (a6 q), fun q q2 => pic_msk.mpr (a7 q q2)⟩
/-- cells of the layout -/
abbrev lc (k : Nat) (i : Int) : Prop := (30 ≤ k ∧ k ≤ 38) ∨ (k = 29 ∧ 13 ≤ i)
set_option maxHeartbeats 4000000 in
set_option maxRecDepth 100000 in
theorem c_cj_l {M p : fr_M} {Q : Option fr_V → fr_H → fr_M → Prop} (hp : pg M = p) (h1 : P1 M) (h5 : P5 M) (h6 : P6 M) (hnx : ∀ b, 0 ≤ b → b < p 75 4 → M 31 b = nx p b) (h : ∀ g34 g36 g37 g38, (∀ b, 0 ≤ b → b < p 75 4 → g34 (2 * b) = tg0 p b ∧ g34 (2 * b + 1) = tg1 p b ∧ g36 (2 * b) = 0 ∧ g36 (2 * b + 1) = 0 ∧ g37 b = tu p b ∧ g38 b = 0) → fr_Run 36 none 27 [some (.inr (.inl 29)), some (.inl (p 75 4))] [] sh0 (rw_ (rw_ (rw_ (rw_ M 34 g34) 36 g36) 37 g37) 38 g38) 0 0 Q) : ∀ (t : Nat) (i : Int) (g34 g36 g37 g38 : Int → Int), 0 ≤ i → i + t = p 75 4 → (∀ b, 0 ≤ b → b < i → g34 (2 * b) = tg0 p b ∧ g34 (2 * b + 1) = tg1 p b ∧ g36 (2 * b) = 0 ∧ g36 (2 * b + 1) = 0 ∧ g37 b = tu p b ∧ g38 b = 0) → fr_Run 36 none 17 [some (.inr (.inl 29)), some (.inl i)] [] sh0 (rw_ (rw_ (rw_ (rw_ M 34 g34) 36 g36) 37 g37) 38 g38) 0 0 Q := by
  obtain ⟨z1, z2, z3, z4, z5, z6⟩ := id h1
  have hc4 : p 75 4 = M 75 4 := by rw [← hp]; rfl
  intro t
  induction t with
  | zero =>
    intro i g34 g36 g37 g38 q0 q1 q2
    have e : i = p 75 4 := by omega
    subst e
    have hh := h g34 g36 g37 g38 q2
    clear h
    refine fr_go k36 [17, 27] 400 rfl ?_
    repeat' (first | (refine And.intro (by first | omega | (simp (disch := decide) only [up_n, up_s, cp_n, rw_n, rw_s, up1_, if_true, if_false, ite_true, ite_false, reduceIte, eq_self, Int.reduceEq, true_and, and_true, not_true_eq_false, not_false_eq_true]; omega)) ?_) | (refine And.intro (fun hc => ?_) (fun hc => ?_) <;> (try (simp (disch := decide) only [up_n, up_s, cp_n, rw_n, rw_s, up1_, if_true, if_false, ite_true, ite_false, reduceIte, eq_self, Int.reduceEq, true_and, and_true, not_true_eq_false, not_false_eq_true] at hc)) <;> (try (exfalso; omega))) | (refine fun (hc : ¬ _) => ?_; try (simp (disch := decide) only [up_n, up_s, cp_n, rw_n, rw_s, up1_, if_true, if_false, ite_true, ite_false, reduceIte, eq_self, Int.reduceEq, true_and, and_true, not_true_eq_false, not_false_eq_true] at hc)) | (refine fun (hc : _ = _) => ?_; try (simp (disch := decide) only [up_n, up_s, cp_n, rw_n, rw_s, up1_, if_true, if_false, ite_true, ite_false, reduceIte, eq_self, Int.reduceEq, true_and, and_true, not_true_eq_false, not_false_eq_true] at hc)))
    all_goals first | (exfalso; omega) | exact hh
  | succ t ih =>
    intro i g34 g36 g37 g38 q0 q1 q2
    refine fr_go k36 [17, 27] 400 rfl ?_
    repeat' (first | (refine And.intro (by first | omega | (simp (disch := decide) only [up_n, up_s, cp_n, rw_n, rw_s, up1_, if_true, if_false, ite_true, ite_false, reduceIte, eq_self, Int.reduceEq, true_and, and_true, not_true_eq_false, not_false_eq_true]; omega)) ?_) | (refine And.intro (fun hc => ?_) (fun hc => ?_) <;> (try (simp (disch := decide) only [up_n, up_s, cp_n, rw_n, rw_s, up1_, if_true, if_false, ite_true, ite_false, reduceIte, eq_self, Int.reduceEq, true_and, and_true, not_true_eq_false, not_false_eq_true] at hc)) <;> (try (exfalso; omega))) | (refine fun (hc : ¬ _) => ?_; try (simp (disch := decide) only [up_n, up_s, cp_n, rw_n, rw_s, up1_, if_true, if_false, ite_true, ite_false, reduceIte, eq_self, Int.reduceEq, true_and, and_true, not_true_eq_false, not_false_eq_true] at hc)) | (refine fun (hc : _ = _) => ?_; try (simp (disch := decide) only [up_n, up_s, cp_n, rw_n, rw_s, up1_, if_true, if_false, ite_true, ite_false, reduceIte, eq_self, Int.reduceEq, true_and, and_true, not_true_eq_false, not_false_eq_true] at hc)))
    all_goals first | (exfalso; omega) | skip
    refine c_choose (p := p) ?_ h1 h5 h6 (by simp (disch := decide) only [up_n, up_s, cp_n, rw_n, rw_s, up1_, if_true, if_false, ite_true, ite_false, reduceIte, eq_self, Int.reduceEq, true_and, and_true, not_true_eq_false, not_false_eq_true]; omega) (by simp (disch := decide) only [up_n, up_s, cp_n, rw_n, rw_s, up1_, if_true, if_false, ite_true, ite_false, reduceIte, eq_self, Int.reduceEq, true_and, and_true, not_true_eq_false, not_false_eq_true]; exact hnx i q0 (by omega)) ?_
    · rw [pg_rw (by omega), pg_rw (by omega), pg_rw (by omega), pg_rw (by omega)]
      exact hp
    · repeat' (first | (refine And.intro (by first | omega | (simp (disch := decide) only [up_n, up_s, cp_n, rw_n, rw_s, up1_, if_true, if_false, ite_true, ite_false, reduceIte, eq_self, Int.reduceEq, true_and, and_true, not_true_eq_false, not_false_eq_true]; omega)) ?_) | (refine And.intro (fun hc => ?_) (fun hc => ?_) <;> (try (simp (disch := decide) only [up_n, up_s, cp_n, rw_n, rw_s, up1_, if_true, if_false, ite_true, ite_false, reduceIte, eq_self, Int.reduceEq, true_and, and_true, not_true_eq_false, not_false_eq_true] at hc)) <;> (try (exfalso; omega))) | (refine fun (hc : ¬ _) => ?_; try (simp (disch := decide) only [up_n, up_s, cp_n, rw_n, rw_s, up1_, if_true, if_false, ite_true, ite_false, reduceIte, eq_self, Int.reduceEq, true_and, and_true, not_true_eq_false, not_false_eq_true] at hc)) | (refine fun (hc : _ = _) => ?_; try (simp (disch := decide) only [up_n, up_s, cp_n, rw_n, rw_s, up1_, if_true, if_false, ite_true, ite_false, reduceIte, eq_self, Int.reduceEq, true_and, and_true, not_true_eq_false, not_false_eq_true] at hc)))
      simp (disch := decide) only [up_rw, rw_u, up_up, rw_rw, rw_cm]
      refine ih (i + 1) _ _ _ _ (by omega) (by omega) (fun b y0 y1 => ?_)
      simp only [up1_]
      by_cases e : b = i
      · subst e
        rw [if_neg (show ¬ 2 * b = 2 * b + 1 by omega), if_pos rfl, if_pos rfl]
        simp
      · have := q2 b y0 (by omega)
        rw [if_neg (show ¬ 2 * b = 2 * i + 1 by omega), if_neg (show ¬ 2 * b = 2 * i by omega), if_neg (show ¬ 2 * b + 1 = 2 * i + 1 by omega), if_neg (show ¬ 2 * b + 1 = 2 * i by omega), if_neg e, if_neg e]
        rw [if_neg (show ¬ 2 * b = 2 * i + 1 by omega), if_neg (show ¬ 2 * b = 2 * i by omega), if_neg (show ¬ 2 * b + 1 = 2 * i + 1 by omega), if_neg (show ¬ 2 * b + 1 = 2 * i by omega)]
        exact this
