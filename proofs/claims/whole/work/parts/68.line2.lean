set_option maxHeartbeats 4000000 in
set_option maxRecDepth 100000 in
theorem c_lu_out {M : fr_M} {w : Nat} {base : List Int} {fm : Int} {Q : Option fr_V → fr_H → fr_M → Prop} (h1 : P1 M) (h2 : P2 M) (h4 : P4 M) (o1 : O1 M) (s1 : S1 M) (hw : w = 0 ∨ (w = 1 ∧ M 75 13 = 1)) (hlen : (base ++ out (pg M) w 6).length ≤ 40) (h : ∀ g, hd_ g (base ++ out (pg M) w 6) → Q (some (.inl ((base ++ out (pg M) w 6).length : Int))) sh0 (rw_ M 30 g)) : ∀ (t r : Nat) (g : Int → Int) (x5 x6 : Option fr_V), (r : Int) + t = M 75 0 → hd_ g (base ++ out (pg M) w r) → fr_Run 27 none 4 [some (.inr (.inl 29)), some (.inl (w : Int)), some (.inl fm), some (.inl ((base ++ out (pg M) w r).length : Int)), some (.inl (r : Int)), x5, x6] [] sh0 (rw_ M 30 g) 0 0 Q := by
  obtain ⟨p1, p2, p3, -⟩ := id h1
  intro t
  induction t with
  | zero =>
    intro r g x5 x6 q0 q1
    have e := out_ext (p := pg M) (w := w) (R := r) (fun r' z0 z1 => (h2 (r' : Int) (by omega) (by omega)).2.2.2 (by omega)) 6 (by omega) (by omega)
    rw [e] at h
    have hh := h g q1
    clear h
    refine fr_go k27 [4] 400 rfl ?_
    repeat' (first | (refine And.intro (by first | omega | (simp (disch := decide) only [up_n, up_s, cp_n, rw_n, rw_s, up1_, if_true, if_false, ite_true, ite_false, reduceIte, eq_self, Int.reduceEq, true_and, and_true, not_true_eq_false, not_false_eq_true]; omega)) ?_) | (refine And.intro (fun hc => ?_) (fun hc => ?_) <;> (try (simp (disch := decide) only [up_n, up_s, cp_n, rw_n, rw_s, up1_, if_true, if_false, ite_true, ite_false, reduceIte, eq_self, Int.reduceEq, true_and, and_true, not_true_eq_false, not_false_eq_true] at hc)) <;> (try (exfalso; omega))) | (refine fun (hc : ¬ _) => ?_; try (simp (disch := decide) only [up_n, up_s, cp_n, rw_n, rw_s, up1_, if_true, if_false, ite_true, ite_false, reduceIte, eq_self, Int.reduceEq, true_and, and_true, not_true_eq_false, not_false_eq_true] at hc)) | (refine fun (hc : _ = _) => ?_; try (simp (disch := decide) only [up_n, up_s, cp_n, rw_n, rw_s, up1_, if_true, if_false, ite_true, ite_false, reduceIte, eq_self, Int.reduceEq, true_and, and_true, not_true_eq_false, not_false_eq_true] at hc)))
    all_goals first | (exfalso; omega) | exact hh
  | succ t ih =>
    intro r g x5 x6 q0 q1
    have hl := out_len (p := pg M) (w := w) (r := r + 1) (r' := 6) (by omega)
    have hm := h2 (r : Int) (by omega) (by omega)
    have ea : base ++ out (pg M) w (r + 1) = (base ++ out (pg M) w r) ++ inn (pg M) w r (M 76 (r : Int)).toNat := by
      rw [out, List.append_assoc]
      rfl
    have hlen2 : ((base ++ out (pg M) w r) ++ inn (pg M) w r (M 76 (r : Int)).toNat).length ≤ 40 := by
      rw [← ea, List.length_append]
      rw [List.length_append] at hlen
      omega
    have hin := c_lu_in (M := M) (w := w) (r := r) (L := base ++ out (pg M) w r) (fm := fm) (Q := Q) h1 h2 h4 o1 s1 (by omega) hw hlen2 ?_ (M 76 (r : Int)).toNat 0 g x6 (by omega) (by simpa [inn] using q1)
    · have e0 : base ++ out (pg M) w r ++ inn (pg M) w r 0 = base ++ out (pg M) w r := by simp [inn]
      rw [e0] at hin
      refine fr_go k27 [4, 11] 400 rfl ?_
      repeat' (first | (refine And.intro (by first | omega | (simp (disch := decide) only [up_n, up_s, cp_n, rw_n, rw_s, up1_, if_true, if_false, ite_true, ite_false, reduceIte, eq_self, Int.reduceEq, true_and, and_true, not_true_eq_false, not_false_eq_true]; omega)) ?_) | (refine And.intro (fun hc => ?_) (fun hc => ?_) <;> (try (simp (disch := decide) only [up_n, up_s, cp_n, rw_n, rw_s, up1_, if_true, if_false, ite_true, ite_false, reduceIte, eq_self, Int.reduceEq, true_and, and_true, not_true_eq_false, not_false_eq_true] at hc)) <;> (try (exfalso; omega))) | (refine fun (hc : ¬ _) => ?_; try (simp (disch := decide) only [up_n, up_s, cp_n, rw_n, rw_s, up1_, if_true, if_false, ite_true, ite_false, reduceIte, eq_self, Int.reduceEq, true_and, and_true, not_true_eq_false, not_false_eq_true] at hc)) | (refine fun (hc : _ = _) => ?_; try (simp (disch := decide) only [up_n, up_s, cp_n, rw_n, rw_s, up1_, if_true, if_false, ite_true, ite_false, reduceIte, eq_self, Int.reduceEq, true_and, and_true, not_true_eq_false, not_false_eq_true] at hc)))
      all_goals first | (exfalso; omega) | exact hin
    · intro g' x6' hg'
      have hh := ih (r + 1) g' (some (.inl (M 76 (r : Int)))) x6' (by omega) (by rw [ea]; exact hg')
      rw [ea] at hh
      refine fr_go k27 [4] 400 rfl ?_
      repeat' (first | (refine And.intro (by first | omega | (simp (disch := decide) only [up_n, up_s, cp_n, rw_n, rw_s, up1_, if_true, if_false, ite_true, ite_false, reduceIte, eq_self, Int.reduceEq, true_and, and_true, not_true_eq_false, not_false_eq_true]; omega)) ?_) | (refine And.intro (fun hc => ?_) (fun hc => ?_) <;> (try (simp (disch := decide) only [up_n, up_s, cp_n, rw_n, rw_s, up1_, if_true, if_false, ite_true, ite_false, reduceIte, eq_self, Int.reduceEq, true_and, and_true, not_true_eq_false, not_false_eq_true] at hc)) <;> (try (exfalso; omega))) | (refine fun (hc : ¬ _) => ?_; try (simp (disch := decide) only [up_n, up_s, cp_n, rw_n, rw_s, up1_, if_true, if_false, ite_true, ite_false, reduceIte, eq_self, Int.reduceEq, true_and, and_true, not_true_eq_false, not_false_eq_true] at hc)) | (refine fun (hc : _ = _) => ?_; try (simp (disch := decide) only [up_n, up_s, cp_n, rw_n, rw_s, up1_, if_true, if_false, ite_true, ite_false, reduceIte, eq_self, Int.reduceEq, true_and, and_true, not_true_eq_false, not_false_eq_true] at hc)))
      all_goals first | (exfalso; omega) | exact hh
set_option maxHeartbeats 4000000 in
set_option maxRecDepth 100000 in
theorem c_luT {M : fr_M} {w : Nat} {base : List Int} {Q : Option fr_V → fr_H → fr_M → Prop} (h1 : P1 M) (h2 : P2 M) (h4 : P4 M) (o1 : O1 M) (s1 : S1 M) (hw : w = 0 ∨ (w = 1 ∧ M 75 13 = 1)) (hlen : (base ++ out (pg M) w 6).length ≤ 40) (hb : hd_ (M 30) base) (h : ∀ g, hd_ g (base ++ out (pg M) w 6) → Q (some (.inl ((base ++ out (pg M) w 6).length : Int))) sh0 (rw_ M 30 g)) : fr_Call 27 [.inr (.inl 29), .inl (w : Int), .inl (base.length : Int)] sh0 M Q := by
  have hh := c_lu_out (M := M) (w := w) (base := base) (fm := (base.length : Int)) (Q := Q) h1 h2 h4 o1 s1 hw hlen h (M 75 0).toNat 0 (M 30) none none (by have := h1.2.1; omega) (by simpa [out] using hb)
  have e0 : base ++ out (pg M) w 0 = base := by simp [out]
  rw [e0, rw_id] at hh
  refine fr_cgo k27 [some (.inr (.inl 29)), some (.inl (w : Int)), some (.inl (base.length : Int)), none, none, none, none] 0 0 [4] 400 rfl rfl rfl rfl ?_
  repeat' (first | (refine And.intro (by first | omega | (simp (disch := decide) only [up_n, up_s, cp_n, rw_n, rw_s, up1_, if_true, if_false, ite_true, ite_false, reduceIte, eq_self, Int.reduceEq, true_and, and_true, not_true_eq_false, not_false_eq_true]; omega)) ?_) | (refine And.intro (fun hc => ?_) (fun hc => ?_) <;> (try (simp (disch := decide) only [up_n, up_s, cp_n, rw_n, rw_s, up1_, if_true, if_false, ite_true, ite_false, reduceIte, eq_self, Int.reduceEq, true_and, and_true, not_true_eq_false, not_false_eq_true] at hc)) <;> (try (exfalso; omega))) | (refine fun (hc : ¬ _) => ?_; try (simp (disch := decide) only [up_n, up_s, cp_n, rw_n, rw_s, up1_, if_true, if_false, ite_true, ite_false, reduceIte, eq_self, Int.reduceEq, true_and, and_true, not_true_eq_false, not_false_eq_true] at hc)) | (refine fun (hc : _ = _) => ?_; try (simp (disch := decide) only [up_n, up_s, cp_n, rw_n, rw_s, up1_, if_true, if_false, ite_true, ite_false, reduceIte, eq_self, Int.reduceEq, true_and, and_true, not_true_eq_false, not_false_eq_true] at hc)))
  exact hh
theorem hd_ln {p : fr_M} (hw : WF p) {g : Int → Int} (h : hd_ g (rowL p)) : ∀ k : Nat, (k : Int) < p 75 4 → g (k : Int) = ln p k := by
  intro k hk
  exact h k _ (ln_some hw (by unfold cN; omega))
set_option maxHeartbeats 4000000 in
set_option maxRecDepth 100000 in
theorem c_lu_nx {M : fr_M} {Q : Option fr_V → fr_H → fr_M → Prop} (hw : WF (pg M)) (hl : ∀ k : Nat, (k : Int) < M 75 4 → M 30 (k : Int) = ln (pg M) k) (h : ∀ g, (∀ b, 0 ≤ b → b < M 75 4 → g b = nx (pg M) b) → Q none sh0 (rw_ M 31 g)) : ∀ (t k : Nat) (g : Int → Int), (k : Int) + t = M 75 4 → (∀ j : Nat, j < k → g (ln (pg M) j) = nx (pg M) (ln (pg M) j)) → fr_Run 28 none 15 [some (.inr (.inl 29)), some (.inl (M 75 4)), some (.inl (k : Int))] [] sh0 (rw_ M 31 g) 0 0 Q := by
  have h40 : M 75 4 ≤ 40 := hw.1.1.2
  have hcN : (cN (pg M) : Int) = M 75 4 := by
    have h00 : 0 ≤ M 75 4 := hw.1.1.1
    show (((M 75 4).toNat : Nat) : Int) = M 75 4
    omega
  intro t
  induction t with
  | zero =>
    intro k g q0 q1
    have hh := h g (fun b z0 z1 => by
      have := q1 (ix (pg M) b) (by have := ix_lt hw ⟨z0, z1⟩; omega)
      rw [ln_ix hw ⟨z0, z1⟩] at this
      exact this)
    clear h
    refine fr_go k28 [15] 400 rfl ?_
    repeat' (first | (refine And.intro (by first | omega | (simp (disch := decide) only [up_n, up_s, cp_n, rw_n, rw_s, up1_, if_true, if_false, ite_true, ite_false, reduceIte, eq_self, Int.reduceEq, true_and, and_true, not_true_eq_false, not_false_eq_true]; omega)) ?_) | (refine And.intro (fun hc => ?_) (fun hc => ?_) <;> (try (simp (disch := decide) only [up_n, up_s, cp_n, rw_n, rw_s, up1_, if_true, if_false, ite_true, ite_false, reduceIte, eq_self, Int.reduceEq, true_and, and_true, not_true_eq_false, not_false_eq_true] at hc)) <;> (try (exfalso; omega))) | (refine fun (hc : ¬ _) => ?_; try (simp (disch := decide) only [up_n, up_s, cp_n, rw_n, rw_s, up1_, if_true, if_false, ite_true, ite_false, reduceIte, eq_self, Int.reduceEq, true_and, and_true, not_true_eq_false, not_false_eq_true] at hc)) | (refine fun (hc : _ = _) => ?_; try (simp (disch := decide) only [up_n, up_s, cp_n, rw_n, rw_s, up1_, if_true, if_false, ite_true, ite_false, reduceIte, eq_self, Int.reduceEq, true_and, and_true, not_true_eq_false, not_false_eq_true] at hc)))
    all_goals first | (exfalso; omega) | exact hh
  | succ t ih =>
    intro k g q0 q1
    have hk : k < cN (pg M) := by omega
    have hr := ln_rng hw hk
    have hr2 : ln (pg M) k < M 75 4 := hr.2
    have e1 := hl k (by omega)
    have e2 := nx_ln hw hk
    have hh := ih (k + 1) (up1 g (ln (pg M) k) (nx (pg M) (ln (pg M) k))) (by omega) (fun j hj => by
      rw [up1_]
      by_cases e : j = k
      · rw [e, if_pos rfl]
      · rw [if_neg (fun q => e (ln_inj hw (by omega) hk q))]
        exact q1 j (by omega))
    have e1' : rw_ M 31 g 30 (k : Int) = ln (pg M) k := e1
    by_cases hlast : k + 1 < cN (pg M)
    · rw [if_pos hlast] at e2
      have e3 := hl (k + 1) (by omega)
      have e3' : rw_ M 31 g 30 ((k : Int) + 1) = ln (pg M) (k + 1) := e3
      rw [e2] at hh
      clear ih q1 hl h
      refine fr_go k28 [15] 400 rfl ?_
      repeat' (first | (refine And.intro (by first | omega | (simp (disch := decide) only [up_n, up_s, cp_n, rw_n, rw_s, up1_, if_true, if_false, ite_true, ite_false, reduceIte, eq_self, Int.reduceEq, true_and, and_true, not_true_eq_false, not_false_eq_true]; omega)) ?_) | (refine And.intro (fun hc => ?_) (fun hc => ?_) <;> (try (simp (disch := decide) only [up_n, up_s, cp_n, rw_n, rw_s, up1_, if_true, if_false, ite_true, ite_false, reduceIte, eq_self, Int.reduceEq, true_and, and_true, not_true_eq_false, not_false_eq_true] at hc)) <;> (try (exfalso; omega))) | (refine fun (hc : ¬ _) => ?_; try (simp (disch := decide) only [up_n, up_s, cp_n, rw_n, rw_s, up1_, if_true, if_false, ite_true, ite_false, reduceIte, eq_self, Int.reduceEq, true_and, and_true, not_true_eq_false, not_false_eq_true] at hc)) | (refine fun (hc : _ = _) => ?_; try (simp (disch := decide) only [up_n, up_s, cp_n, rw_n, rw_s, up1_, if_true, if_false, ite_true, ite_false, reduceIte, eq_self, Int.reduceEq, true_and, and_true, not_true_eq_false, not_false_eq_true] at hc)))
      all_goals first | (exfalso; omega) | skip
      rw [e1', e3']
      simp (disch := decide) only [up_rw, rw_u, up_up, rw_rw, rw_cm]
      exact hh
    · rw [if_neg hlast] at e2
      rw [e2] at hh
      clear ih q1 hl h
      refine fr_go k28 [15] 400 rfl ?_
      repeat' (first | (refine And.intro (by first | omega | (simp (disch := decide) only [up_n, up_s, cp_n, rw_n, rw_s, up1_, if_true, if_false, ite_true, ite_false, reduceIte, eq_self, Int.reduceEq, true_and, and_true, not_true_eq_false, not_false_eq_true]; omega)) ?_) | (refine And.intro (fun hc => ?_) (fun hc => ?_) <;> (try (simp (disch := decide) only [up_n, up_s, cp_n, rw_n, rw_s, up1_, if_true, if_false, ite_true, ite_false, reduceIte, eq_self, Int.reduceEq, true_and, and_true, not_true_eq_false, not_false_eq_true] at hc)) <;> (try (exfalso; omega))) | (refine fun (hc : ¬ _) => ?_; try (simp (disch := decide) only [up_n, up_s, cp_n, rw_n, rw_s, up1_, if_true, if_false, ite_true, ite_false, reduceIte, eq_self, Int.reduceEq, true_and, and_true, not_true_eq_false, not_false_eq_true] at hc)) | (refine fun (hc : _ = _) => ?_; try (simp (disch := decide) only [up_n, up_s, cp_n, rw_n, rw_s, up1_, if_true, if_false, ite_true, ite_false, reduceIte, eq_self, Int.reduceEq, true_and, and_true, not_true_eq_false, not_false_eq_true] at hc)))
      all_goals first | (exfalso; omega) | skip
      rw [e1']
      simp (disch := decide) only [up_rw, rw_u, up_up, rw_rw, rw_cm]
      exact hh
set_option maxHeartbeats 4000000 in
set_option maxRecDepth 100000 in
theorem c_lineUp {M : fr_M} {Q : Option fr_V → fr_H → fr_M → Prop} (hw : WF (pg M)) (h1 : P1 M) (h2 : P2 M) (h4 : P4 M) (o1 : O1 M) (s1 : S1 M) (h : ∀ g30 g31, (∀ k : Nat, (k : Int) < M 75 4 → g30 (k : Int) = ln (pg M) k) → (∀ b, 0 ≤ b → b < M 75 4 → g31 b = nx (pg M) b) → Q none sh0 (rw_ (rw_ M 30 g30) 31 g31)) : fr_Call 28 [.inr (.inl 29)] sh0 M Q := by
  obtain ⟨t1, t2, -⟩ := id s1
  have h40 : M 75 4 ≤ 40 := hw.1.1.2
  have hcN : (cN (pg M) : Int) = M 75 4 := by
    have h00 : 0 ≤ M 75 4 := hw.1.1.1
    show (((M 75 4).toNat : Nat) : Int) = M 75 4
    omega
  have hlr := len_row hw
  have hnx : ∀ g30, hd_ g30 (rowL (pg M)) → fr_Run 28 none 15 [some (.inr (.inl 29)), some (.inl (M 75 4)), some (.inl 0)] [] sh0 (rw_ M 30 g30) 0 0 Q := by
    intro g30 hg
    have hp : pg (rw_ M 30 g30) = pg M := pg_rw (by omega)
    have := c_lu_nx (M := rw_ M 30 g30) (Q := Q) (by rw [hp]; exact hw) (by rw [hp]; intro k hk; rw [rw_s]; exact hd_ln hw hg k hk) (by rw [hp]; intro g31 hg31; exact h g30 g31 (hd_ln hw hg) hg31) (M 75 4).toNat 0 (M 31) (by show ((0 : Nat) : Int) + _ = M 75 4; have := h1.2.2.2.2.1; omega) (fun j hj => absurd hj (by omega))
    exact q_run this (rw_id (M := rw_ M 30 g30) (k := 31))
  by_cases ha : M 75 13 = 1
  · have er : rowL (pg M) = out (pg M) 0 6 ++ out (pg M) 1 6 := by
      unfold rowL
      rw [if_pos (show pg M 75 13 = 1 from ha)]
    rw [er] at hlr hnx
    refine fr_cgo k28 [some (.inr (.inl 29)), none, none] 0 0 [15] 400 rfl rfl rfl rfl ?_
    refine c_luT (M := M) (w := 0) (base := []) h1 h2 h4 o1 s1 (Or.inl rfl) (by rw [List.nil_append]; rw [List.length_append] at hlr; omega) (fun j x hx => by cases j <;> cases hx) (fun g hg => ?_)
    rw [List.nil_append] at hg ⊢
    have hp : pg (rw_ M 30 g) = pg M := pg_rw (by omega)
    repeat' (first | (refine And.intro (by first | omega | (simp (disch := decide) only [up_n, up_s, cp_n, rw_n, rw_s, up1_, if_true, if_false, ite_true, ite_false, reduceIte, eq_self, Int.reduceEq, true_and, and_true, not_true_eq_false, not_false_eq_true]; omega)) ?_) | (refine And.intro (fun hc => ?_) (fun hc => ?_) <;> (try (simp (disch := decide) only [up_n, up_s, cp_n, rw_n, rw_s, up1_, if_true, if_false, ite_true, ite_false, reduceIte, eq_self, Int.reduceEq, true_and, and_true, not_true_eq_false, not_false_eq_true] at hc)) <;> (try (exfalso; omega))) | (refine fun (hc : ¬ _) => ?_; try (simp (disch := decide) only [up_n, up_s, cp_n, rw_n, rw_s, up1_, if_true, if_false, ite_true, ite_false, reduceIte, eq_self, Int.reduceEq, true_and, and_true, not_true_eq_false, not_false_eq_true] at hc)) | (refine fun (hc : _ = _) => ?_; try (simp (disch := decide) only [up_n, up_s, cp_n, rw_n, rw_s, up1_, if_true, if_false, ite_true, ite_false, reduceIte, eq_self, Int.reduceEq, true_and, and_true, not_true_eq_false, not_false_eq_true] at hc)))
    all_goals first | (exfalso; omega) | (exfalso; simp (disch := decide) only [up_n, up_s, cp_n, rw_n, rw_s, up1_, if_true, if_false, ite_true, ite_false, reduceIte, eq_self, Int.reduceEq, true_and, and_true, not_true_eq_false, not_false_eq_true] at *; omega) | skip
    refine c_luT (M := rw_ M 30 g) (w := 1) (base := out (pg M) 0 6) h1 h2 h4 o1 s1 (Or.inr ⟨rfl, ha⟩) (by rw [hp]; omega) (by rw [rw_at]; exact hg) (fun g' hg' => ?_)
    rw [hp] at hg' ⊢
    rw [rw_rw, hlr, hcN]
    repeat' (first | (refine And.intro (by first | omega | (simp (disch := decide) only [up_n, up_s, cp_n, rw_n, rw_s, up1_, if_true, if_false, ite_true, ite_false, reduceIte, eq_self, Int.reduceEq, true_and, and_true, not_true_eq_false, not_false_eq_true]; omega)) ?_) | (refine And.intro (fun hc => ?_) (fun hc => ?_) <;> (try (simp (disch := decide) only [up_n, up_s, cp_n, rw_n, rw_s, up1_, if_true, if_false, ite_true, ite_false, reduceIte, eq_self, Int.reduceEq, true_and, and_true, not_true_eq_false, not_false_eq_true] at hc)) <;> (try (exfalso; omega))) | (refine fun (hc : ¬ _) => ?_; try (simp (disch := decide) only [up_n, up_s, cp_n, rw_n, rw_s, up1_, if_true, if_false, ite_true, ite_false, reduceIte, eq_self, Int.reduceEq, true_and, and_true, not_true_eq_false, not_false_eq_true] at hc)) | (refine fun (hc : _ = _) => ?_; try (simp (disch := decide) only [up_n, up_s, cp_n, rw_n, rw_s, up1_, if_true, if_false, ite_true, ite_false, reduceIte, eq_self, Int.reduceEq, true_and, and_true, not_true_eq_false, not_false_eq_true] at hc)))
    all_goals first | (exfalso; omega) | exact hnx g' hg'
  · have er : rowL (pg M) = out (pg M) 0 6 := by
      unfold rowL
      rw [if_neg (show ¬ pg M 75 13 = 1 from ha), List.append_nil]
    rw [er] at hlr hnx
    refine fr_cgo k28 [some (.inr (.inl 29)), none, none] 0 0 [15] 400 rfl rfl rfl rfl ?_
    refine c_luT (M := M) (w := 0) (base := []) h1 h2 h4 o1 s1 (Or.inl rfl) (by rw [List.nil_append]; omega) (fun j x hx => by cases j <;> cases hx) (fun g hg => ?_)
    rw [List.nil_append] at hg ⊢
    rw [hlr, hcN]
    repeat' (first | (refine And.intro (by first | omega | (simp (disch := decide) only [up_n, up_s, cp_n, rw_n, rw_s, up1_, if_true, if_false, ite_true, ite_false, reduceIte, eq_self, Int.reduceEq, true_and, and_true, not_true_eq_false, not_false_eq_true]; omega)) ?_) | (refine And.intro (fun hc => ?_) (fun hc => ?_) <;> (try (simp (disch := decide) only [up_n, up_s, cp_n, rw_n, rw_s, up1_, if_true, if_false, ite_true, ite_false, reduceIte, eq_self, Int.reduceEq, true_and, and_true, not_true_eq_false, not_false_eq_true] at hc)) <;> (try (exfalso; omega))) | (refine fun (hc : ¬ _) => ?_; try (simp (disch := decide) only [up_n, up_s, cp_n, rw_n, rw_s, up1_, if_true, if_false, ite_true, ite_false, reduceIte, eq_self, Int.reduceEq, true_and, and_true, not_true_eq_false, not_false_eq_true] at hc)) | (refine fun (hc : _ = _) => ?_; try (simp (disch := decide) only [up_n, up_s, cp_n, rw_n, rw_s, up1_, if_true, if_false, ite_true, ite_false, reduceIte, eq_self, Int.reduceEq, true_and, and_true, not_true_eq_false, not_false_eq_true] at hc)))
    all_goals first | (exfalso; omega) | (exfalso; simp (disch := decide) only [up_n, up_s, cp_n, rw_n, rw_s, up1_, if_true, if_false, ite_true, ite_false, reduceIte, eq_self, Int.reduceEq, true_and, and_true, not_true_eq_false, not_false_eq_true] at *; omega) | exact hnx g hg
