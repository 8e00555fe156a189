def JR (n : Int) (s : JS) (X : fr_M) : Prop := (∀ i, 0 ≤ i → i < n → X 25 i = s.1 i ∧ X 26 i = s.2.1 i) ∧ (∀ e, 0 ≤ e → e < 2 * n → X 27 e = s.2.2.2 e)
set_option maxHeartbeats 4000000 in
set_option maxRecDepth 100000 in
theorem c_ja_l {N : fr_M} {r n : Int} {Q : Option fr_V → fr_H → fr_M → Prop} (hP : PC N) (hR : RC N r n) (h24 : N 24 5 = r ∧ N 24 6 = n) (h : ∀ X', (∀ k i, ¬ (25 ≤ k ∧ k ≤ 27) → X' k i = N k i) → JR n (jrun (pul N r) (tgt N r) (2 * n).toNat (2 * n).toNat) X' → Q none sh0 X') : ∀ (t k : Nat) (X : fr_M) (x2 x3 : Option fr_V), (k : Int) + t = 2 * n → (∀ k i, ¬ (25 ≤ k ∧ k ≤ 27) → X k i = N k i) → JR n (jrun (pul N r) (tgt N r) (2 * n).toNat k) X → fr_Run 15 none 2 [some (.inr (.inl 24)), some (.inl (k : Int)), x2, x3] [] sh0 X 0 0 Q := by
  have hr := hR.1
  have hn9 := hR.2.2.1
  have ht : ∀ e, 0 ≤ e → e < (((2 * n).toNat : Nat) : Int) → 0 < pul N r e → 0 ≤ tgt N r e ∧ tgt N r e < n := fun e e0 e1 hp => by
    have w := pul_w hR (e := e) (by omega) hp
    exact (hP.way hR (k := e / 2) (w := e % 2) (by omega) (by omega)).1
  intro t
  induction t with
  | zero =>
    intro k X x2 x3 q0 q1 q2
    have hh := h X q1 (by rw [show (2 * n).toNat = k by omega] at q2 ⊢; exact q2)
    have e24 : X 24 6 = n := by rw [q1 24 6 (by omega)]; exact h24.2
    clear h
    refine fr_go k15 [2] 400 rfl ?_
    repeat' (first | (refine And.intro (by first | omega | (simp (disch := decide) only [up_n, up_s, cp_n, rw_n, rw_s, up1_, if_true, if_false, ite_true, ite_false, reduceIte, eq_self, Int.reduceEq, true_and, and_true, not_true_eq_false, not_false_eq_true]; omega)) ?_) | (refine And.intro (fun hc => ?_) (fun hc => ?_) <;> (try (simp (disch := decide) only [up_n, up_s, cp_n, rw_n, rw_s, up1_, if_true, if_false, ite_true, ite_false, reduceIte, eq_self, Int.reduceEq, true_and, and_true, not_true_eq_false, not_false_eq_true] at hc)) <;> (try (exfalso; omega))) | (refine fun (hc : ¬ _) => ?_; try (simp (disch := decide) only [up_n, up_s, cp_n, rw_n, rw_s, up1_, if_true, if_false, ite_true, ite_false, reduceIte, eq_self, Int.reduceEq, true_and, and_true, not_true_eq_false, not_false_eq_true] at hc)) | (refine fun (hc : _ = _) => ?_; try (simp (disch := decide) only [up_n, up_s, cp_n, rw_n, rw_s, up1_, if_true, if_false, ite_true, ite_false, reduceIte, eq_self, Int.reduceEq, true_and, and_true, not_true_eq_false, not_false_eq_true] at hc)))
    all_goals first | (exfalso; omega) | exact hh
  | succ t ih =>
    intro k X x2 x3 q0 q1 q2
    have e24 : X 24 6 = n := by rw [q1 24 6 (by omega)]; exact h24.2
    have e25 : X 24 5 = r := by rw [q1 24 5 (by omega)]; exact h24.1
    have hPX : PC X := hP.cg (fun k i hk => q1 k i (by omega))
    have hRX : RC X r n := hR.cg (fun k i hk => q1 k i (by omega))
    have epu : pul X r = pul N r := funext (fun e => pul_cg (fun k i hk => q1 k i (by omega)))
    have ji := jrun_ji (n := n) (m := (2 * n).toNat) (pu := pul N r) (tg := tgt N r) (by omega) ht k
    refine fr_go k15 [2] 400 rfl ?_
    repeat' (first | (refine And.intro (by first | omega | (simp (disch := decide) only [up_n, up_s, cp_n, rw_n, rw_s, up1_, if_true, if_false, ite_true, ite_false, reduceIte, eq_self, Int.reduceEq, true_and, and_true, not_true_eq_false, not_false_eq_true]; omega)) ?_) | (refine And.intro (fun hc => ?_) (fun hc => ?_) <;> (try (simp (disch := decide) only [up_n, up_s, cp_n, rw_n, rw_s, up1_, if_true, if_false, ite_true, ite_false, reduceIte, eq_self, Int.reduceEq, true_and, and_true, not_true_eq_false, not_false_eq_true] at hc)) <;> (try (exfalso; omega))) | (refine fun (hc : ¬ _) => ?_; try (simp (disch := decide) only [up_n, up_s, cp_n, rw_n, rw_s, up1_, if_true, if_false, ite_true, ite_false, reduceIte, eq_self, Int.reduceEq, true_and, and_true, not_true_eq_false, not_false_eq_true] at hc)) | (refine fun (hc : _ = _) => ?_; try (simp (disch := decide) only [up_n, up_s, cp_n, rw_n, rw_s, up1_, if_true, if_false, ite_true, ite_false, reduceIte, eq_self, Int.reduceEq, true_and, and_true, not_true_eq_false, not_false_eq_true] at hc)))
    all_goals first | (exfalso; omega) | skip
    refine c_greatest (us := (jrun (pul N r) (tgt N r) (2 * n).toNat k).2.2.2) hPX hRX ⟨e25, e24⟩ q2.2 ?_
    rw [epu]
    rcases grt_b (pu := pul N r) (us := (jrun (pul N r) (tgt N r) (2 * n).toNat k).2.2.2) (2 * n).toNat with c | c
    · have hh := h X q1 (by rw [jrun_at (by omega) c.1]; exact q2)
      rw [c.1]
      clear h ih q2
      repeat' (first | (refine And.intro (by first | omega | (simp (disch := decide) only [up_n, up_s, cp_n, rw_n, rw_s, up1_, if_true, if_false, ite_true, ite_false, reduceIte, eq_self, Int.reduceEq, true_and, and_true, not_true_eq_false, not_false_eq_true]; omega)) ?_) | (refine And.intro (fun hc => ?_) (fun hc => ?_) <;> (try (simp (disch := decide) only [up_n, up_s, cp_n, rw_n, rw_s, up1_, if_true, if_false, ite_true, ite_false, reduceIte, eq_self, Int.reduceEq, true_and, and_true, not_true_eq_false, not_false_eq_true] at hc)) <;> (try (exfalso; omega))) | (refine fun (hc : ¬ _) => ?_; try (simp (disch := decide) only [up_n, up_s, cp_n, rw_n, rw_s, up1_, if_true, if_false, ite_true, ite_false, reduceIte, eq_self, Int.reduceEq, true_and, and_true, not_true_eq_false, not_false_eq_true] at hc)) | (refine fun (hc : _ = _) => ?_; try (simp (disch := decide) only [up_n, up_s, cp_n, rw_n, rw_s, up1_, if_true, if_false, ite_true, ite_false, reduceIte, eq_self, Int.reduceEq, true_and, and_true, not_true_eq_false, not_false_eq_true] at hc)))
      all_goals first | (exfalso; omega) | exact hh
    · have hnext : jrun (pul N r) (tgt N r) (2 * n).toNat (k + 1) = jstep (pul N r) (tgt N r) (2 * n).toNat (jrun (pul N r) (tgt N r) (2 * n).toNat k) := rfl
      rw [jstep, if_neg (by omega)] at hnext
      have hi := fun X' x2 x3 a1 a2 => ih (k + 1) X' x2 x3 (by omega) a1 a2
      rw [hnext, show ((k + 1 : Nat) : Int) = (k : Int) + 1 by omega] at hi
      clear ih h hnext
      have c1 := c.1
      have c2 : 0 < pul N r (grt (pul N r) (jrun (pul N r) (tgt N r) (2 * n).toNat k).2.2.2 (2 * n).toNat).1 := by rw [c.2.2.1]; exact c.2.2.2
      clear c
      generalize (grt (pul N r) (jrun (pul N r) (tgt N r) (2 * n).toNat k).2.2.2 (2 * n).toNat).1 = e at *
      generalize jrun (pul N r) (tgt N r) (2 * n).toNat k = s at *
      have w := pul_w hR (e := e) (by omega) c2
      have hway := hP.way hR (k := e / 2) (w := e % 2) (by omega) (by omega)
      have hbl := hR.bl (k := e / 2) (by omega)
      have h3 := (hP.2.2.1 r (e / 2) hr.1 hr.2 (by omega) (by rw [hR.2.1]; omega)).1
      have hb5 := (hP.2.2.2.2.1 (N 77 (9 * r + e / 2)) hbl.1.1 (hP.2.2.1 r (e / 2) hr.1 hr.2 (by omega) (by rw [hR.2.1]; omega)).2.2.1).2.2.2.1
      have x3 : X 3 (r * 9 + e / 2) = N 77 (9 * r + e / 2) := by rw [q1 3 _ (by omega)]; exact h3
      have x11 : X 11 (N 77 (9 * r + e / 2) * 4 + e % 2) = N 84 (4 * N 77 (9 * r + e / 2) + e % 2) := by rw [q1 11 _ (by omega)]; exact hway.2.2.2
      have x8 : X 8 (N 77 (9 * r + e / 2)) = N 83 (N 77 (9 * r + e / 2)) := by rw [q1 8 _ (by omega)]; exact hb5
      have x5 : X 5 (N 84 (4 * N 77 (9 * r + e / 2) + e % 2)) = tgt N r e := by rw [q1 5 _ (by omega)]; rfl
      have htg : 0 ≤ tgt N r e ∧ tgt N r e < n := hway.1
      have hj := fun Q' => c_join (X := fr_up X 27 e 1) (n := n) (a := e / 2) (b := tgt N r e) (fi := s.1) (fo := s.2.1) (pr := s.2.2.1) (Q := Q') ⟨e24, hn9⟩ (by omega) htg (fun i i0 i1 => q2.1 i i0 i1)
      have q22 := q2.2
      have w84 := hway.2.2.1
      clear hway h3 hb5 hPX hRX epu ji ht q2 hP
      repeat' (first | (refine And.intro (by first | omega | (simp (disch := decide) only [up_n, up_s, cp_n, rw_n, rw_s, up1_, if_true, if_false, ite_true, ite_false, reduceIte, eq_self, Int.reduceEq, true_and, and_true, not_true_eq_false, not_false_eq_true]; omega)) ?_) | (refine And.intro (fun hc => ?_) (fun hc => ?_) <;> (try (simp (disch := decide) only [up_n, up_s, cp_n, rw_n, rw_s, up1_, if_true, if_false, ite_true, ite_false, reduceIte, eq_self, Int.reduceEq, true_and, and_true, not_true_eq_false, not_false_eq_true] at hc)) <;> (try (exfalso; omega))) | (refine fun (hc : ¬ _) => ?_; try (simp (disch := decide) only [up_n, up_s, cp_n, rw_n, rw_s, up1_, if_true, if_false, ite_true, ite_false, reduceIte, eq_self, Int.reduceEq, true_and, and_true, not_true_eq_false, not_false_eq_true] at hc)) | (refine fun (hc : _ = _) => ?_; try (simp (disch := decide) only [up_n, up_s, cp_n, rw_n, rw_s, up1_, if_true, if_false, ite_true, ite_false, reduceIte, eq_self, Int.reduceEq, true_and, and_true, not_true_eq_false, not_false_eq_true] at hc)))
      all_goals first | (exfalso; omega) | skip
      all_goals (show fr_Call 8 _ sh0 _ _)
      rw [show fr_up X 27 e 1 24 5 = r from e25]
      refine c_ownBlock hr (by omega) ?_
      rw [show fr_up X 27 e 1 3 (r * 9 + e / 2) = N 77 (9 * r + e / 2) from x3]
      repeat' (first | (refine And.intro (by first | omega | (simp (disch := decide) only [up_n, up_s, cp_n, rw_n, rw_s, up1_, if_true, if_false, ite_true, ite_false, reduceIte, eq_self, Int.reduceEq, true_and, and_true, not_true_eq_false, not_false_eq_true]; omega)) ?_) | (refine And.intro (fun hc => ?_) (fun hc => ?_) <;> (try (simp (disch := decide) only [up_n, up_s, cp_n, rw_n, rw_s, up1_, if_true, if_false, ite_true, ite_false, reduceIte, eq_self, Int.reduceEq, true_and, and_true, not_true_eq_false, not_false_eq_true] at hc)) <;> (try (exfalso; omega))) | (refine fun (hc : ¬ _) => ?_; try (simp (disch := decide) only [up_n, up_s, cp_n, rw_n, rw_s, up1_, if_true, if_false, ite_true, ite_false, reduceIte, eq_self, Int.reduceEq, true_and, and_true, not_true_eq_false, not_false_eq_true] at hc)) | (refine fun (hc : _ = _) => ?_; try (simp (disch := decide) only [up_n, up_s, cp_n, rw_n, rw_s, up1_, if_true, if_false, ite_true, ite_false, reduceIte, eq_self, Int.reduceEq, true_and, and_true, not_true_eq_false, not_false_eq_true] at hc)))
      all_goals first | (exfalso; omega) | skip
      all_goals (show fr_Call 13 _ sh0 _ _)
      refine c_wayOf hbl.1 (by omega) (fun hc => ?_) (fun hc => ?_)
      · rw [show fr_up X 27 e 1 11 (N 77 (9 * r + e / 2) * 4 + e % 2) = N 84 (4 * N 77 (9 * r + e / 2) + e % 2) from x11]
        repeat' (first | (refine And.intro (by first | omega | (simp (disch := decide) only [up_n, up_s, cp_n, rw_n, rw_s, up1_, if_true, if_false, ite_true, ite_false, reduceIte, eq_self, Int.reduceEq, true_and, and_true, not_true_eq_false, not_false_eq_true]; omega)) ?_) | (refine And.intro (fun hc => ?_) (fun hc => ?_) <;> (try (simp (disch := decide) only [up_n, up_s, cp_n, rw_n, rw_s, up1_, if_true, if_false, ite_true, ite_false, reduceIte, eq_self, Int.reduceEq, true_and, and_true, not_true_eq_false, not_false_eq_true] at hc)) <;> (try (exfalso; omega))) | (refine fun (hc : ¬ _) => ?_; try (simp (disch := decide) only [up_n, up_s, cp_n, rw_n, rw_s, up1_, if_true, if_false, ite_true, ite_false, reduceIte, eq_self, Int.reduceEq, true_and, and_true, not_true_eq_false, not_false_eq_true] at hc)) | (refine fun (hc : _ = _) => ?_; try (simp (disch := decide) only [up_n, up_s, cp_n, rw_n, rw_s, up1_, if_true, if_false, ite_true, ite_false, reduceIte, eq_self, Int.reduceEq, true_and, and_true, not_true_eq_false, not_false_eq_true] at hc)))
        all_goals first | (exfalso; omega) | skip
        all_goals (show fr_Call 14 _ sh0 _ _)
        rw [show fr_up X 27 e 1 5 (N 84 (4 * N 77 (9 * r + e / 2) + e % 2)) = tgt N r e from x5]
        refine hj _ (fun X' f1 f2 => ?_)
        repeat' (first | (refine And.intro (by first | omega | (simp (disch := decide) only [up_n, up_s, cp_n, rw_n, rw_s, up1_, if_true, if_false, ite_true, ite_false, reduceIte, eq_self, Int.reduceEq, true_and, and_true, not_true_eq_false, not_false_eq_true]; omega)) ?_) | (refine And.intro (fun hc => ?_) (fun hc => ?_) <;> (try (simp (disch := decide) only [up_n, up_s, cp_n, rw_n, rw_s, up1_, if_true, if_false, ite_true, ite_false, reduceIte, eq_self, Int.reduceEq, true_and, and_true, not_true_eq_false, not_false_eq_true] at hc)) <;> (try (exfalso; omega))) | (refine fun (hc : ¬ _) => ?_; try (simp (disch := decide) only [up_n, up_s, cp_n, rw_n, rw_s, up1_, if_true, if_false, ite_true, ite_false, reduceIte, eq_self, Int.reduceEq, true_and, and_true, not_true_eq_false, not_false_eq_true] at hc)) | (refine fun (hc : _ = _) => ?_; try (simp (disch := decide) only [up_n, up_s, cp_n, rw_n, rw_s, up1_, if_true, if_false, ite_true, ite_false, reduceIte, eq_self, Int.reduceEq, true_and, and_true, not_true_eq_false, not_false_eq_true] at hc)))
        refine hi X' _ _ (fun k i hk => ?_) ⟨f2, fun e' e0 e1 => ?_⟩
        · rw [f1 k i (by omega), up_x (by omega), q1 k i hk]
        · rw [f1 27 e' (by omega)]
          show up1 (X 27) e 1 e' = up1 s.2.2.2 e 1 e'
          rw [up1_, up1_, q22 e' e0 e1]
      · exfalso
        apply hc
        show e % 2 < X 8 (N 77 (9 * r + e / 2))
        rw [x8]
        exact w.1
set_option maxHeartbeats 4000000 in
set_option maxRecDepth 100000 in
theorem c_joinAll {N : fr_M} {r n : Int} {Q : Option fr_V → fr_H → fr_M → Prop} (hP : PC N) (hR : RC N r n) (h24 : N 24 5 = r ∧ N 24 6 = n) (h0 : JR n (jrun (pul N r) (tgt N r) (2 * n).toNat 0) N) (h : ∀ X', (∀ k i, ¬ (25 ≤ k ∧ k ≤ 27) → X' k i = N k i) → JR n (jrun (pul N r) (tgt N r) (2 * n).toNat (2 * n).toNat) X' → Q none sh0 X') : fr_Call 15 [.inr (.inl 24)] sh0 N Q := by
  have hn9 := hR.2.2.1
  refine fr_cgo k15 [some (.inr (.inl 24)), none, none, none] 0 0 [2] 400 rfl rfl rfl rfl ?_
  repeat' (first | (refine And.intro (by first | omega | (simp (disch := decide) only [up_n, up_s, cp_n, rw_n, rw_s, up1_, if_true, if_false, ite_true, ite_false, reduceIte, eq_self, Int.reduceEq, true_and, and_true, not_true_eq_false, not_false_eq_true]; omega)) ?_) | (refine And.intro (fun hc => ?_) (fun hc => ?_) <;> (try (simp (disch := decide) only [up_n, up_s, cp_n, rw_n, rw_s, up1_, if_true, if_false, ite_true, ite_false, reduceIte, eq_self, Int.reduceEq, true_and, and_true, not_true_eq_false, not_false_eq_true] at hc)) <;> (try (exfalso; omega))) | (refine fun (hc : ¬ _) => ?_; try (simp (disch := decide) only [up_n, up_s, cp_n, rw_n, rw_s, up1_, if_true, if_false, ite_true, ite_false, reduceIte, eq_self, Int.reduceEq, true_and, and_true, not_true_eq_false, not_false_eq_true] at hc)) | (refine fun (hc : _ = _) => ?_; try (simp (disch := decide) only [up_n, up_s, cp_n, rw_n, rw_s, up1_, if_true, if_false, ite_true, ite_false, reduceIte, eq_self, Int.reduceEq, true_and, and_true, not_true_eq_false, not_false_eq_true] at hc)))
  exact c_ja_l hP hR h24 h (2 * n).toNat 0 N none none (by omega) (fun k i _ => rfl) h0
