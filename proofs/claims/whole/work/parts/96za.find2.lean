set_option maxHeartbeats 4000000 in
set_option maxRecDepth 100000 in
theorem c_fd2 {M : fr_M} {f : Int → Int → Int} {n t al : Int} {Q : Option fr_V → fr_H → fr_M → Prop} (hn : M 18 2 = n ∧ 0 < n ∧ n ≤ 9) (hp : PT f n n (M 19)) (hf : ∀ i j, 0 ≤ i → i < n → 0 ≤ f i j ∧ f i j ≤ 6000000) (ea : b2 (n - 1) - 1 = al) (ht : 0 ≤ t ∧ t < b2 (n - 1)) (h : ∀ g, CT_ f n g (t - 1) 0 → fr_Run 6 none 18 [some (.inr (.inl 20)), some (.inr (.inl 74)), some (.inl al), some (.inl (t - 1)), some (.inl n)] [] sh0 (rw_ M 21 g) 0 0 Q) : ∀ (u : Nat) (l : Int) (g : Int → Int), 0 ≤ l → l + u = n → CT_ f n g t l → fr_Run 6 none 22 [some (.inr (.inl 20)), some (.inr (.inl 74)), some (.inl al), some (.inl t), some (.inl l)] [] sh0 (rw_ M 21 g) 0 0 Q := by
  have h8 := b2_8 hn.2
  intro u
  induction u with
  | zero =>
    intro l g q0 q1 q2
    have e : l = n := by omega
    have hh := h g (fun t' l' a0 a1 c0 c1 hlt => q2 t' l' a0 a1 c0 c1 (by omega))
    rw [show t - 1 = t + -1 by omega] at hh
    clear h
    subst e
    refine fr_go k6 [18, 22] 400 rfl ?_
    repeat' (first | (refine And.intro (by first | omega | (simp (disch := decide) only [up_n, up_s, cp_n, rw_n, rw_s, up1_, if_true, if_false, ite_true, ite_false, reduceIte, eq_self, Int.reduceEq, true_and, and_true, not_true_eq_false, not_false_eq_true]; omega)) ?_) | (refine And.intro (fun hc => ?_) (fun hc => ?_) <;> (try (simp (disch := decide) only [up_n, up_s, cp_n, rw_n, rw_s, up1_, if_true, if_false, ite_true, ite_false, reduceIte, eq_self, Int.reduceEq, true_and, and_true, not_true_eq_false, not_false_eq_true] at hc)) <;> (try (exfalso; omega))) | (refine fun (hc : ¬ _) => ?_; try (simp (disch := decide) only [up_n, up_s, cp_n, rw_n, rw_s, up1_, if_true, if_false, ite_true, ite_false, reduceIte, eq_self, Int.reduceEq, true_and, and_true, not_true_eq_false, not_false_eq_true] at hc)) | (refine fun (hc : _ = _) => ?_; try (simp (disch := decide) only [up_n, up_s, cp_n, rw_n, rw_s, up1_, if_true, if_false, ite_true, ite_false, reduceIte, eq_self, Int.reduceEq, true_and, and_true, not_true_eq_false, not_false_eq_true] at hc)))
    all_goals first | (exfalso; omega) | exact hh
  | succ u ih =>
    intro l g q0 q1 q2
    have hl : 0 ≤ l ∧ l < n := by omega
    have st := q2.step hn.2 ht hl hf
    have hh := ih (l + 1) _ (by omega) (by omega) st.1
    have hv := q2.in_ hn.2 ht
    clear ih h q2
    refine fr_go k6 [18, 22] 400 rfl ?_
    repeat' (first | (refine And.intro (by first | omega | (simp (disch := decide) only [up_n, up_s, cp_n, rw_n, rw_s, up1_, if_true, if_false, ite_true, ite_false, reduceIte, eq_self, Int.reduceEq, true_and, and_true, not_true_eq_false, not_false_eq_true]; omega)) ?_) | (refine c_leastRest (f := f) (n := n) hn hp ht hl hf hv ea ?_) | (refine And.intro (fun hc => ?_) (fun hc => ?_) <;> (try (simp (disch := decide) only [up_n, up_s, cp_n, rw_n, rw_s, up1_, if_true, if_false, ite_true, ite_false, reduceIte, eq_self, Int.reduceEq, true_and, and_true, not_true_eq_false, not_false_eq_true] at hc)) <;> (try (exfalso; omega))) | (refine fun (hc : ¬ _) => ?_; try (simp (disch := decide) only [up_n, up_s, cp_n, rw_n, rw_s, up1_, if_true, if_false, ite_true, ite_false, reduceIte, eq_self, Int.reduceEq, true_and, and_true, not_true_eq_false, not_false_eq_true] at hc)) | (refine fun (hc : _ = _) => ?_; try (simp (disch := decide) only [up_n, up_s, cp_n, rw_n, rw_s, up1_, if_true, if_false, ite_true, ite_false, reduceIte, eq_self, Int.reduceEq, true_and, and_true, not_true_eq_false, not_false_eq_true] at hc)))
    all_goals first | (exfalso; omega) | skip
    simp (disch := decide) only [up_rw, rw_u, up_up, rw_rw, rw_cm]
    exact hh
set_option maxHeartbeats 4000000 in
set_option maxRecDepth 100000 in
theorem c_fd1 {M : fr_M} {f : Int → Int → Int} {n al : Int} {Q : Option fr_V → fr_H → fr_M → Prop} (hn : M 18 2 = n ∧ 0 < n ∧ n ≤ 9) (hp : PT f n n (M 19)) (hf : ∀ i j, 0 ≤ i → i < n → 0 ≤ f i j ∧ f i j ≤ 6000000) (ea : b2 (n - 1) - 1 = al) (h : ∀ g x4, CT_ f n g (-1) 0 → fr_Run 6 none 44 [some (.inr (.inl 20)), some (.inr (.inl 74)), some (.inl al), some (.inl (-1)), x4] [] sh0 (rw_ M 21 g) 0 0 Q) : ∀ (u : Nat) (t : Int) (g : Int → Int) (x4 : Option fr_V), t + 1 = (u : Int) → t < b2 (n - 1) → CT_ f n g t 0 → fr_Run 6 none 18 [some (.inr (.inl 20)), some (.inr (.inl 74)), some (.inl al), some (.inl t), x4] [] sh0 (rw_ M 21 g) 0 0 Q := by
  intro u
  induction u with
  | zero =>
    intro t g x4 q0 q1 q2
    have e : t = -1 := by omega
    subst e
    have hh := h g x4 q2
    clear h
    refine fr_go k6 [18, 44] 400 rfl ?_
    repeat' (first | (refine And.intro (by first | omega | (simp (disch := decide) only [up_n, up_s, cp_n, rw_n, rw_s, up1_, if_true, if_false, ite_true, ite_false, reduceIte, eq_self, Int.reduceEq, true_and, and_true, not_true_eq_false, not_false_eq_true]; omega)) ?_) | (refine And.intro (fun hc => ?_) (fun hc => ?_) <;> (try (simp (disch := decide) only [up_n, up_s, cp_n, rw_n, rw_s, up1_, if_true, if_false, ite_true, ite_false, reduceIte, eq_self, Int.reduceEq, true_and, and_true, not_true_eq_false, not_false_eq_true] at hc)) <;> (try (exfalso; omega))) | (refine fun (hc : ¬ _) => ?_; try (simp (disch := decide) only [up_n, up_s, cp_n, rw_n, rw_s, up1_, if_true, if_false, ite_true, ite_false, reduceIte, eq_self, Int.reduceEq, true_and, and_true, not_true_eq_false, not_false_eq_true] at hc)) | (refine fun (hc : _ = _) => ?_; try (simp (disch := decide) only [up_n, up_s, cp_n, rw_n, rw_s, up1_, if_true, if_false, ite_true, ite_false, reduceIte, eq_self, Int.reduceEq, true_and, and_true, not_true_eq_false, not_false_eq_true] at hc)))
    all_goals first | (exfalso; omega) | exact hh
  | succ u ih =>
    intro t g x4 q0 q1 q2
    have hh := c_fd2 (Q := Q) hn hp hf ea (t := t) (by omega) (fun g' hg' => ih (t - 1) g' _ (by omega) (by omega) hg') n.toNat 0 g (by omega) (by omega) q2
    clear ih h
    refine fr_go k6 [18, 22] 400 rfl ?_
    repeat' (first | (refine And.intro (by first | omega | (simp (disch := decide) only [up_n, up_s, cp_n, rw_n, rw_s, up1_, if_true, if_false, ite_true, ite_false, reduceIte, eq_self, Int.reduceEq, true_and, and_true, not_true_eq_false, not_false_eq_true]; omega)) ?_) | (refine And.intro (fun hc => ?_) (fun hc => ?_) <;> (try (simp (disch := decide) only [up_n, up_s, cp_n, rw_n, rw_s, up1_, if_true, if_false, ite_true, ite_false, reduceIte, eq_self, Int.reduceEq, true_and, and_true, not_true_eq_false, not_false_eq_true] at hc)) <;> (try (exfalso; omega))) | (refine fun (hc : ¬ _) => ?_; try (simp (disch := decide) only [up_n, up_s, cp_n, rw_n, rw_s, up1_, if_true, if_false, ite_true, ite_false, reduceIte, eq_self, Int.reduceEq, true_and, and_true, not_true_eq_false, not_false_eq_true] at hc)) | (refine fun (hc : _ = _) => ?_; try (simp (disch := decide) only [up_n, up_s, cp_n, rw_n, rw_s, up1_, if_true, if_false, ite_true, ite_false, reduceIte, eq_self, Int.reduceEq, true_and, and_true, not_true_eq_false, not_false_eq_true] at hc)))
    all_goals first | (exfalso; omega) | exact hh
set_option maxHeartbeats 4000000 in
set_option maxRecDepth 100000 in
theorem c_fd3 {M : fr_M} {f : Int → Int → Int} {n al : Int} {Q : Option fr_V → fr_H → fr_M → Prop} (hn : M 18 2 = n ∧ 0 < n ∧ n ≤ 9) (hp : PT f n n (M 19)) (hf : ∀ i j, 0 ≤ i → i < n → 0 ≤ f i j ∧ f i j ≤ 6000000) (hC : CT_ f n (M 21) (-1) 0) (h : ∀ g, WLK f (M 21) n g (n - 1).toNat → Q (some (.inl (M 21 0))) sh0 (rw_ M 74 g)) : ∀ (u k : Nat) (g : Int → Int), (k : Int) + u = n - 1 → WLK f (M 21) n g k → fr_Run 6 none 52 [some (.inr (.inl 20)), some (.inr (.inl 74)), some (.inl al), some (.inl (TS g k)), some (.inl ((k : Int) + 1))] [] sh0 (rw_ M 74 g) 0 0 Q := by
  have h8 := b2_8 hn.2
  intro u
  induction u with
  | zero =>
    intro k g q0 q1
    have hh := h g (by rw [show (n - 1).toNat = k by omega]; exact q1)
    clear h
    refine fr_go k6 [52] 400 rfl ?_
    repeat' (first | (refine And.intro (by first | omega | (simp (disch := decide) only [up_n, up_s, cp_n, rw_n, rw_s, up1_, if_true, if_false, ite_true, ite_false, reduceIte, eq_self, Int.reduceEq, true_and, and_true, not_true_eq_false, not_false_eq_true]; omega)) ?_) | (refine And.intro (fun hc => ?_) (fun hc => ?_) <;> (try (simp (disch := decide) only [up_n, up_s, cp_n, rw_n, rw_s, up1_, if_true, if_false, ite_true, ite_false, reduceIte, eq_self, Int.reduceEq, true_and, and_true, not_true_eq_false, not_false_eq_true] at hc)) <;> (try (exfalso; omega))) | (refine fun (hc : ¬ _) => ?_; try (simp (disch := decide) only [up_n, up_s, cp_n, rw_n, rw_s, up1_, if_true, if_false, ite_true, ite_false, reduceIte, eq_self, Int.reduceEq, true_and, and_true, not_true_eq_false, not_false_eq_true] at hc)) | (refine fun (hc : _ = _) => ?_; try (simp (disch := decide) only [up_n, up_s, cp_n, rw_n, rw_s, up1_, if_true, if_false, ite_true, ite_false, reduceIte, eq_self, Int.reduceEq, true_and, and_true, not_true_eq_false, not_false_eq_true] at hc)))
    all_goals first | (exfalso; omega) | exact hh
  | succ u ih =>
    intro k g q0 q1
    obtain ⟨i1, i2, i3, i4, i5⟩ := WLK.inv hn.2 q1 k (by omega)
    have hpa := pcn_all hn.2
    have hne : TS g k ≠ b2 (n - 1) - 1 := fun q => by rw [q, hpa] at i3; omega
    have hex := CT_.ex hn.2 hf hC i1 hne i4 i2
    have hC' : CT_ f n (M 21) (TS g k) 0 := fun t' l' a0 a1 c0 c1 hlt => hC t' l' a0 a1 c0 c1 (by omega)
    have hv := hC'.in_ hn.2 i1
    have hi := fun g' => ih (k + 1) g' (by omega)
    rw [show ((k + 1 : Nat) : Int) = (k : Int) + 1 by omega] at hi
    clear ih h hC'
    refine fr_go k6 [52] 400 rfl ?_
    repeat' (first | (refine And.intro (by first | omega | (simp (disch := decide) only [up_n, up_s, cp_n, rw_n, rw_s, up1_, if_true, if_false, ite_true, ite_false, reduceIte, eq_self, Int.reduceEq, true_and, and_true, not_true_eq_false, not_false_eq_true]; omega)) ?_) | (refine And.intro (fun hc => ?_) (fun hc => ?_) <;> (try (simp (disch := decide) only [up_n, up_s, cp_n, rw_n, rw_s, up1_, if_true, if_false, ite_true, ite_false, reduceIte, eq_self, Int.reduceEq, true_and, and_true, not_true_eq_false, not_false_eq_true] at hc)) <;> (try (exfalso; omega))) | (refine fun (hc : ¬ _) => ?_; try (simp (disch := decide) only [up_n, up_s, cp_n, rw_n, rw_s, up1_, if_true, if_false, ite_true, ite_false, reduceIte, eq_self, Int.reduceEq, true_and, and_true, not_true_eq_false, not_false_eq_true] at hc)) | (refine fun (hc : _ = _) => ?_; try (simp (disch := decide) only [up_n, up_s, cp_n, rw_n, rw_s, up1_, if_true, if_false, ite_true, ite_false, reduceIte, eq_self, Int.reduceEq, true_and, and_true, not_true_eq_false, not_false_eq_true] at hc)))
    all_goals first | (exfalso; omega) | skip
    all_goals (show fr_Call 5 _ sh0 _ _)
    simp (disch := decide) only [up_n, up_s, cp_n, rw_n, rw_s, up1_, if_true, if_false, ite_true, ite_false, reduceIte, eq_self, Int.reduceEq, true_and, and_true, not_true_eq_false, not_false_eq_true]
    rw [show (k : Int) + 1 - 1 = (k : Int) by omega]
    refine c_firstBest (M := rw_ M 74 g) (f := f) hn hp i1 i4 hf hv hex (fun x hx => ?_)
    have hx1 := hx.1
    have hx2 := hx.2.1
    have bt2 := (bit_and (s := TS g k) (k := x - 1) (by omega) (by omega)).2 hx2
    have hg' : WLK f (M 21) n (up1 g ((k : Int) + 1) x) (k + 1) := by
      refine ⟨by rw [up1_, if_neg (by omega)]; exact q1.1, fun j hj => ?_⟩
      rw [TS_cg (h := up1 g ((k : Int) + 1) x) (h' := g) j (fun i a0 a1 => by rw [up1_, if_neg (by omega)]), up1_, if_neg (by omega), up1_]
      by_cases e : j = k
      · rw [e, if_pos rfl]
        exact hx
      · rw [if_neg (by omega)]
        exact q1.2 j (by omega)
    have hh := hi _ hg'
    rw [TS, TS_cg (h := up1 g ((k : Int) + 1) x) (h' := g) k (fun i a0 a1 => by rw [up1_, if_neg (by omega)]), up1_, if_pos rfl] at hh
    clear hi hC hv hp hf hex hg' q1 hx
    repeat' (first | (refine And.intro (by first | omega | (simp (disch := decide) only [up_n, up_s, cp_n, rw_n, rw_s, up1_, if_true, if_false, ite_true, ite_false, reduceIte, eq_self, Int.reduceEq, true_and, and_true, not_true_eq_false, not_false_eq_true]; omega)) ?_) | (refine And.intro (fun hc => ?_) (fun hc => ?_) <;> (try (simp (disch := decide) only [up_n, up_s, cp_n, rw_n, rw_s, up1_, if_true, if_false, ite_true, ite_false, reduceIte, eq_self, Int.reduceEq, true_and, and_true, not_true_eq_false, not_false_eq_true] at hc)) <;> (try (exfalso; omega))) | (refine fun (hc : ¬ _) => ?_; try (simp (disch := decide) only [up_n, up_s, cp_n, rw_n, rw_s, up1_, if_true, if_false, ite_true, ite_false, reduceIte, eq_self, Int.reduceEq, true_and, and_true, not_true_eq_false, not_false_eq_true] at hc)) | (refine fun (hc : _ = _) => ?_; try (simp (disch := decide) only [up_n, up_s, cp_n, rw_n, rw_s, up1_, if_true, if_false, ite_true, ite_false, reduceIte, eq_self, Int.reduceEq, true_and, and_true, not_true_eq_false, not_false_eq_true] at hc)))
    all_goals first | (exfalso; omega) | skip
    all_goals (show fr_Call 1 _ sh0 _ _)
    simp (disch := decide) only [up_n, up_s, cp_n, rw_n, rw_s, up1_, if_true, if_false, ite_true, ite_false, reduceIte, eq_self, Int.reduceEq, true_and, and_true, not_true_eq_false, not_false_eq_true]
    refine c_bitOf (by omega) ?_
    repeat' (first | (refine And.intro (by first | omega | (simp (disch := decide) only [up_n, up_s, cp_n, rw_n, rw_s, up1_, if_true, if_false, ite_true, ite_false, reduceIte, eq_self, Int.reduceEq, true_and, and_true, not_true_eq_false, not_false_eq_true]; omega)) ?_) | (refine And.intro (fun hc => ?_) (fun hc => ?_) <;> (try (simp (disch := decide) only [up_n, up_s, cp_n, rw_n, rw_s, up1_, if_true, if_false, ite_true, ite_false, reduceIte, eq_self, Int.reduceEq, true_and, and_true, not_true_eq_false, not_false_eq_true] at hc)) <;> (try (exfalso; omega))) | (refine fun (hc : ¬ _) => ?_; try (simp (disch := decide) only [up_n, up_s, cp_n, rw_n, rw_s, up1_, if_true, if_false, ite_true, ite_false, reduceIte, eq_self, Int.reduceEq, true_and, and_true, not_true_eq_false, not_false_eq_true] at hc)) | (refine fun (hc : _ = _) => ?_; try (simp (disch := decide) only [up_n, up_s, cp_n, rw_n, rw_s, up1_, if_true, if_false, ite_true, ite_false, reduceIte, eq_self, Int.reduceEq, true_and, and_true, not_true_eq_false, not_false_eq_true] at hc)))
    rw [bt2.1]
    simp (disch := decide) only [up_rw, rw_u, up_up, rw_rw, rw_cm]
    exact hh
set_option maxHeartbeats 4000000 in
set_option maxRecDepth 100000 in
theorem c_find {M : fr_M} {f : Int → Int → Int} {n : Int} {Q : Option fr_V → fr_H → fr_M → Prop} (hn : M 18 2 = n ∧ 0 < n ∧ n ≤ 9) (hp : PT f n n (M 19)) (hf : ∀ i j, 0 ≤ i → i < n → 0 ≤ f i j ∧ f i j ≤ 6000000) (h : ∀ g21 g, CT_ f n g21 (-1) 0 → WLK f g21 n g (n - 1).toNat → Q (some (.inl (g21 0))) sh0 (rw_ (rw_ M 21 g21) 74 g)) : fr_Call 6 [.inr (.inl 20), .inr (.inl 74)] sh0 M Q := by
  have h8 := b2_8 hn.2
  have hs := bit_shl (k := n - 1) (by omega)
  have hd := c_fd1 (M := M) (f := f) (n := n) (al := b2 (n - 1) - 1) (Q := Q) hn hp hf rfl (fun g21 x4 hC => by
    have h3 := c_fd3 (M := rw_ M 21 g21) (f := f) (n := n) (al := b2 (n - 1) - 1) (Q := Q) hn hp hf hC (fun g hg => h g21 g hC hg) (n - 1).toNat 0 (up1 (M 74) 0 0) (by omega) ⟨by rw [up1_, if_pos rfl], fun k hk => absurd hk (by omega)⟩
    clear h
    refine fr_go k6 [52] 400 rfl ?_
    repeat' (first | (refine And.intro (by first | omega | (simp (disch := decide) only [up_n, up_s, cp_n, rw_n, rw_s, up1_, if_true, if_false, ite_true, ite_false, reduceIte, eq_self, Int.reduceEq, true_and, and_true, not_true_eq_false, not_false_eq_true]; omega)) ?_) | (refine And.intro (fun hc => ?_) (fun hc => ?_) <;> (try (simp (disch := decide) only [up_n, up_s, cp_n, rw_n, rw_s, up1_, if_true, if_false, ite_true, ite_false, reduceIte, eq_self, Int.reduceEq, true_and, and_true, not_true_eq_false, not_false_eq_true] at hc)) <;> (try (exfalso; omega))) | (refine fun (hc : ¬ _) => ?_; try (simp (disch := decide) only [up_n, up_s, cp_n, rw_n, rw_s, up1_, if_true, if_false, ite_true, ite_false, reduceIte, eq_self, Int.reduceEq, true_and, and_true, not_true_eq_false, not_false_eq_true] at hc)) | (refine fun (hc : _ = _) => ?_; try (simp (disch := decide) only [up_n, up_s, cp_n, rw_n, rw_s, up1_, if_true, if_false, ite_true, ite_false, reduceIte, eq_self, Int.reduceEq, true_and, and_true, not_true_eq_false, not_false_eq_true] at hc)))
    all_goals first | (exfalso; omega) | skip
    refine q_run h3 ?_
    exact ((rw_up (M := rw_ M 21 g21) (k := 74) (g := M 74) (i := 0) (v := 0)).symm).trans (congrArg (fun m => fr_up m 74 0 0) (rw_id (M := rw_ M 21 g21) (k := 74)))) (b2 (n - 1)).toNat (b2 (n - 1) - 1) (M 21) none (by omega) (by omega) (fun t' l' a0 a1 c0 c1 hlt => by omega)
  rw [← hs.1] at hd
  clear h
  have hs' : fr_shl 1 (M 18 2 - 1) = b2 (n - 1) := by
    rw [hn.1]
    exact hs.1
  refine fr_cgo k6 [some (.inr (.inl 20)), some (.inr (.inl 74)), none, none, none] 0 0 [18] 400 rfl rfl rfl rfl ?_
  repeat' (first | (refine And.intro (by first | omega | (simp (disch := decide) only [up_n, up_s, cp_n, rw_n, rw_s, up1_, if_true, if_false, ite_true, ite_false, reduceIte, eq_self, Int.reduceEq, true_and, and_true, not_true_eq_false, not_false_eq_true]; omega)) ?_) | (refine And.intro (fun hc => ?_) (fun hc => ?_) <;> (try (simp (disch := decide) only [up_n, up_s, cp_n, rw_n, rw_s, up1_, if_true, if_false, ite_true, ite_false, reduceIte, eq_self, Int.reduceEq, true_and, and_true, not_true_eq_false, not_false_eq_true] at hc)) <;> (try (exfalso; omega))) | (refine fun (hc : ¬ _) => ?_; try (simp (disch := decide) only [up_n, up_s, cp_n, rw_n, rw_s, up1_, if_true, if_false, ite_true, ite_false, reduceIte, eq_self, Int.reduceEq, true_and, and_true, not_true_eq_false, not_false_eq_true] at hc)) | (refine fun (hc : _ = _) => ?_; try (simp (disch := decide) only [up_n, up_s, cp_n, rw_n, rw_s, up1_, if_true, if_false, ite_true, ite_false, reduceIte, eq_self, Int.reduceEq, true_and, and_true, not_true_eq_false, not_false_eq_true] at hc)))
  all_goals first | (exfalso; omega) | skip
  rw [hn.1]
  exact q_run hd rw_id
