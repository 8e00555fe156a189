theorem tgt_cg {p q : fr_M} {r e : Int} (h : ∀ k i, k = 5 ∨ k = 77 ∨ k = 84 → q k i = p k i) : tgt q r e = tgt p r e := by
  unfold tgt
  rw [h 77 _ (by omega), h 84 _ (by omega), h 5 _ (by omega)]
set_option maxHeartbeats 4000000 in
set_option maxRecDepth 100000 in
theorem m_jz_l {M : fr_M} {r : Int} {Q : Option fr_V → fr_H → fr_M → Prop} (h : ∀ g, (∀ i, 0 ≤ i → i < 160 → g i = 0) → fr_Run 169 none 14 [some (.inr (.inl 75)), some (.inl r), some (.inr (.inl 94)), some (.inl 160), none, none, none, none] [] sh0 (rw_ M 94 g) 0 0 Q) : ∀ (t : Nat) (i : Int) (g : Int → Int), 0 ≤ i → i + t = 160 → (∀ j, 0 ≤ j → j < i → g j = 0) → fr_Run 169 none 5 [some (.inr (.inl 75)), some (.inl r), some (.inr (.inl 94)), some (.inl i), none, none, none, none] [] sh0 (rw_ M 94 g) 0 0 Q := by
  intro t
  induction t with
  | zero =>
    intro i g q0 q1 q2
    have e : i = 160 := by omega
    subst e
    have hh := h g q2
    refine fr_go k169 [5, 14] 400 rfl ?_
    repeat' (first | (refine And.intro (by first | omega | (simp (disch := decide) only [up_n, up_s, cp_n, rw_n, rw_s, up1_, if_true, if_false, ite_true, ite_false, reduceIte, eq_self, Int.reduceEq, true_and, and_true, not_true_eq_false, not_false_eq_true]; omega)) ?_) | (refine And.intro (fun hc => ?_) (fun hc => ?_) <;> (try (simp (disch := decide) only [up_n, up_s, cp_n, rw_n, rw_s, up1_, if_true, if_false, ite_true, ite_false, reduceIte, eq_self, Int.reduceEq, true_and, and_true, not_true_eq_false, not_false_eq_true] at hc)) <;> (try (exfalso; omega))) | (refine fun (hc : ¬ _) => ?_; try (simp (disch := decide) only [up_n, up_s, cp_n, rw_n, rw_s, up1_, if_true, if_false, ite_true, ite_false, reduceIte, eq_self, Int.reduceEq, true_and, and_true, not_true_eq_false, not_false_eq_true] at hc)) | (refine fun (hc : _ = _) => ?_; try (simp (disch := decide) only [up_n, up_s, cp_n, rw_n, rw_s, up1_, if_true, if_false, ite_true, ite_false, reduceIte, eq_self, Int.reduceEq, true_and, and_true, not_true_eq_false, not_false_eq_true] at hc)))
    all_goals first | (exfalso; omega) | exact hh
  | succ t ih =>
    intro i g q0 q1 q2
    have hh := ih (i + 1) (up1 g i 0) (by omega) (by omega) (fun j y0 y1 => by
      rw [up1_]
      split
      · rfl
      · exact q2 j y0 (by omega))
    clear ih h
    refine fr_go k169 [5, 14] 400 rfl ?_
    repeat' (first | (refine And.intro (by first | omega | (simp (disch := decide) only [up_n, up_s, cp_n, rw_n, rw_s, up1_, if_true, if_false, ite_true, ite_false, reduceIte, eq_self, Int.reduceEq, true_and, and_true, not_true_eq_false, not_false_eq_true]; omega)) ?_) | (refine And.intro (fun hc => ?_) (fun hc => ?_) <;> (try (simp (disch := decide) only [up_n, up_s, cp_n, rw_n, rw_s, up1_, if_true, if_false, ite_true, ite_false, reduceIte, eq_self, Int.reduceEq, true_and, and_true, not_true_eq_false, not_false_eq_true] at hc)) <;> (try (exfalso; omega))) | (refine fun (hc : ¬ _) => ?_; try (simp (disch := decide) only [up_n, up_s, cp_n, rw_n, rw_s, up1_, if_true, if_false, ite_true, ite_false, reduceIte, eq_self, Int.reduceEq, true_and, and_true, not_true_eq_false, not_false_eq_true] at hc)) | (refine fun (hc : _ = _) => ?_; try (simp (disch := decide) only [up_n, up_s, cp_n, rw_n, rw_s, up1_, if_true, if_false, ite_true, ite_false, reduceIte, eq_self, Int.reduceEq, true_and, and_true, not_true_eq_false, not_false_eq_true] at hc)))
    all_goals first | (exfalso; omega) | skip
    simp (disch := decide) only [up_rw, rw_u, up_up, rw_rw, rw_cm]
    exact hh
set_option maxHeartbeats 4000000 in
set_option maxRecDepth 100000 in
theorem m_js_l {N : fr_M} {r n : Int} {Q : Option fr_V → fr_H → fr_M → Prop} (hP : PC N) (hR : RC N r n) (h : ∀ W', (∀ k i, ¬ (92 ≤ k ∧ k ≤ 94) → W' k i = N k i) → MJR n r (jrun (pul N r) (tgt N r) (2 * n).toNat (2 * n).toNat) W' → Q none sh0 W') : ∀ (t k : Nat) (W : fr_M) (v : Int) (x4 x5 x6 x7 : Option fr_V), k + t = (2 * n).toNat → v ≠ -9 → (∀ k i, ¬ (92 ≤ k ∧ k ≤ 94) → W k i = N k i) → MJR n r (jrun (pul N r) (tgt N r) (2 * n).toNat k) W → fr_Run 169 none 16 [some (.inr (.inl 75)), some (.inl r), some (.inr (.inl 94)), some (.inl v), x4, x5, x6, x7] [] sh0 W 0 0 Q := by
  have hn9 := hR.2.2.1
  have ht : ∀ e, 0 ≤ e → e < (((2 * n).toNat : Nat) : Int) → 0 < pul N r e → 0 ≤ tgt N r e ∧ tgt N r e < n := fun e e0 e1 hp => by
    have w := pul_w hR (e := e) (by omega) hp
    exact (hP.way hR (k := e / 2) (w := e % 2) (by omega) (by omega)).1
  intro t
  induction t with
  | zero =>
    intro k W v x4 x5 x6 x7 q0 q1 q2 q3
    have ji := jrun_ji (n := n) (m := (2 * n).toNat) (pu := pul N r) (tg := tgt N r) (by omega) ht k
    have epu : pul W r = pul N r := funext (fun e => pul_cg (fun k i hk => q2 k i (by omega)))
    have ee := jrun_end (pu := pul N r) (tg := tgt N r) (m := (2 * n).toNat)
    have ek : k = (2 * n).toNat := by omega
    rw [ek] at q3 ji
    refine m_jpass (n := n) (s := jrun (pul N r) (tgt N r) (2 * n).toNat (2 * n).toNat) (hP.cg (fun k i hk => q2 k i (by omega))) (hR.cg (fun k i hk => q2 k i (by omega))) ji q3 q1 (fun _ => h W q2 q3) (fun q => ?_)
    rw [epu] at q
    exact absurd ee q
  | succ t ih =>
    intro k W v x4 x5 x6 x7 q0 q1 q2 q3
    have ji := jrun_ji (n := n) (m := (2 * n).toNat) (pu := pul N r) (tg := tgt N r) (by omega) ht k
    have epu : pul W r = pul N r := funext (fun e => pul_cg (fun k i hk => q2 k i (by omega)))
    have etg : tgt W r = tgt N r := funext (fun e => tgt_cg (fun k i hk => q2 k i (by omega)))
    refine m_jpass (n := n) (s := jrun (pul N r) (tgt N r) (2 * n).toNat k) (hP.cg (fun k i hk => q2 k i (by omega))) (hR.cg (fun k i hk => q2 k i (by omega))) ji q3 q1 (fun q => h W q2 ?_) (fun q W' v' x4 x5 x6 x7 c1 c2 c3 => ?_)
    · rw [epu] at q
      rw [jrun_at (by omega) q]
      exact q3
    · rw [epu, etg] at c3
      exact ih (k + 1) W' v' x4 x5 x6 x7 (by omega) c1 (fun k i hk => by rw [c2 k i hk, q2 k i hk]) c3
set_option maxHeartbeats 4000000 in
set_option maxRecDepth 100000 in
theorem m_joins {N : fr_M} {r n : Int} {Q : Option fr_V → fr_H → fr_M → Prop} (hP : PC N) (hR : RC N r n) (h0 : ∀ i, 0 ≤ i → i < n → N 92 (N 77 (9 * r + i)) = -9 ∧ N 93 (N 77 (9 * r + i)) = -9) (h : ∀ W', (∀ k i, ¬ (92 ≤ k ∧ k ≤ 94) → W' k i = N k i) → MJR n r (jrun (pul N r) (tgt N r) (2 * n).toNat (2 * n).toNat) W' → Q none sh0 W') : fr_Call 169 [.inr (.inl 75), .inl r] sh0 N Q := by
  have hn9 := hR.2.2.1
  refine fr_cgo k169 [some (.inr (.inl 75)), some (.inl r), none, none, none, none, none, none] 0 0 [5] 400 rfl rfl rfl rfl ?_
  repeat' (first | (refine And.intro (by first | omega | (simp (disch := decide) only [up_n, up_s, cp_n, rw_n, rw_s, up1_, if_true, if_false, ite_true, ite_false, reduceIte, eq_self, Int.reduceEq, true_and, and_true, not_true_eq_false, not_false_eq_true]; omega)) ?_) | (refine And.intro (fun hc => ?_) (fun hc => ?_) <;> (try (simp (disch := decide) only [up_n, up_s, cp_n, rw_n, rw_s, up1_, if_true, if_false, ite_true, ite_false, reduceIte, eq_self, Int.reduceEq, true_and, and_true, not_true_eq_false, not_false_eq_true] at hc)) <;> (try (exfalso; omega))) | (refine fun (hc : ¬ _) => ?_; try (simp (disch := decide) only [up_n, up_s, cp_n, rw_n, rw_s, up1_, if_true, if_false, ite_true, ite_false, reduceIte, eq_self, Int.reduceEq, true_and, and_true, not_true_eq_false, not_false_eq_true] at hc)) | (refine fun (hc : _ = _) => ?_; try (simp (disch := decide) only [up_n, up_s, cp_n, rw_n, rw_s, up1_, if_true, if_false, ite_true, ite_false, reduceIte, eq_self, Int.reduceEq, true_and, and_true, not_true_eq_false, not_false_eq_true] at hc)))
  refine q_run (m_jz_l (M := N) (fun g hg => ?_) 160 0 (N 94) (by omega) (by omega) (fun j y0 y1 => by omega)) rw_id
  have hPg : PC (rw_ N 94 g) := hP.cg (fun k i hk => rw_n (by omega))
  have hRg : RC (rw_ N 94 g) r n := hR.cg (fun k i hk => rw_n (by omega))
  have hh := m_js_l (N := rw_ N 94 g) (r := r) (n := n) (Q := Q) hPg hRg (fun W' c1 c2 => h W' (fun k i hk => by rw [c1 k i hk, rw_n (by omega)]) (by
    rw [show pul (rw_ N 94 g) r = pul N r from rfl, show tgt (rw_ N 94 g) r = tgt N r from rfl] at c2
    exact c2)) (2 * n).toNat 0 (rw_ N 94 g) 0 none none none none (by omega) (by omega) (fun k i hk => rfl) ⟨fun i i0 i1 => h0 i i0 i1, fun e e0 e1 => by
    have b := hR.bl (k := e / 2) (by omega)
    exact hg (4 * N 77 (9 * r + e / 2) + e % 2) (by omega) (by omega)⟩
  clear h h0
  refine fr_go k169 [16] 400 rfl ?_
  repeat' (first | (refine And.intro (by first | omega | (simp (disch := decide) only [up_n, up_s, cp_n, rw_n, rw_s, up1_, if_true, if_false, ite_true, ite_false, reduceIte, eq_self, Int.reduceEq, true_and, and_true, not_true_eq_false, not_false_eq_true]; omega)) ?_) | (refine And.intro (fun hc => ?_) (fun hc => ?_) <;> (try (simp (disch := decide) only [up_n, up_s, cp_n, rw_n, rw_s, up1_, if_true, if_false, ite_true, ite_false, reduceIte, eq_self, Int.reduceEq, true_and, and_true, not_true_eq_false, not_false_eq_true] at hc)) <;> (try (exfalso; omega))) | (refine fun (hc : ¬ _) => ?_; try (simp (disch := decide) only [up_n, up_s, cp_n, rw_n, rw_s, up1_, if_true, if_false, ite_true, ite_false, reduceIte, eq_self, Int.reduceEq, true_and, and_true, not_true_eq_false, not_false_eq_true] at hc)) | (refine fun (hc : _ = _) => ?_; try (simp (disch := decide) only [up_n, up_s, cp_n, rw_n, rw_s, up1_, if_true, if_false, ite_true, ite_false, reduceIte, eq_self, Int.reduceEq, true_and, and_true, not_true_eq_false, not_false_eq_true] at hc)))
  exact hh
