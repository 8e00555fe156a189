set_option maxHeartbeats 4000000 in
set_option maxRecDepth 100000 in
theorem m_placeOf_l {M : fr_M} {b p : Int} {Q : Option fr_V → fr_H → fr_M → Prop} (hb : 0 ≤ b ∧ b < 40) (hr : 0 ≤ M 79 b ∧ M 79 b < 6) (hp : 0 ≤ p ∧ p < 9) (hat : M 78 (9 * M 79 b + p) = b) (hne : ∀ k, 0 ≤ k → k < p → M 78 (9 * M 79 b + k) ≠ b) (h : Q (some (.inl p)) sh0 M) : ∀ (t : Nat) (k : Int), 0 ≤ k → k + t = p → fr_Run 151 none 7 [some (.inr (.inl 75)), some (.inl b), some (.inl (M 79 b)), some (.inl k)] [] sh0 M 0 0 Q := by
  intro t
  induction t with
  | zero =>
    intro k h0 h1
    have e : k = p := by omega
    subst e
    refine fr_go k151 [7] 400 rfl ?_
    repeat' (first | (refine And.intro (by first | omega | (simp (disch := decide) only [up_n, up_s, if_true, if_false, ite_true, ite_false, reduceIte, not_true_eq_false, not_false_eq_true]; omega)) ?_) | (refine And.intro (fun hc => ?_) (fun hc => ?_) <;> (try (simp (disch := decide) only [up_n, up_s, if_true, if_false, ite_true, ite_false, reduceIte, not_true_eq_false, not_false_eq_true] at hc)) <;> (try (exfalso; omega))) | (refine fun (hc : ¬ _) => ?_; try (simp (disch := decide) only [up_n, up_s, if_true, if_false, ite_true, ite_false, reduceIte, not_true_eq_false, not_false_eq_true] at hc)) | (refine fun (hc : _ = _) => ?_; try (simp (disch := decide) only [up_n, up_s, if_true, if_false, ite_true, ite_false, reduceIte, not_true_eq_false, not_false_eq_true] at hc)))
    all_goals first | exact h | (exfalso; omega)
  | succ t ih =>
    intro k h0 h1
    have hq := hne k h0 (by omega)
    refine fr_go k151 [7] 400 rfl ?_
    repeat' (first | (refine And.intro (by first | omega | (simp (disch := decide) only [up_n, up_s, if_true, if_false, ite_true, ite_false, reduceIte, not_true_eq_false, not_false_eq_true]; omega)) ?_) | (refine And.intro (fun hc => ?_) (fun hc => ?_) <;> (try (simp (disch := decide) only [up_n, up_s, if_true, if_false, ite_true, ite_false, reduceIte, not_true_eq_false, not_false_eq_true] at hc)) <;> (try (exfalso; omega))) | (refine fun (hc : ¬ _) => ?_; try (simp (disch := decide) only [up_n, up_s, if_true, if_false, ite_true, ite_false, reduceIte, not_true_eq_false, not_false_eq_true] at hc)) | (refine fun (hc : _ = _) => ?_; try (simp (disch := decide) only [up_n, up_s, if_true, if_false, ite_true, ite_false, reduceIte, not_true_eq_false, not_false_eq_true] at hc)))
    all_goals first | exact ih (k + 1) (by omega) (by omega) | (exfalso; omega)
set_option maxHeartbeats 4000000 in
set_option maxRecDepth 100000 in
theorem m_placeOf {M : fr_M} {b : Int} {Q : Option fr_V → fr_H → fr_M → Prop} (h1 : P1 M) (h2 : P2 M) (h4 : P4 M) (o1 : O1 M) (o2 : O2 M) (hb : 0 ≤ b ∧ b < M 75 4) (h : Q (some (.inl (M 15 b))) sh0 M) : fr_Call 151 [.inr (.inl 75), .inl b] sh0 M Q := by
  obtain ⟨p1, p2, p3, p4, p5, p6⟩ := h1
  obtain ⟨e1, e2, e3, e4, e5, -⟩ := h4 b hb.1 hb.2
  obtain ⟨f1, f2, f3⟩ := o2 b hb.1 hb.2
  have e8 := h2 (M 79 b) e2 (by omega)
  refine fr_cgo k151 [some (.inr (.inl 75)), some (.inl b), none, none] 0 0 [7] 400 rfl rfl rfl rfl ?_
  repeat' (first | (refine And.intro (by first | omega | (simp (disch := decide) only [up_n, up_s, if_true, if_false, ite_true, ite_false, reduceIte, not_true_eq_false, not_false_eq_true]; omega)) ?_) | (refine And.intro (fun hc => ?_) (fun hc => ?_) <;> (try (simp (disch := decide) only [up_n, up_s, if_true, if_false, ite_true, ite_false, reduceIte, not_true_eq_false, not_false_eq_true] at hc)) <;> (try (exfalso; omega))) | (refine fun (hc : ¬ _) => ?_; try (simp (disch := decide) only [up_n, up_s, if_true, if_false, ite_true, ite_false, reduceIte, not_true_eq_false, not_false_eq_true] at hc)) | (refine fun (hc : _ = _) => ?_; try (simp (disch := decide) only [up_n, up_s, if_true, if_false, ite_true, ite_false, reduceIte, not_true_eq_false, not_false_eq_true] at hc)))
  refine m_placeOf_l (p := M 15 b) (by omega) (by omega) (by omega) f3 (fun k q0 q1 q2 => ?_) h (M 15 b).toNat 0 (by omega) (by omega)
  obtain ⟨-, -, -, -, g⟩ := o1 (M 79 b) k e2 (by omega) q0 (by omega)
  rw [q2] at g
  omega
set_option maxHeartbeats 4000000 in
set_option maxRecDepth 100000 in
theorem c_aboutWay {M : fr_M} {b a : Int} {Q : Option fr_V → fr_H → fr_M → Prop} (hb : 0 ≤ b ∧ b < 40) (ha : 6 ≤ a ∧ a ≤ 13) (h1 : (a - 6) % 4 < M 8 b → a < 10 → Q (some (.inl (M 11 (b * 4 + (a - 6) % 4)))) sh0 M) (h2 : (a - 6) % 4 < M 8 b → ¬ a < 10 → Q (some (.inl (M 12 (b * 4 + (a - 6) % 4)))) sh0 M) (h3 : ¬ (a - 6) % 4 < M 8 b → Q (some (.inl (-9))) sh0 M) : fr_Call 115 [.inr (.inl 0), .inl b, .inl a] sh0 M Q := by
  refine fr_cgo k115 [some (.inr (.inl 0)), some (.inl b), some (.inl a), none] 0 0 [] 400 rfl rfl rfl rfl ?_
  repeat' (first | (refine And.intro (by first | omega | (simp (disch := decide) only [up_n, up_s, if_true, if_false, ite_true, ite_false, reduceIte, not_true_eq_false, not_false_eq_true]; omega)) ?_) | (refine c_wayOf (by omega) (by omega) (fun hc => ?_) (fun hc => ?_) <;> (try (simp (disch := decide) only [up_n, up_s, if_true, if_false, ite_true, ite_false, reduceIte, not_true_eq_false, not_false_eq_true] at hc))) | (refine c_countOf (by omega) (by omega) (fun hc => ?_) (fun hc => ?_) <;> (try (simp (disch := decide) only [up_n, up_s, if_true, if_false, ite_true, ite_false, reduceIte, not_true_eq_false, not_false_eq_true] at hc))) | (refine And.intro (fun hc => ?_) (fun hc => ?_) <;> (try (simp (disch := decide) only [up_n, up_s, if_true, if_false, ite_true, ite_false, reduceIte, not_true_eq_false, not_false_eq_true] at hc)) <;> (try (exfalso; omega))) | (refine fun (hc : ¬ _) => ?_; try (simp (disch := decide) only [up_n, up_s, if_true, if_false, ite_true, ite_false, reduceIte, not_true_eq_false, not_false_eq_true] at hc)) | (refine fun (hc : _ = _) => ?_; try (simp (disch := decide) only [up_n, up_s, if_true, if_false, ite_true, ite_false, reduceIte, not_true_eq_false, not_false_eq_true] at hc)))
  all_goals first | (exfalso; omega) | exact h1 (by omega) (by omega) | exact h2 (by omega) (by omega) | exact h3 (by omega)
set_option maxHeartbeats 4000000 in
set_option maxRecDepth 100000 in
theorem op_about {n : Int} {M : fr_M} (hR : Rel n M) (hn : n ≤ 512) (a0 : Int) (a1 : Int) (g0 : fr_in a0) (g1 : fr_in a1) : Two 116 152 [.inl a0, .inl a1] M (Rel (n + 1)) := by
  obtain ⟨h0, h1, h2, h3, h4, h5, h6, h7, h8, o1, o2, o3, k1, k2, k3, k4, k5, t1, t2, s1, r1, r1', r2, r2', r3, r4, l⟩ := id hR
  obtain ⟨p1, p2, p3, p4, p5, p6⟩ := id h1
  have hN := hR.next
  by_cases hb : (0 ≤ a0 ∧ a0 < M 75 4) ∧ 0 ≤ a1 ∧ a1 ≤ 14
  · obtain ⟨hb, ha⟩ := hb
    obtain ⟨e1, e2, e3, e4, e5, e6, e7, e8, e9, e10, e11, e12⟩ := id (h4 a0 hb.1 hb.2)
    obtain ⟨f1, f2, f3, f4, f5, f6, f7, f8, f9, f10⟩ := id (h5 a0 hb.1 hb.2)
    have w0 := h6 a0 0 hb.1 hb.2 (by omega)
    have w1 := h6 a0 1 hb.1 hb.2 (by omega)
    have w2 := h6 a0 2 hb.1 hb.2 (by omega)
    have w3 := h6 a0 3 hb.1 hb.2 (by omega)
    have c0 := (h7 (4 * a0 + 0) (by omega) (by omega)).1
    have c1 := (h7 (4 * a0 + 1) (by omega) (by omega)).1
    have c2 := (h7 (4 * a0 + 2) (by omega) (by omega)).1
    have c3 := (h7 (4 * a0 + 3) (by omega) (by omega)).1
    have hpl : ∀ {Q : Option fr_V → fr_H → fr_M → Prop}, Q (some (.inl (M 15 a0))) sh0 M → fr_Call 151 [.inr (.inl 75), .inl a0] sh0 M Q := fun h => m_placeOf h1 h2 h4 o1 o2 hb h
    rw [Int.mul_comm 4 a0] at c0 c1 c2 c3
    clear h2 h3 h4 h5 h6 h7 h8 o1 o2 o3 k1 k2 k3 k4 k5 t1 t2 s1 r1 r1' r2 r2' r3 r4 l h1 hR
    refine Two.of ?_
    rcases (show a1 = 0 ∨ a1 = 1 ∨ a1 = 2 ∨ a1 = 3 ∨ a1 = 4 ∨ a1 = 5 ∨ a1 = 6 ∨ a1 = 7 ∨ a1 = 8 ∨ a1 = 9 ∨ a1 = 10 ∨ a1 = 11 ∨ a1 = 12 ∨ a1 = 13 ∨ a1 = 14 by omega) with rfl | rfl | rfl | rfl | rfl | rfl | rfl | rfl | rfl | rfl | rfl | rfl | rfl | rfl | rfl
    all_goals (refine fr_cgo k116 [some (.inr (.inl 0)), some (.inl a0), some (.inl _)] 0 0 [] 400 rfl rfl rfl rfl ?_)
    all_goals (repeat' (first | (refine And.intro (by first | omega | (simp (disch := decide) only [up_n, up_s, if_true, if_false, ite_true, ite_false, reduceIte, not_true_eq_false, not_false_eq_true]; omega)) ?_) | (refine c_isBlock (fun hc => ?_) (fun hc => ?_) <;> (try (simp (disch := decide) only [up_n, up_s, if_true, if_false, ite_true, ite_false, reduceIte, not_true_eq_false, not_false_eq_true] at hc))) | (refine c_asNumber (by omega) ?_) | (refine c_aboutWay (by omega) (by omega) (fun hc hd => ?_) (fun hc hd => ?_) (fun hc => ?_) <;> (try (simp (disch := decide) only [up_n, up_s, if_true, if_false, ite_true, ite_false, reduceIte, not_true_eq_false, not_false_eq_true] at hc))) | (refine And.intro (fun hc => ?_) (fun hc => ?_) <;> (try (simp (disch := decide) only [up_n, up_s, if_true, if_false, ite_true, ite_false, reduceIte, not_true_eq_false, not_false_eq_true] at hc)) <;> (try (exfalso; omega))) | (refine fun (hc : ¬ _) => ?_; try (simp (disch := decide) only [up_n, up_s, if_true, if_false, ite_true, ite_false, reduceIte, not_true_eq_false, not_false_eq_true] at hc)) | (refine fun (hc : _ = _) => ?_; try (simp (disch := decide) only [up_n, up_s, if_true, if_false, ite_true, ite_false, reduceIte, not_true_eq_false, not_false_eq_true] at hc))))
    all_goals first | (exfalso; omega) | refine ⟨rfl, _, rfl, ?_⟩
    all_goals (refine fr_cgo k152 [some (.inr (.inl 75)), some (.inl a0), some (.inl _), none] 0 0 [] 400 rfl rfl rfl rfl ?_)
    all_goals (repeat' (first | (refine And.intro (by first | omega | (simp (disch := decide) only [up_n, up_s, if_true, if_false, ite_true, ite_false, reduceIte, not_true_eq_false, not_false_eq_true]; omega)) ?_) | (refine m_isBlock (by first | omega | (simp (disch := decide) only [up_n, up_s, if_true, if_false, ite_true, ite_false, reduceIte, not_true_eq_false, not_false_eq_true]; omega)) (fun hc => ?_) (fun hc => ?_) <;> (try (simp (disch := decide) only [up_n, up_s, if_true, if_false, ite_true, ite_false, reduceIte, not_true_eq_false, not_false_eq_true] at hc))) | (refine m_in (fun hc => ?_) (fun hc => ?_) <;> (try (simp (disch := decide) only [up_n, up_s, if_true, if_false, ite_true, ite_false, reduceIte, not_true_eq_false, not_false_eq_true] at hc))) | (refine hpl ?_) | (refine And.intro (fun hc => ?_) (fun hc => ?_) <;> (try (simp (disch := decide) only [up_n, up_s, if_true, if_false, ite_true, ite_false, reduceIte, not_true_eq_false, not_false_eq_true] at hc)) <;> (try (exfalso; omega))) | (refine fun (hc : ¬ _) => ?_; try (simp (disch := decide) only [up_n, up_s, if_true, if_false, ite_true, ite_false, reduceIte, not_true_eq_false, not_false_eq_true] at hc)) | (refine fun (hc : _ = _) => ?_; try (simp (disch := decide) only [up_n, up_s, if_true, if_false, ite_true, ite_false, reduceIte, not_true_eq_false, not_false_eq_true] at hc))))
    all_goals first | (exfalso; omega) | exact ⟨rfl, rfl, hN⟩ | exact ⟨rfl, sv (by omega), hN⟩ | (refine ⟨rfl, sv ?_, hN⟩; simp only [Int.reduceSub, Int.reduceMod, Int.reduceAdd] at *; rw [Int.mul_comm 4 a0] at *; omega)
  · clear h2 h3 h4 h5 h6 h7 h8 o1 o2 o3 k1 k2 k3 k4 k5 t1 t2 s1 r1 r1' r2 r2' r3 r4 l h1 hR
    refine Two.of ?_
    refine fr_cgo k116 [some (.inr (.inl 0)), some (.inl a0), some (.inl a1)] 0 0 [] 400 rfl rfl rfl rfl ?_
    repeat' (first | (refine And.intro (by first | omega | (simp (disch := decide) only [up_n, up_s, if_true, if_false, ite_true, ite_false, reduceIte, not_true_eq_false, not_false_eq_true]; omega)) ?_) | (refine c_isBlock (fun hc => ?_) (fun hc => ?_) <;> (try (simp (disch := decide) only [up_n, up_s, if_true, if_false, ite_true, ite_false, reduceIte, not_true_eq_false, not_false_eq_true] at hc))) | (refine And.intro (fun hc => ?_) (fun hc => ?_) <;> (try (simp (disch := decide) only [up_n, up_s, if_true, if_false, ite_true, ite_false, reduceIte, not_true_eq_false, not_false_eq_true] at hc)) <;> (try (exfalso; omega))) | (refine fun (hc : ¬ _) => ?_; try (simp (disch := decide) only [up_n, up_s, if_true, if_false, ite_true, ite_false, reduceIte, not_true_eq_false, not_false_eq_true] at hc)) | (refine fun (hc : _ = _) => ?_; try (simp (disch := decide) only [up_n, up_s, if_true, if_false, ite_true, ite_false, reduceIte, not_true_eq_false, not_false_eq_true] at hc)))
    all_goals first | (exfalso; omega) | refine ⟨rfl, _, rfl, ?_⟩
    all_goals (refine fr_cgo k152 [some (.inr (.inl 75)), some (.inl a0), some (.inl a1), none] 0 0 [] 400 rfl rfl rfl rfl ?_)
    all_goals (repeat' (first | (refine And.intro (by first | omega | (simp (disch := decide) only [up_n, up_s, if_true, if_false, ite_true, ite_false, reduceIte, not_true_eq_false, not_false_eq_true]; omega)) ?_) | (refine m_isBlock (by first | omega | (simp (disch := decide) only [up_n, up_s, if_true, if_false, ite_true, ite_false, reduceIte, not_true_eq_false, not_false_eq_true]; omega)) (fun hc => ?_) (fun hc => ?_) <;> (try (simp (disch := decide) only [up_n, up_s, if_true, if_false, ite_true, ite_false, reduceIte, not_true_eq_false, not_false_eq_true] at hc))) | (refine m_in (fun hc => ?_) (fun hc => ?_) <;> (try (simp (disch := decide) only [up_n, up_s, if_true, if_false, ite_true, ite_false, reduceIte, not_true_eq_false, not_false_eq_true] at hc))) | (refine And.intro (fun hc => ?_) (fun hc => ?_) <;> (try (simp (disch := decide) only [up_n, up_s, if_true, if_false, ite_true, ite_false, reduceIte, not_true_eq_false, not_false_eq_true] at hc)) <;> (try (exfalso; omega))) | (refine fun (hc : ¬ _) => ?_; try (simp (disch := decide) only [up_n, up_s, if_true, if_false, ite_true, ite_false, reduceIte, not_true_eq_false, not_false_eq_true] at hc)) | (refine fun (hc : _ = _) => ?_; try (simp (disch := decide) only [up_n, up_s, if_true, if_false, ite_true, ite_false, reduceIte, not_true_eq_false, not_false_eq_true] at hc))))
    all_goals first | (exfalso; omega) | exact ⟨rfl, rfl, hN⟩
