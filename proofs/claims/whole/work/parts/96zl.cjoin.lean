theorem pul_cg {p q : fr_M} {r e : Int} (h : ∀ k i, (76 ≤ k ∧ k ≤ 77) ∨ (82 ≤ k ∧ k ≤ 85) → q k i = p k i) : pul q r e = pul p r e := by
  unfold pul
  rw [h 77 _ (by omega), h 82 _ (by omega), h 85 _ (by omega)]
theorem pul_b {p : fr_M} {r n e : Int} (h : RC p r n) (he : 0 ≤ e ∧ e < 2 * n) : 0 ≤ pul p r e ∧ pul p r e ≤ 1000000 := by
  have a := h.bl (k := e / 2) (by omega)
  have b := h.2.2.2.2.2 (4 * p 77 (9 * r + e / 2) + e % 2) (by omega) (by omega)
  unfold pul
  split <;> omega
theorem pul_w {p : fr_M} {r n e : Int} (h : RC p r n) (he : 0 ≤ e ∧ e < 2 * n) (hp : 0 < pul p r e) : e % 2 < p 83 (p 77 (9 * r + e / 2)) ∧ p 85 (4 * p 77 (9 * r + e / 2) + e % 2) = pul p r e ∧ (p 82 (p 77 (9 * r + e / 2)) = 3 ∨ (e % 2 = 0 ∧ (p 82 (p 77 (9 * r + e / 2)) = 2 ∨ p 82 (p 77 (9 * r + e / 2)) = 5 ∨ p 82 (p 77 (9 * r + e / 2)) = 6))) := by
  obtain ⟨-, -, -, b4, b5, -⟩ := h.2.2.2.1 (e / 2) (by omega) (by omega)
  unfold pul at hp ⊢
  split at hp
  · next q =>
    rw [if_pos q]
    refine ⟨?_, rfl, q⟩
    rcases q with q | q
    · have := b5 q
      omega
    · have := b4 q.2
      omega
  · omega
theorem PC.way {M : fr_M} (h : PC M) {r n : Int} (hR : RC M r n) {k w : Int} (hk : 0 ≤ k ∧ k < n) (hw : 0 ≤ w ∧ w < M 83 (M 77 (9 * r + k))) : (0 ≤ M 5 (M 84 (4 * M 77 (9 * r + k) + w)) ∧ M 5 (M 84 (4 * M 77 (9 * r + k) + w)) < n) ∧ M 77 (9 * r + M 5 (M 84 (4 * M 77 (9 * r + k) + w))) = M 84 (4 * M 77 (9 * r + k) + w) ∧ (0 ≤ M 84 (4 * M 77 (9 * r + k) + w) ∧ M 84 (4 * M 77 (9 * r + k) + w) < 40) ∧ M 11 (M 77 (9 * r + k) * 4 + w) = M 84 (4 * M 77 (9 * r + k) + w) := by
  obtain ⟨h1, h2, h3, h4, h5, h6, h7⟩ := h
  have hr := hR.1
  have hm := hR.2.1
  have p4 := h1.2.2.2.2.2
  have a := h3 r k hr.1 hr.2 hk.1 (by omega)
  have c := h6 (M 77 (9 * r + k)) w a.2.1 a.2.2.1 hw.1 hw.2
  have d := h4 (M 84 (4 * M 77 (9 * r + k) + w)) c.2.1 c.2.2.1
  have e1 : M 79 (M 84 (4 * M 77 (9 * r + k) + w)) = r := c.2.2.2.trans a.2.2.2.1
  rw [e1, hm] at d
  exact ⟨⟨d.2.2.2.1, d.2.2.2.2.1⟩, d.2.2.2.2.2.1, ⟨c.2.1, by omega⟩, c.1⟩
set_option maxHeartbeats 4000000 in
set_option maxRecDepth 100000 in
theorem c_pull {X : fr_M} {r n e : Int} {Q : Option fr_V → fr_H → fr_M → Prop} (hP : PC X) (hR : RC X r n) (h24 : X 24 5 = r) (he : 0 ≤ e ∧ e < 2 * n) (h : Q (some (.inl (pul X r e))) sh0 X) : fr_Call 11 [.inr (.inl 24), .inl e] sh0 X Q := by
  have hr := hR.1
  have hn9 := hR.2.2.1
  obtain ⟨h1, h2, h3, h4, h5, h6, h7⟩ := hP
  have p4 := h1.2.2.2.2.2
  have a := h3 r (e / 2) hr.1 hr.2 (by omega) (by rw [hR.2.1]; omega)
  obtain ⟨-, -, -, b4, b5, -⟩ := hR.2.2.2.1 (e / 2) (by omega) (by omega)
  obtain ⟨a1, a2, a3, a4, -⟩ := h5 (X 77 (9 * r + e / 2)) a.2.1 a.2.2.1
  have c0 := (h7 (4 * X 77 (9 * r + e / 2) + e % 2) (by omega) (by omega))
  unfold pul at h
  have e3 := a.1
  have hbb : 0 ≤ X 77 (9 * r + e / 2) ∧ X 77 (9 * r + e / 2) < 40 := by omega
  rw [show 4 * X 77 (9 * r + e / 2) + e % 2 = X 77 (9 * r + e / 2) * 4 + e % 2 by omega] at c0 h
  have hw01 : e % 2 = 0 ∨ e % 2 = 1 := by omega
  have hdiv : 0 ≤ e / 2 ∧ e / 2 < 9 := by omega
  have b4' : X 7 (X 77 (9 * r + e / 2)) = 2 ∨ X 7 (X 77 (9 * r + e / 2)) = 5 ∨ X 7 (X 77 (9 * r + e / 2)) = 6 → 1 ≤ X 8 (X 77 (9 * r + e / 2)) := fun q => by
    rw [a4]
    rw [a1] at q
    exact b4 q
  have b5' : X 7 (X 77 (9 * r + e / 2)) = 3 → 2 ≤ X 8 (X 77 (9 * r + e / 2)) := fun q => by
    rw [a4]
    rw [a1] at q
    exact b5 q
  rw [← a1, ← c0.1] at h
  clear b4 b5 h1 h2 h3 h4 h5 h6 h7 a hR
  generalize X 77 (9 * r + e / 2) = b at *
  refine fr_cgo k11 [some (.inr (.inl 24)), some (.inl e), none, none, none] 0 0 [] 400 rfl rfl rfl rfl ?_
  repeat' (first | (refine And.intro (by first | omega | (simp (disch := decide) only [up_n, up_s, cp_n, rw_n, rw_s, up1_, if_true, if_false, ite_true, ite_false, reduceIte, eq_self, Int.reduceEq, true_and, and_true, not_true_eq_false, not_false_eq_true]; omega)) ?_) | (refine And.intro (fun hc => ?_) (fun hc => ?_) <;> (try (simp (disch := decide) only [up_n, up_s, cp_n, rw_n, rw_s, up1_, if_true, if_false, ite_true, ite_false, reduceIte, eq_self, Int.reduceEq, true_and, and_true, not_true_eq_false, not_false_eq_true] at hc)) <;> (try (exfalso; omega))) | (refine fun (hc : ¬ _) => ?_; try (simp (disch := decide) only [up_n, up_s, cp_n, rw_n, rw_s, up1_, if_true, if_false, ite_true, ite_false, reduceIte, eq_self, Int.reduceEq, true_and, and_true, not_true_eq_false, not_false_eq_true] at hc)) | (refine fun (hc : _ = _) => ?_; try (simp (disch := decide) only [up_n, up_s, cp_n, rw_n, rw_s, up1_, if_true, if_false, ite_true, ite_false, reduceIte, eq_self, Int.reduceEq, true_and, and_true, not_true_eq_false, not_false_eq_true] at hc)))
  all_goals first | (exfalso; omega) | skip
  rw [h24]
  refine c_ownBlock hr hdiv ?_
  rw [e3]
  repeat' (first | (refine And.intro (by first | omega | (simp (disch := decide) only [up_n, up_s, cp_n, rw_n, rw_s, up1_, if_true, if_false, ite_true, ite_false, reduceIte, eq_self, Int.reduceEq, true_and, and_true, not_true_eq_false, not_false_eq_true]; omega)) ?_) | (refine c_goesOn hbb (fun hc => ?_) (fun hc => ?_) <;> (try (simp (disch := decide) only [up_n, up_s, cp_n, rw_n, rw_s, up1_, if_true, if_false, ite_true, ite_false, reduceIte, eq_self, Int.reduceEq, true_and, and_true, not_true_eq_false, not_false_eq_true] at hc))) | (refine c_countOf hbb (by omega) (fun hc => ?_) (fun hc => ?_) <;> (try (simp (disch := decide) only [up_n, up_s, cp_n, rw_n, rw_s, up1_, if_true, if_false, ite_true, ite_false, reduceIte, eq_self, Int.reduceEq, true_and, and_true, not_true_eq_false, not_false_eq_true] at hc))) | (refine And.intro (fun hc => ?_) (fun hc => ?_) <;> (try (simp (disch := decide) only [up_n, up_s, cp_n, rw_n, rw_s, up1_, if_true, if_false, ite_true, ite_false, reduceIte, eq_self, Int.reduceEq, true_and, and_true, not_true_eq_false, not_false_eq_true] at hc)) <;> (try (exfalso; omega))) | (refine fun (hc : ¬ _) => ?_; try (simp (disch := decide) only [up_n, up_s, cp_n, rw_n, rw_s, up1_, if_true, if_false, ite_true, ite_false, reduceIte, eq_self, Int.reduceEq, true_and, and_true, not_true_eq_false, not_false_eq_true] at hc)) | (refine fun (hc : _ = _) => ?_; try (simp (disch := decide) only [up_n, up_s, cp_n, rw_n, rw_s, up1_, if_true, if_false, ite_true, ite_false, reduceIte, eq_self, Int.reduceEq, true_and, and_true, not_true_eq_false, not_false_eq_true] at hc)))
  all_goals first | (exfalso; omega) | (rw [if_pos (by omega)] at h; exact h) | (rw [if_neg (by omega)] at h; exact h)
set_option maxHeartbeats 4000000 in
set_option maxRecDepth 100000 in
theorem c_gr_l {X : fr_M} {r n : Int} {us : Int → Int} {Q : Option fr_V → fr_H → fr_M → Prop} (hP : PC X) (hR : RC X r n) (h24 : X 24 5 = r ∧ X 24 6 = n) (hu : ∀ e, 0 ≤ e → e < 2 * n → X 27 e = us e) (h : Q (some (.inl (grt (pul X r) us (2 * n).toNat).1)) sh0 X) : ∀ (t k : Nat) (x4 : Option fr_V), (k : Int) + t = 2 * n → fr_Run 12 none 6 [some (.inr (.inl 24)), some (.inl (grt (pul X r) us k).1), some (.inl (grt (pul X r) us k).2), some (.inl (k : Int)), x4] [] sh0 X 0 0 Q := by
  have hn9 := hR.2.2.1
  intro t
  induction t with
  | zero =>
    intro k x4 q0
    rw [show (2 * n).toNat = k by omega] at h
    refine fr_go k12 [6] 400 rfl ?_
    repeat' (first | (refine And.intro (by first | omega | (simp (disch := decide) only [up_n, up_s, cp_n, rw_n, rw_s, up1_, if_true, if_false, ite_true, ite_false, reduceIte, eq_self, Int.reduceEq, true_and, and_true, not_true_eq_false, not_false_eq_true]; omega)) ?_) | (refine And.intro (fun hc => ?_) (fun hc => ?_) <;> (try (simp (disch := decide) only [up_n, up_s, cp_n, rw_n, rw_s, up1_, if_true, if_false, ite_true, ite_false, reduceIte, eq_self, Int.reduceEq, true_and, and_true, not_true_eq_false, not_false_eq_true] at hc)) <;> (try (exfalso; omega))) | (refine fun (hc : ¬ _) => ?_; try (simp (disch := decide) only [up_n, up_s, cp_n, rw_n, rw_s, up1_, if_true, if_false, ite_true, ite_false, reduceIte, eq_self, Int.reduceEq, true_and, and_true, not_true_eq_false, not_false_eq_true] at hc)) | (refine fun (hc : _ = _) => ?_; try (simp (disch := decide) only [up_n, up_s, cp_n, rw_n, rw_s, up1_, if_true, if_false, ite_true, ite_false, reduceIte, eq_self, Int.reduceEq, true_and, and_true, not_true_eq_false, not_false_eq_true] at hc)))
    all_goals first | (exfalso; omega) | exact h
  | succ t ih =>
    intro k x4 q0
    have hh := fun x4 => ih (k + 1) x4 (by omega)
    have huk := hu (k : Int) (by omega) (by omega)
    have hpb := pul_b hR (e := (k : Int)) (by omega)
    rw [grt, show ((k + 1 : Nat) : Int) = (k : Int) + 1 by omega] at hh
    have h24' := h24.1
    by_cases eu : us (k : Int) ≠ 0
    · have es : siz (pul X r) us (k : Int) = 0 := by
        unfold siz
        rw [if_pos eu]
      rw [es] at hh
      clear ih h hu
      by_cases c : (0 : Int) > (grt (pul X r) us k).2
      · rw [if_pos c] at hh
        refine fr_go k12 [6] 400 rfl ?_
        repeat' (first | (refine And.intro (by first | omega | (simp (disch := decide) only [up_n, up_s, cp_n, rw_n, rw_s, up1_, if_true, if_false, ite_true, ite_false, reduceIte, eq_self, Int.reduceEq, true_and, and_true, not_true_eq_false, not_false_eq_true]; omega)) ?_) | (refine And.intro (fun hc => ?_) (fun hc => ?_) <;> (try (simp (disch := decide) only [up_n, up_s, cp_n, rw_n, rw_s, up1_, if_true, if_false, ite_true, ite_false, reduceIte, eq_self, Int.reduceEq, true_and, and_true, not_true_eq_false, not_false_eq_true] at hc)) <;> (try (exfalso; omega))) | (refine fun (hc : ¬ _) => ?_; try (simp (disch := decide) only [up_n, up_s, cp_n, rw_n, rw_s, up1_, if_true, if_false, ite_true, ite_false, reduceIte, eq_self, Int.reduceEq, true_and, and_true, not_true_eq_false, not_false_eq_true] at hc)) | (refine fun (hc : _ = _) => ?_; try (simp (disch := decide) only [up_n, up_s, cp_n, rw_n, rw_s, up1_, if_true, if_false, ite_true, ite_false, reduceIte, eq_self, Int.reduceEq, true_and, and_true, not_true_eq_false, not_false_eq_true] at hc)))
        all_goals first | (exfalso; omega) | exact hh _
      · rw [if_neg c] at hh
        refine fr_go k12 [6] 400 rfl ?_
        repeat' (first | (refine And.intro (by first | omega | (simp (disch := decide) only [up_n, up_s, cp_n, rw_n, rw_s, up1_, if_true, if_false, ite_true, ite_false, reduceIte, eq_self, Int.reduceEq, true_and, and_true, not_true_eq_false, not_false_eq_true]; omega)) ?_) | (refine And.intro (fun hc => ?_) (fun hc => ?_) <;> (try (simp (disch := decide) only [up_n, up_s, cp_n, rw_n, rw_s, up1_, if_true, if_false, ite_true, ite_false, reduceIte, eq_self, Int.reduceEq, true_and, and_true, not_true_eq_false, not_false_eq_true] at hc)) <;> (try (exfalso; omega))) | (refine fun (hc : ¬ _) => ?_; try (simp (disch := decide) only [up_n, up_s, cp_n, rw_n, rw_s, up1_, if_true, if_false, ite_true, ite_false, reduceIte, eq_self, Int.reduceEq, true_and, and_true, not_true_eq_false, not_false_eq_true] at hc)) | (refine fun (hc : _ = _) => ?_; try (simp (disch := decide) only [up_n, up_s, cp_n, rw_n, rw_s, up1_, if_true, if_false, ite_true, ite_false, reduceIte, eq_self, Int.reduceEq, true_and, and_true, not_true_eq_false, not_false_eq_true] at hc)))
        all_goals first | (exfalso; omega) | exact hh _
    · have es : siz (pul X r) us (k : Int) = pul X r (k : Int) := by
        unfold siz
        rw [if_neg eu]
      rw [es] at hh
      clear ih h hu
      by_cases c : pul X r (k : Int) > (grt (pul X r) us k).2
      · rw [if_pos c] at hh
        refine fr_go k12 [6] 400 rfl ?_
        repeat' (first | (refine And.intro (by first | omega | (simp (disch := decide) only [up_n, up_s, cp_n, rw_n, rw_s, up1_, if_true, if_false, ite_true, ite_false, reduceIte, eq_self, Int.reduceEq, true_and, and_true, not_true_eq_false, not_false_eq_true]; omega)) ?_) | (refine And.intro (fun hc => ?_) (fun hc => ?_) <;> (try (simp (disch := decide) only [up_n, up_s, cp_n, rw_n, rw_s, up1_, if_true, if_false, ite_true, ite_false, reduceIte, eq_self, Int.reduceEq, true_and, and_true, not_true_eq_false, not_false_eq_true] at hc)) <;> (try (exfalso; omega))) | (refine fun (hc : ¬ _) => ?_; try (simp (disch := decide) only [up_n, up_s, cp_n, rw_n, rw_s, up1_, if_true, if_false, ite_true, ite_false, reduceIte, eq_self, Int.reduceEq, true_and, and_true, not_true_eq_false, not_false_eq_true] at hc)) | (refine fun (hc : _ = _) => ?_; try (simp (disch := decide) only [up_n, up_s, cp_n, rw_n, rw_s, up1_, if_true, if_false, ite_true, ite_false, reduceIte, eq_self, Int.reduceEq, true_and, and_true, not_true_eq_false, not_false_eq_true] at hc)))
        all_goals first | (exfalso; omega) | skip
        refine c_pull hP hR h24' (by omega) ?_
        have hh := hh (some (.inl (pul X r (k : Int))))
        clear hpb es
        generalize pul X r (k : Int) = v at *
        repeat' (first | (refine And.intro (by first | omega | (simp (disch := decide) only [up_n, up_s, cp_n, rw_n, rw_s, up1_, if_true, if_false, ite_true, ite_false, reduceIte, eq_self, Int.reduceEq, true_and, and_true, not_true_eq_false, not_false_eq_true]; omega)) ?_) | (refine And.intro (fun hc => ?_) (fun hc => ?_) <;> (try (simp (disch := decide) only [up_n, up_s, cp_n, rw_n, rw_s, up1_, if_true, if_false, ite_true, ite_false, reduceIte, eq_self, Int.reduceEq, true_and, and_true, not_true_eq_false, not_false_eq_true] at hc)) <;> (try (exfalso; omega))) | (refine fun (hc : ¬ _) => ?_; try (simp (disch := decide) only [up_n, up_s, cp_n, rw_n, rw_s, up1_, if_true, if_false, ite_true, ite_false, reduceIte, eq_self, Int.reduceEq, true_and, and_true, not_true_eq_false, not_false_eq_true] at hc)) | (refine fun (hc : _ = _) => ?_; try (simp (disch := decide) only [up_n, up_s, cp_n, rw_n, rw_s, up1_, if_true, if_false, ite_true, ite_false, reduceIte, eq_self, Int.reduceEq, true_and, and_true, not_true_eq_false, not_false_eq_true] at hc)))
        all_goals first | (exfalso; omega) | exact hh
      · rw [if_neg c] at hh
        refine fr_go k12 [6] 400 rfl ?_
        repeat' (first | (refine And.intro (by first | omega | (simp (disch := decide) only [up_n, up_s, cp_n, rw_n, rw_s, up1_, if_true, if_false, ite_true, ite_false, reduceIte, eq_self, Int.reduceEq, true_and, and_true, not_true_eq_false, not_false_eq_true]; omega)) ?_) | (refine And.intro (fun hc => ?_) (fun hc => ?_) <;> (try (simp (disch := decide) only [up_n, up_s, cp_n, rw_n, rw_s, up1_, if_true, if_false, ite_true, ite_false, reduceIte, eq_self, Int.reduceEq, true_and, and_true, not_true_eq_false, not_false_eq_true] at hc)) <;> (try (exfalso; omega))) | (refine fun (hc : ¬ _) => ?_; try (simp (disch := decide) only [up_n, up_s, cp_n, rw_n, rw_s, up1_, if_true, if_false, ite_true, ite_false, reduceIte, eq_self, Int.reduceEq, true_and, and_true, not_true_eq_false, not_false_eq_true] at hc)) | (refine fun (hc : _ = _) => ?_; try (simp (disch := decide) only [up_n, up_s, cp_n, rw_n, rw_s, up1_, if_true, if_false, ite_true, ite_false, reduceIte, eq_self, Int.reduceEq, true_and, and_true, not_true_eq_false, not_false_eq_true] at hc)))
        all_goals first | (exfalso; omega) | skip
        refine c_pull hP hR h24' (by omega) ?_
        have hh := hh (some (.inl (pul X r (k : Int))))
        clear hpb es
        generalize pul X r (k : Int) = v at *
        repeat' (first | (refine And.intro (by first | omega | (simp (disch := decide) only [up_n, up_s, cp_n, rw_n, rw_s, up1_, if_true, if_false, ite_true, ite_false, reduceIte, eq_self, Int.reduceEq, true_and, and_true, not_true_eq_false, not_false_eq_true]; omega)) ?_) | (refine And.intro (fun hc => ?_) (fun hc => ?_) <;> (try (simp (disch := decide) only [up_n, up_s, cp_n, rw_n, rw_s, up1_, if_true, if_false, ite_true, ite_false, reduceIte, eq_self, Int.reduceEq, true_and, and_true, not_true_eq_false, not_false_eq_true] at hc)) <;> (try (exfalso; omega))) | (refine fun (hc : ¬ _) => ?_; try (simp (disch := decide) only [up_n, up_s, cp_n, rw_n, rw_s, up1_, if_true, if_false, ite_true, ite_false, reduceIte, eq_self, Int.reduceEq, true_and, and_true, not_true_eq_false, not_false_eq_true] at hc)) | (refine fun (hc : _ = _) => ?_; try (simp (disch := decide) only [up_n, up_s, cp_n, rw_n, rw_s, up1_, if_true, if_false, ite_true, ite_false, reduceIte, eq_self, Int.reduceEq, true_and, and_true, not_true_eq_false, not_false_eq_true] at hc)))
        all_goals first | (exfalso; omega) | exact hh
set_option maxHeartbeats 4000000 in
set_option maxRecDepth 100000 in
theorem c_greatest {X : fr_M} {r n : Int} {us : Int → Int} {Q : Option fr_V → fr_H → fr_M → Prop} (hP : PC X) (hR : RC X r n) (h24 : X 24 5 = r ∧ X 24 6 = n) (hu : ∀ e, 0 ≤ e → e < 2 * n → X 27 e = us e) (h : Q (some (.inl (grt (pul X r) us (2 * n).toNat).1)) sh0 X) : fr_Call 12 [.inr (.inl 24)] sh0 X Q := by
  have hn9 := hR.2.2.1
  refine fr_cgo k12 [some (.inr (.inl 24)), none, none, none, none] 0 0 [6] 400 rfl rfl rfl rfl ?_
  repeat' (first | (refine And.intro (by first | omega | (simp (disch := decide) only [up_n, up_s, cp_n, rw_n, rw_s, up1_, if_true, if_false, ite_true, ite_false, reduceIte, eq_self, Int.reduceEq, true_and, and_true, not_true_eq_false, not_false_eq_true]; omega)) ?_) | (refine And.intro (fun hc => ?_) (fun hc => ?_) <;> (try (simp (disch := decide) only [up_n, up_s, cp_n, rw_n, rw_s, up1_, if_true, if_false, ite_true, ite_false, reduceIte, eq_self, Int.reduceEq, true_and, and_true, not_true_eq_false, not_false_eq_true] at hc)) <;> (try (exfalso; omega))) | (refine fun (hc : ¬ _) => ?_; try (simp (disch := decide) only [up_n, up_s, cp_n, rw_n, rw_s, up1_, if_true, if_false, ite_true, ite_false, reduceIte, eq_self, Int.reduceEq, true_and, and_true, not_true_eq_false, not_false_eq_true] at hc)) | (refine fun (hc : _ = _) => ?_; try (simp (disch := decide) only [up_n, up_s, cp_n, rw_n, rw_s, up1_, if_true, if_false, ite_true, ite_false, reduceIte, eq_self, Int.reduceEq, true_and, and_true, not_true_eq_false, not_false_eq_true] at hc)))
  exact c_gr_l hP hR h24 hu h (2 * n).toNat 0 none (by omega)
set_option maxHeartbeats 4000000 in
set_option maxRecDepth 100000 in
theorem c_jn_l {M : fr_M} {n a b : Int} {fi : Int → Int} {Q : Option fr_V → fr_H → fr_M → Prop} (hn : M 24 6 = n ∧ 0 < n ∧ n ≤ 9) (ha : 0 ≤ a ∧ a < n) (hab : fi a ≠ b) (h : ∀ g, (∀ j, 0 ≤ j → j < n → g j = if fi j = b then fi a else fi j) → Q none sh0 (rw_ M 25 g)) : ∀ (t : Nat) (i : Int) (g : Int → Int), 0 ≤ i → i + t = n → (∀ j, 0 ≤ j → j < n → g j = if j < i ∧ fi j = b then fi a else fi j) → fr_Run 14 none 28 [some (.inr (.inl 24)), some (.inl a), some (.inl b), some (.inl i)] [] sh0 (rw_ M 25 g) 0 0 Q := by
  intro t
  induction t with
  | zero =>
    intro i g q0 q1 q2
    have hh := h g (fun j j0 j1 => by
      rw [q2 j j0 j1]
      by_cases c : fi j = b
      · rw [if_pos c, if_pos ⟨by omega, c⟩]
      · rw [if_neg c, if_neg (fun q => c q.2)])
    clear h q2
    refine fr_go k14 [28] 400 rfl ?_
    repeat' (first | (refine And.intro (by first | omega | (simp (disch := decide) only [up_n, up_s, cp_n, rw_n, rw_s, up1_, if_true, if_false, ite_true, ite_false, reduceIte, eq_self, Int.reduceEq, true_and, and_true, not_true_eq_false, not_false_eq_true]; omega)) ?_) | (refine And.intro (fun hc => ?_) (fun hc => ?_) <;> (try (simp (disch := decide) only [up_n, up_s, cp_n, rw_n, rw_s, up1_, if_true, if_false, ite_true, ite_false, reduceIte, eq_self, Int.reduceEq, true_and, and_true, not_true_eq_false, not_false_eq_true] at hc)) <;> (try (exfalso; omega))) | (refine fun (hc : ¬ _) => ?_; try (simp (disch := decide) only [up_n, up_s, cp_n, rw_n, rw_s, up1_, if_true, if_false, ite_true, ite_false, reduceIte, eq_self, Int.reduceEq, true_and, and_true, not_true_eq_false, not_false_eq_true] at hc)) | (refine fun (hc : _ = _) => ?_; try (simp (disch := decide) only [up_n, up_s, cp_n, rw_n, rw_s, up1_, if_true, if_false, ite_true, ite_false, reduceIte, eq_self, Int.reduceEq, true_and, and_true, not_true_eq_false, not_false_eq_true] at hc)))
    all_goals first | (exfalso; omega) | exact hh
  | succ t ih =>
    intro i g q0 q1 q2
    have gi := q2 i q0 (by omega)
    rw [if_neg (by omega)] at gi
    have ga := q2 a ha.1 ha.2
    rw [if_neg (fun q => hab q.2)] at ga
    by_cases c : fi i = b
    · have hh := ih (i + 1) (up1 g i (fi a)) (by omega) (by omega) (fun j j0 j1 => by
        rw [up1_]
        by_cases e : j = i
        · rw [if_pos e, if_pos ⟨by omega, by rw [e]; exact c⟩]
        · rw [if_neg e, q2 j j0 j1]
          by_cases d : j < i ∧ fi j = b
          · rw [if_pos d, if_pos ⟨by omega, d.2⟩]
          · rw [if_neg d, if_neg (fun q => d ⟨by omega, q.2⟩)])
      rw [← ga] at hh
      clear ih h q2
      refine fr_go k14 [28] 400 rfl ?_
      repeat' (first | (refine And.intro (by first | omega | (simp (disch := decide) only [up_n, up_s, cp_n, rw_n, rw_s, up1_, if_true, if_false, ite_true, ite_false, reduceIte, eq_self, Int.reduceEq, true_and, and_true, not_true_eq_false, not_false_eq_true]; omega)) ?_) | (refine And.intro (fun hc => ?_) (fun hc => ?_) <;> (try (simp (disch := decide) only [up_n, up_s, cp_n, rw_n, rw_s, up1_, if_true, if_false, ite_true, ite_false, reduceIte, eq_self, Int.reduceEq, true_and, and_true, not_true_eq_false, not_false_eq_true] at hc)) <;> (try (exfalso; omega))) | (refine fun (hc : ¬ _) => ?_; try (simp (disch := decide) only [up_n, up_s, cp_n, rw_n, rw_s, up1_, if_true, if_false, ite_true, ite_false, reduceIte, eq_self, Int.reduceEq, true_and, and_true, not_true_eq_false, not_false_eq_true] at hc)) | (refine fun (hc : _ = _) => ?_; try (simp (disch := decide) only [up_n, up_s, cp_n, rw_n, rw_s, up1_, if_true, if_false, ite_true, ite_false, reduceIte, eq_self, Int.reduceEq, true_and, and_true, not_true_eq_false, not_false_eq_true] at hc)))
      all_goals first | (exfalso; omega) | skip
      simp (disch := decide) only [up_n, up_s, cp_n, rw_n, rw_s, up1_, if_true, if_false, ite_true, ite_false, reduceIte, eq_self, Int.reduceEq, true_and, and_true, not_true_eq_false, not_false_eq_true]
      simp (disch := decide) only [up_rw, rw_u, up_up, rw_rw, rw_cm]
      exact hh
    · have hh := ih (i + 1) g (by omega) (by omega) (fun j j0 j1 => by
        rw [q2 j j0 j1]
        by_cases d : j < i ∧ fi j = b
        · rw [if_pos d, if_pos ⟨by omega, d.2⟩]
        · rw [if_neg d, if_neg (fun q => d ⟨by
            by_cases e : j = i
            · rw [e] at q
              exact absurd q.2 c
            · omega, q.2⟩)])
      clear ih h q2
      refine fr_go k14 [28] 400 rfl ?_
      repeat' (first | (refine And.intro (by first | omega | (simp (disch := decide) only [up_n, up_s, cp_n, rw_n, rw_s, up1_, if_true, if_false, ite_true, ite_false, reduceIte, eq_self, Int.reduceEq, true_and, and_true, not_true_eq_false, not_false_eq_true]; omega)) ?_) | (refine And.intro (fun hc => ?_) (fun hc => ?_) <;> (try (simp (disch := decide) only [up_n, up_s, cp_n, rw_n, rw_s, up1_, if_true, if_false, ite_true, ite_false, reduceIte, eq_self, Int.reduceEq, true_and, and_true, not_true_eq_false, not_false_eq_true] at hc)) <;> (try (exfalso; omega))) | (refine fun (hc : ¬ _) => ?_; try (simp (disch := decide) only [up_n, up_s, cp_n, rw_n, rw_s, up1_, if_true, if_false, ite_true, ite_false, reduceIte, eq_self, Int.reduceEq, true_and, and_true, not_true_eq_false, not_false_eq_true] at hc)) | (refine fun (hc : _ = _) => ?_; try (simp (disch := decide) only [up_n, up_s, cp_n, rw_n, rw_s, up1_, if_true, if_false, ite_true, ite_false, reduceIte, eq_self, Int.reduceEq, true_and, and_true, not_true_eq_false, not_false_eq_true] at hc)))
      all_goals first | (exfalso; omega) | exact hh
set_option maxHeartbeats 4000000 in
set_option maxRecDepth 100000 in
theorem c_join {X : fr_M} {n a b : Int} {fi fo pr : Int → Int} {Q : Option fr_V → fr_H → fr_M → Prop} (hn : X 24 6 = n ∧ 0 < n ∧ n ≤ 9) (ha : 0 ≤ a ∧ a < n) (hb : 0 ≤ b ∧ b < n) (hx : ∀ i, 0 ≤ i → i < n → X 25 i = fi i ∧ X 26 i = fo i) (h : ∀ X', (∀ k i, ¬ (k = 25 ∨ k = 26) → X' k i = X k i) → (∀ i, 0 ≤ i → i < n → X' 25 i = (jn fi fo pr a b).1 i ∧ X' 26 i = (jn fi fo pr a b).2.1 i) → Q none sh0 X') : fr_Call 14 [.inr (.inl 24), .inl a, .inl b] sh0 X Q := by
  have xa := hx a ha.1 ha.2
  have xb := hx b hb.1 hb.2
  by_cases c : b = 0 ∨ fo a ≠ -1 ∨ fi b ≠ b ∨ fi a = b
  · have hh := h X (fun k i _ => rfl) (fun i i0 i1 => by
      unfold jn
      rw [if_pos c]
      exact hx i i0 i1)
    clear h hx
    refine fr_cgo k14 [some (.inr (.inl 24)), some (.inl a), some (.inl b), none] 0 0 [28] 400 rfl rfl rfl rfl ?_
    repeat' (first | (refine And.intro (by first | omega | (simp (disch := decide) only [up_n, up_s, cp_n, rw_n, rw_s, up1_, if_true, if_false, ite_true, ite_false, reduceIte, eq_self, Int.reduceEq, true_and, and_true, not_true_eq_false, not_false_eq_true]; omega)) ?_) | (refine And.intro (fun hc => ?_) (fun hc => ?_) <;> (try (simp (disch := decide) only [up_n, up_s, cp_n, rw_n, rw_s, up1_, if_true, if_false, ite_true, ite_false, reduceIte, eq_self, Int.reduceEq, true_and, and_true, not_true_eq_false, not_false_eq_true] at hc)) <;> (try (exfalso; omega))) | (refine fun (hc : ¬ _) => ?_; try (simp (disch := decide) only [up_n, up_s, cp_n, rw_n, rw_s, up1_, if_true, if_false, ite_true, ite_false, reduceIte, eq_self, Int.reduceEq, true_and, and_true, not_true_eq_false, not_false_eq_true] at hc)) | (refine fun (hc : _ = _) => ?_; try (simp (disch := decide) only [up_n, up_s, cp_n, rw_n, rw_s, up1_, if_true, if_false, ite_true, ite_false, reduceIte, eq_self, Int.reduceEq, true_and, and_true, not_true_eq_false, not_false_eq_true] at hc)))
    all_goals first | (exfalso; omega) | exact hh
  · have hh := c_jn_l (M := fr_up X 26 a b) (n := n) (a := a) (b := b) (fi := fi) (Q := Q) hn ha (by omega) (fun g hg => h (rw_ (fr_up X 26 a b) 25 g) (fun k i hk => by rw [rw_n (by omega), up_x (by omega)]) (fun i i0 i1 => by
      unfold jn
      rw [if_neg c]
      refine ⟨by rw [rw_at]; exact hg i i0 i1, ?_⟩
      show up1 (X 26) a b i = up1 fo a b i
      rw [up1_, up1_, (hx i i0 i1).2])) n.toNat 0 (X 25) (by omega) (by omega) (fun j j0 j1 => by
      rw [if_neg (by omega)]
      exact (hx j j0 j1).1)
    clear h hx
    refine fr_cgo k14 [some (.inr (.inl 24)), some (.inl a), some (.inl b), none] 0 0 [28] 400 rfl rfl rfl rfl ?_
    repeat' (first | (refine And.intro (by first | omega | (simp (disch := decide) only [up_n, up_s, cp_n, rw_n, rw_s, up1_, if_true, if_false, ite_true, ite_false, reduceIte, eq_self, Int.reduceEq, true_and, and_true, not_true_eq_false, not_false_eq_true]; omega)) ?_) | (refine And.intro (fun hc => ?_) (fun hc => ?_) <;> (try (simp (disch := decide) only [up_n, up_s, cp_n, rw_n, rw_s, up1_, if_true, if_false, ite_true, ite_false, reduceIte, eq_self, Int.reduceEq, true_and, and_true, not_true_eq_false, not_false_eq_true] at hc)) <;> (try (exfalso; omega))) | (refine fun (hc : ¬ _) => ?_; try (simp (disch := decide) only [up_n, up_s, cp_n, rw_n, rw_s, up1_, if_true, if_false, ite_true, ite_false, reduceIte, eq_self, Int.reduceEq, true_and, and_true, not_true_eq_false, not_false_eq_true] at hc)) | (refine fun (hc : _ = _) => ?_; try (simp (disch := decide) only [up_n, up_s, cp_n, rw_n, rw_s, up1_, if_true, if_false, ite_true, ite_false, reduceIte, eq_self, Int.reduceEq, true_and, and_true, not_true_eq_false, not_false_eq_true] at hc)))
    all_goals first | (exfalso; omega) | skip
    refine q_run hh ?_
    exact rw_id (M := fr_up X 26 a b) (k := 25)
