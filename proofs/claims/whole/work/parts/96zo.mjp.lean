set_option maxHeartbeats 4000000 in
set_option maxRecDepth 100000 in
theorem m_j106 {X : fr_M} {r v B T H : Int} {x6 x7 : Option fr_V} {Q : Option fr_V → fr_H → fr_M → Prop} (hB : 0 ≤ B ∧ B < 40) (hT : 0 ≤ T ∧ T < 40) (h79 : X 79 T = r ∧ 0 ≤ r ∧ r < 6) (hhd : ∀ Q' : Option fr_V → fr_H → fr_M → Prop, Q' (some (.inl H)) sh0 X → fr_Call 167 [.inr (.inl 75), .inl B] sh0 X Q') (h0 : (X 92 B ≠ -9 ∨ X 93 T ≠ -9 ∨ X 77 (9 * r) = T ∨ H = T) → ∀ x6, fr_Run 169 none 16 [some (.inr (.inl 75)), some (.inl r), some (.inr (.inl 94)), some (.inl v), some (.inl B), some (.inl T), x6, x7] [] sh0 X 0 0 Q) (h1 : X 92 B = -9 → X 93 T = -9 → X 77 (9 * r) ≠ T → H ≠ T → ∀ x6, fr_Run 169 none 16 [some (.inr (.inl 75)), some (.inl r), some (.inr (.inl 94)), some (.inl v), some (.inl B), some (.inl T), x6, x7] [] sh0 (fr_up (fr_up X 92 B T) 93 T B) 0 0 Q) : fr_Run 169 none 106 [some (.inr (.inl 75)), some (.inl r), some (.inr (.inl 94)), some (.inl v), some (.inl B), some (.inl T), x6, x7] [] sh0 X 0 0 Q := by
  have e9 : X 77 (9 * X 79 T) = X 77 (9 * r) := by rw [h79.1]
  by_cases c1 : X 92 B = -9
  · by_cases c2 : X 93 T = -9
    · by_cases c3 : X 77 (9 * r) = T
      · have hh := h0 (Or.inr (Or.inr (Or.inl c3)))
        clear h0 h1 hhd
        refine fr_go k169 [16] 400 rfl ?_
        repeat' (first | (refine And.intro (by first | omega | (simp (disch := decide) only [up_n, up_s, cp_n, rw_n, rw_s, up1_, if_true, if_false, ite_true, ite_false, reduceIte, eq_self, Int.reduceEq, true_and, and_true, not_true_eq_false, not_false_eq_true]; omega)) ?_) | (refine m_isFirst (by omega) (by omega) (fun hc => ?_) (fun hc => ?_) <;> (try (simp (disch := decide) only [up_n, up_s, cp_n, rw_n, rw_s, up1_, if_true, if_false, ite_true, ite_false, reduceIte, eq_self, Int.reduceEq, true_and, and_true, not_true_eq_false, not_false_eq_true] at hc))) | (refine And.intro (fun hc => ?_) (fun hc => ?_) <;> (try (simp (disch := decide) only [up_n, up_s, cp_n, rw_n, rw_s, up1_, if_true, if_false, ite_true, ite_false, reduceIte, eq_self, Int.reduceEq, true_and, and_true, not_true_eq_false, not_false_eq_true] at hc)) <;> (try (exfalso; omega))) | (refine fun (hc : ¬ _) => ?_; try (simp (disch := decide) only [up_n, up_s, cp_n, rw_n, rw_s, up1_, if_true, if_false, ite_true, ite_false, reduceIte, eq_self, Int.reduceEq, true_and, and_true, not_true_eq_false, not_false_eq_true] at hc)) | (refine fun (hc : _ = _) => ?_; try (simp (disch := decide) only [up_n, up_s, cp_n, rw_n, rw_s, up1_, if_true, if_false, ite_true, ite_false, reduceIte, eq_self, Int.reduceEq, true_and, and_true, not_true_eq_false, not_false_eq_true] at hc)))
        all_goals first | (exfalso; omega) | exact hh _
      · by_cases c4 : H = T
        · have hh := h0 (Or.inr (Or.inr (Or.inr c4)))
          clear h0 h1
          refine fr_go k169 [16] 400 rfl ?_
          repeat' (first | (refine And.intro (by first | omega | (simp (disch := decide) only [up_n, up_s, cp_n, rw_n, rw_s, up1_, if_true, if_false, ite_true, ite_false, reduceIte, eq_self, Int.reduceEq, true_and, and_true, not_true_eq_false, not_false_eq_true]; omega)) ?_) | (refine m_isFirst (by omega) (by omega) (fun hc => ?_) (fun hc => ?_) <;> (try (simp (disch := decide) only [up_n, up_s, cp_n, rw_n, rw_s, up1_, if_true, if_false, ite_true, ite_false, reduceIte, eq_self, Int.reduceEq, true_and, and_true, not_true_eq_false, not_false_eq_true] at hc))) | (refine And.intro (fun hc => ?_) (fun hc => ?_) <;> (try (simp (disch := decide) only [up_n, up_s, cp_n, rw_n, rw_s, up1_, if_true, if_false, ite_true, ite_false, reduceIte, eq_self, Int.reduceEq, true_and, and_true, not_true_eq_false, not_false_eq_true] at hc)) <;> (try (exfalso; omega))) | (refine fun (hc : ¬ _) => ?_; try (simp (disch := decide) only [up_n, up_s, cp_n, rw_n, rw_s, up1_, if_true, if_false, ite_true, ite_false, reduceIte, eq_self, Int.reduceEq, true_and, and_true, not_true_eq_false, not_false_eq_true] at hc)) | (refine fun (hc : _ = _) => ?_; try (simp (disch := decide) only [up_n, up_s, cp_n, rw_n, rw_s, up1_, if_true, if_false, ite_true, ite_false, reduceIte, eq_self, Int.reduceEq, true_and, and_true, not_true_eq_false, not_false_eq_true] at hc)))
          all_goals first | (exfalso; omega) | skip
          refine hhd _ ?_
          repeat' (first | (refine And.intro (by first | omega | (simp (disch := decide) only [up_n, up_s, cp_n, rw_n, rw_s, up1_, if_true, if_false, ite_true, ite_false, reduceIte, eq_self, Int.reduceEq, true_and, and_true, not_true_eq_false, not_false_eq_true]; omega)) ?_) | (refine And.intro (fun hc => ?_) (fun hc => ?_) <;> (try (simp (disch := decide) only [up_n, up_s, cp_n, rw_n, rw_s, up1_, if_true, if_false, ite_true, ite_false, reduceIte, eq_self, Int.reduceEq, true_and, and_true, not_true_eq_false, not_false_eq_true] at hc)) <;> (try (exfalso; omega))) | (refine fun (hc : ¬ _) => ?_; try (simp (disch := decide) only [up_n, up_s, cp_n, rw_n, rw_s, up1_, if_true, if_false, ite_true, ite_false, reduceIte, eq_self, Int.reduceEq, true_and, and_true, not_true_eq_false, not_false_eq_true] at hc)) | (refine fun (hc : _ = _) => ?_; try (simp (disch := decide) only [up_n, up_s, cp_n, rw_n, rw_s, up1_, if_true, if_false, ite_true, ite_false, reduceIte, eq_self, Int.reduceEq, true_and, and_true, not_true_eq_false, not_false_eq_true] at hc)))
          all_goals first | (exfalso; omega) | exact hh _
        · have hh := h1 c1 c2 c3 c4
          clear h0 h1
          refine fr_go k169 [16] 400 rfl ?_
          repeat' (first | (refine And.intro (by first | omega | (simp (disch := decide) only [up_n, up_s, cp_n, rw_n, rw_s, up1_, if_true, if_false, ite_true, ite_false, reduceIte, eq_self, Int.reduceEq, true_and, and_true, not_true_eq_false, not_false_eq_true]; omega)) ?_) | (refine m_isFirst (by omega) (by omega) (fun hc => ?_) (fun hc => ?_) <;> (try (simp (disch := decide) only [up_n, up_s, cp_n, rw_n, rw_s, up1_, if_true, if_false, ite_true, ite_false, reduceIte, eq_self, Int.reduceEq, true_and, and_true, not_true_eq_false, not_false_eq_true] at hc))) | (refine And.intro (fun hc => ?_) (fun hc => ?_) <;> (try (simp (disch := decide) only [up_n, up_s, cp_n, rw_n, rw_s, up1_, if_true, if_false, ite_true, ite_false, reduceIte, eq_self, Int.reduceEq, true_and, and_true, not_true_eq_false, not_false_eq_true] at hc)) <;> (try (exfalso; omega))) | (refine fun (hc : ¬ _) => ?_; try (simp (disch := decide) only [up_n, up_s, cp_n, rw_n, rw_s, up1_, if_true, if_false, ite_true, ite_false, reduceIte, eq_self, Int.reduceEq, true_and, and_true, not_true_eq_false, not_false_eq_true] at hc)) | (refine fun (hc : _ = _) => ?_; try (simp (disch := decide) only [up_n, up_s, cp_n, rw_n, rw_s, up1_, if_true, if_false, ite_true, ite_false, reduceIte, eq_self, Int.reduceEq, true_and, and_true, not_true_eq_false, not_false_eq_true] at hc)))
          all_goals first | (exfalso; omega) | skip
          refine hhd _ ?_
          repeat' (first | (refine And.intro (by first | omega | (simp (disch := decide) only [up_n, up_s, cp_n, rw_n, rw_s, up1_, if_true, if_false, ite_true, ite_false, reduceIte, eq_self, Int.reduceEq, true_and, and_true, not_true_eq_false, not_false_eq_true]; omega)) ?_) | (refine And.intro (fun hc => ?_) (fun hc => ?_) <;> (try (simp (disch := decide) only [up_n, up_s, cp_n, rw_n, rw_s, up1_, if_true, if_false, ite_true, ite_false, reduceIte, eq_self, Int.reduceEq, true_and, and_true, not_true_eq_false, not_false_eq_true] at hc)) <;> (try (exfalso; omega))) | (refine fun (hc : ¬ _) => ?_; try (simp (disch := decide) only [up_n, up_s, cp_n, rw_n, rw_s, up1_, if_true, if_false, ite_true, ite_false, reduceIte, eq_self, Int.reduceEq, true_and, and_true, not_true_eq_false, not_false_eq_true] at hc)) | (refine fun (hc : _ = _) => ?_; try (simp (disch := decide) only [up_n, up_s, cp_n, rw_n, rw_s, up1_, if_true, if_false, ite_true, ite_false, reduceIte, eq_self, Int.reduceEq, true_and, and_true, not_true_eq_false, not_false_eq_true] at hc)))
          all_goals first | (exfalso; omega) | exact hh _
    · have hh := h0 (Or.inr (Or.inl c2))
      clear h0 h1 hhd
      refine fr_go k169 [16] 400 rfl ?_
      repeat' (first | (refine And.intro (by first | omega | (simp (disch := decide) only [up_n, up_s, cp_n, rw_n, rw_s, up1_, if_true, if_false, ite_true, ite_false, reduceIte, eq_self, Int.reduceEq, true_and, and_true, not_true_eq_false, not_false_eq_true]; omega)) ?_) | (refine And.intro (fun hc => ?_) (fun hc => ?_) <;> (try (simp (disch := decide) only [up_n, up_s, cp_n, rw_n, rw_s, up1_, if_true, if_false, ite_true, ite_false, reduceIte, eq_self, Int.reduceEq, true_and, and_true, not_true_eq_false, not_false_eq_true] at hc)) <;> (try (exfalso; omega))) | (refine fun (hc : ¬ _) => ?_; try (simp (disch := decide) only [up_n, up_s, cp_n, rw_n, rw_s, up1_, if_true, if_false, ite_true, ite_false, reduceIte, eq_self, Int.reduceEq, true_and, and_true, not_true_eq_false, not_false_eq_true] at hc)) | (refine fun (hc : _ = _) => ?_; try (simp (disch := decide) only [up_n, up_s, cp_n, rw_n, rw_s, up1_, if_true, if_false, ite_true, ite_false, reduceIte, eq_self, Int.reduceEq, true_and, and_true, not_true_eq_false, not_false_eq_true] at hc)))
      all_goals first | (exfalso; omega) | exact hh _
  · have hh := h0 (Or.inl c1)
    clear h0 h1 hhd
    refine fr_go k169 [16] 400 rfl ?_
    repeat' (first | (refine And.intro (by first | omega | (simp (disch := decide) only [up_n, up_s, cp_n, rw_n, rw_s, up1_, if_true, if_false, ite_true, ite_false, reduceIte, eq_self, Int.reduceEq, true_and, and_true, not_true_eq_false, not_false_eq_true]; omega)) ?_) | (refine And.intro (fun hc => ?_) (fun hc => ?_) <;> (try (simp (disch := decide) only [up_n, up_s, cp_n, rw_n, rw_s, up1_, if_true, if_false, ite_true, ite_false, reduceIte, eq_self, Int.reduceEq, true_and, and_true, not_true_eq_false, not_false_eq_true] at hc)) <;> (try (exfalso; omega))) | (refine fun (hc : ¬ _) => ?_; try (simp (disch := decide) only [up_n, up_s, cp_n, rw_n, rw_s, up1_, if_true, if_false, ite_true, ite_false, reduceIte, eq_self, Int.reduceEq, true_and, and_true, not_true_eq_false, not_false_eq_true] at hc)) | (refine fun (hc : _ = _) => ?_; try (simp (disch := decide) only [up_n, up_s, cp_n, rw_n, rw_s, up1_, if_true, if_false, ite_true, ite_false, reduceIte, eq_self, Int.reduceEq, true_and, and_true, not_true_eq_false, not_false_eq_true] at hc)))
    all_goals first | (exfalso; omega) | exact hh _
set_option maxHeartbeats 4000000 in
set_option maxRecDepth 100000 in
theorem m_jpass {W : fr_M} {r n : Int} {s : JS} {v : Int} {x4 x5 x6 x7 : Option fr_V} {Q : Option fr_V → fr_H → fr_M → Prop} (hP : PC W) (hR : RC W r n) (hJ : JI n s.1 s.2.1 s.2.2.1) (hM : MJR n r s W) (hv : v ≠ -9) (ha : (grt (pul W r) s.2.2.2 (2 * n).toNat).1 = -1 → Q none sh0 W) (hb : (grt (pul W r) s.2.2.2 (2 * n).toNat).1 ≠ -1 → ∀ W' v' x4 x5 x6 x7, v' ≠ -9 → (∀ k i, ¬ (92 ≤ k ∧ k ≤ 94) → W' k i = W k i) → MJR n r (jstep (pul W r) (tgt W r) (2 * n).toNat s) W' → fr_Run 169 none 16 [some (.inr (.inl 75)), some (.inl r), some (.inr (.inl 94)), some (.inl v'), x4, x5, x6, x7] [] sh0 W' 0 0 Q) : fr_Run 169 none 16 [some (.inr (.inl 75)), some (.inl r), some (.inr (.inl 94)), some (.inl v), x4, x5, x6, x7] [] sh0 W 0 0 Q := by
  have hr := hR.1
  have hm := hR.2.1
  have hn9 := hR.2.2.1
  have hh := m_gj1 (Q := Q) hR hM.2 (fun x5 x6 x7 => ?_) n.toNat 0 x5 x6 x7 (by omega) (by omega)
  · rw [show fnd W r (grt (pul W r) s.2.2.2 (2 * (0 : Int)).toNat).1 = -9 from rfl] at hh
    clear ha hb
    refine fr_go k169 [23] 400 rfl ?_
    repeat' (first | (refine And.intro (by first | omega | (simp (disch := decide) only [up_n, up_s, cp_n, rw_n, rw_s, up1_, if_true, if_false, ite_true, ite_false, reduceIte, eq_self, Int.reduceEq, true_and, and_true, not_true_eq_false, not_false_eq_true]; omega)) ?_) | (refine And.intro (fun hc => ?_) (fun hc => ?_) <;> (try (simp (disch := decide) only [up_n, up_s, cp_n, rw_n, rw_s, up1_, if_true, if_false, ite_true, ite_false, reduceIte, eq_self, Int.reduceEq, true_and, and_true, not_true_eq_false, not_false_eq_true] at hc)) <;> (try (exfalso; omega))) | (refine fun (hc : ¬ _) => ?_; try (simp (disch := decide) only [up_n, up_s, cp_n, rw_n, rw_s, up1_, if_true, if_false, ite_true, ite_false, reduceIte, eq_self, Int.reduceEq, true_and, and_true, not_true_eq_false, not_false_eq_true] at hc)) | (refine fun (hc : _ = _) => ?_; try (simp (disch := decide) only [up_n, up_s, cp_n, rw_n, rw_s, up1_, if_true, if_false, ite_true, ite_false, reduceIte, eq_self, Int.reduceEq, true_and, and_true, not_true_eq_false, not_false_eq_true] at hc)))
    all_goals first | (exfalso; omega) | exact hh
  · rcases grt_b (pu := pul W r) (us := s.2.2.2) (2 * n).toNat with c | c
    · have ha := ha c.1
      rw [show fnd W r (grt (pul W r) s.2.2.2 (2 * n).toNat).1 = -9 by unfold fnd; rw [if_pos c.1]]
      clear hb
      refine fr_go k169 [16] 400 rfl ?_
      repeat' (first | (refine And.intro (by first | omega | (simp (disch := decide) only [up_n, up_s, cp_n, rw_n, rw_s, up1_, if_true, if_false, ite_true, ite_false, reduceIte, eq_self, Int.reduceEq, true_and, and_true, not_true_eq_false, not_false_eq_true]; omega)) ?_) | (refine And.intro (fun hc => ?_) (fun hc => ?_) <;> (try (simp (disch := decide) only [up_n, up_s, cp_n, rw_n, rw_s, up1_, if_true, if_false, ite_true, ite_false, reduceIte, eq_self, Int.reduceEq, true_and, and_true, not_true_eq_false, not_false_eq_true] at hc)) <;> (try (exfalso; omega))) | (refine fun (hc : ¬ _) => ?_; try (simp (disch := decide) only [up_n, up_s, cp_n, rw_n, rw_s, up1_, if_true, if_false, ite_true, ite_false, reduceIte, eq_self, Int.reduceEq, true_and, and_true, not_true_eq_false, not_false_eq_true] at hc)) | (refine fun (hc : _ = _) => ?_; try (simp (disch := decide) only [up_n, up_s, cp_n, rw_n, rw_s, up1_, if_true, if_false, ite_true, ite_false, reduceIte, eq_self, Int.reduceEq, true_and, and_true, not_true_eq_false, not_false_eq_true] at hc)))
      all_goals first | (exfalso; omega) | skip
      refine fr_go k169 [] 400 rfl ?_
      repeat' (first | (refine And.intro (by first | omega | (simp (disch := decide) only [up_n, up_s, cp_n, rw_n, rw_s, up1_, if_true, if_false, ite_true, ite_false, reduceIte, eq_self, Int.reduceEq, true_and, and_true, not_true_eq_false, not_false_eq_true]; omega)) ?_) | (refine And.intro (fun hc => ?_) (fun hc => ?_) <;> (try (simp (disch := decide) only [up_n, up_s, cp_n, rw_n, rw_s, up1_, if_true, if_false, ite_true, ite_false, reduceIte, eq_self, Int.reduceEq, true_and, and_true, not_true_eq_false, not_false_eq_true] at hc)) <;> (try (exfalso; omega))) | (refine fun (hc : ¬ _) => ?_; try (simp (disch := decide) only [up_n, up_s, cp_n, rw_n, rw_s, up1_, if_true, if_false, ite_true, ite_false, reduceIte, eq_self, Int.reduceEq, true_and, and_true, not_true_eq_false, not_false_eq_true] at hc)) | (refine fun (hc : _ = _) => ?_; try (simp (disch := decide) only [up_n, up_s, cp_n, rw_n, rw_s, up1_, if_true, if_false, ite_true, ite_false, reduceIte, eq_self, Int.reduceEq, true_and, and_true, not_true_eq_false, not_false_eq_true] at hc)))
      all_goals first | (exfalso; omega) | exact ha
    · have hb := hb (by omega)
      unfold jstep at hb
      rw [if_neg (by omega)] at hb
      have c1 := c.1
      have c2 : 0 < pul W r (grt (pul W r) s.2.2.2 (2 * n).toNat).1 := by rw [c.2.2.1]; exact c.2.2.2
      clear c ha
      generalize (grt (pul W r) s.2.2.2 (2 * n).toNat).1 = e at *
      have w := pul_w hR (e := e) (by omega) c2
      have hway := hP.way hR (k := e / 2) (w := e % 2) (by omega) (by omega)
      have hbl := hR.bl (k := e / 2) (by omega)
      have htg : 0 ≤ tgt W r e ∧ tgt W r e < n := hway.1
      have hbt : W 77 (9 * r + tgt W r e) = W 84 (4 * W 77 (9 * r + e / 2) + e % 2) := hway.2.1
      have hinj := hR.2.2.2.2.1
      have hMa := (hM.1 (e / 2) (by omega) (by omega)).1
      have hMb := (hM.1 (tgt W r e) htg.1 htg.2).2
      have hfnd : fnd W r e = 4 * W 77 (9 * r + e / 2) + e % 2 := by
        unfold fnd
        rw [if_neg (by omega)]
      have hb0 := hR.bl (k := 0) (by omega)
      have hbtl := hR.bl (k := tgt W r e) htg
      have hW79 : W 79 (W 77 (9 * r + tgt W r e)) = r := (hP.2.2.1 r (tgt W r e) hr.1 hr.2 htg.1 (by rw [hm]; exact htg.2)).2.2.2.1
      have hfirst : W 77 (9 * r) = W 77 (9 * r + tgt W r e) ↔ tgt W r e = 0 := by
        constructor
        · intro q
          exact (hinj 0 (tgt W r e) (by omega) (by omega) htg.1 htg.2 (by rw [show 9 * r + 0 = 9 * r by omega]; exact q)).symm
        · intro q
          rw [q, show 9 * r + 0 = 9 * r by omega]
      have hfia := hJ.1 (e / 2) (by omega) (by omega)
      have hhead : W 77 (9 * r + s.1 (e / 2)) = W 77 (9 * r + tgt W r e) ↔ s.1 (e / 2) = tgt W r e := by
        constructor
        · intro q
          exact hinj _ _ hfia.1 hfia.2.1 htg.1 htg.2 q
        · intro q
          rw [q]
      have hprb := hJ.2.2.2.1 (tgt W r e) htg.1 htg.2
      have hfo := hJ.2.1 (e / 2) (by omega) (by omega)
      have hpr := hJ.2.2.1 (tgt W r e) htg.1 htg.2
      have hc1 : W 92 (W 77 (9 * r + e / 2)) = -9 ↔ s.2.1 (e / 2) = -1 := by
        rw [hMa]
        by_cases q : s.2.1 (e / 2) = -1
        · rw [if_pos q]
          exact ⟨fun _ => q, fun _ => rfl⟩
        · rw [if_neg q]
          have z : 0 ≤ s.2.1 (e / 2) ∧ s.2.1 (e / 2) < n := by
            rcases hfo with z | z
            · exact absurd z q
            · exact ⟨z.1, z.2.1⟩
          have zb := hR.bl (k := s.2.1 (e / 2)) z
          exact ⟨fun y => by omega, fun y => absurd y q⟩
      have hc2 : W 93 (W 77 (9 * r + tgt W r e)) = -9 ↔ s.2.2.1 (tgt W r e) = -1 := by
        rw [hMb]
        by_cases q : s.2.2.1 (tgt W r e) = -1
        · rw [if_pos q]
          exact ⟨fun _ => q, fun _ => rfl⟩
        · rw [if_neg q]
          have z : 0 ≤ s.2.2.1 (tgt W r e) ∧ s.2.2.1 (tgt W r e) < n := by
            rcases hpr with z | z
            · exact absurd z q
            · exact ⟨z.1, z.2.1⟩
          have zb := hR.bl (k := s.2.2.1 (tgt W r e)) z
          exact ⟨fun y => by omega, fun y => absurd y q⟩
      rw [hfnd]
      rw [← hbt] at hway
      have hdiv : (4 * W 77 (9 * r + e / 2) + e % 2) / 4 = W 77 (9 * r + e / 2) := by omega
      have he94 : ∀ e', 0 ≤ e' → e' < 2 * n → up1 (W 94) (4 * W 77 (9 * r + e / 2) + e % 2) 1 (4 * W 77 (9 * r + e' / 2) + e' % 2) = up1 s.2.2.2 e 1 e' := by
        intro e' e0 e1
        rw [up1_, up1_]
        by_cases q : e' = e
        · rw [q, if_pos rfl, if_pos rfl]
        · rw [if_neg q, if_neg (fun z => ?_)]
          · exact hM.2 e' e0 e1
          · have y := hinj (e' / 2) (e / 2) (by omega) (by omega) (by omega) (by omega) (by omega)
            omega
      have hM1 := hM.1
      have h106 : fr_Run 169 none 106 [some (.inr (.inl 75)), some (.inl r), some (.inr (.inl 94)), some (.inl (4 * W 77 (9 * r + e / 2) + e % 2)), some (.inl (W 77 (9 * r + e / 2))), some (.inl (W 77 (9 * r + tgt W r e))), x6, x7] [] sh0 (fr_up W 94 (4 * W 77 (9 * r + e / 2) + e % 2) 1) 0 0 Q := by
        have hRX : RC (fr_up W 94 (4 * W 77 (9 * r + e / 2) + e % 2) 1) r n := hR.cg (fun k i hk => up_x (by omega))
        have h93 : ∀ i, 0 ≤ i → i < n → fr_up W 94 (4 * W 77 (9 * r + e / 2) + e % 2) 1 93 (W 77 (9 * r + i)) = if s.2.2.1 i = -1 then -9 else W 77 (9 * r + s.2.2.1 i) := fun i i0 i1 => (hM1 i i0 i1).2
        refine m_j106 (H := W 77 (9 * r + s.1 (e / 2))) hbl.1 hbtl.1 ⟨hW79, hr⟩ (fun Q' hq => m_headOf (W := fr_up W 94 (4 * W 77 (9 * r + e / 2) + e % 2) 1) (r := r) (n := n) (i := e / 2) (x := W 77 (9 * r + e / 2)) (Q := Q') hRX hJ h93 (by omega) rfl hq) (fun c x6 => ?_) (fun c1 c2 c3 c4 x6 => ?_)
        · refine hb (fr_up W 94 (4 * W 77 (9 * r + e / 2) + e % 2) 1) (4 * W 77 (9 * r + e / 2) + e % 2) (some (.inl (W 77 (9 * r + e / 2)))) (some (.inl (W 77 (9 * r + tgt W r e)))) x6 x7 (by omega) (fun k i hk => up_x (by omega)) ?_
          unfold jn
          have c : W 92 (W 77 (9 * r + e / 2)) ≠ -9 ∨ W 93 (W 77 (9 * r + tgt W r e)) ≠ -9 ∨ W 77 (9 * r) = W 77 (9 * r + tgt W r e) ∨ W 77 (9 * r + s.1 (e / 2)) = W 77 (9 * r + tgt W r e) := c
          rw [if_pos ?_]
          · exact ⟨fun i i0 i1 => hM1 i i0 i1, he94⟩
          · rcases c with c | c | c | c
            · exact Or.inr (Or.inl (fun q => c (hc1.mpr q)))
            · exact Or.inr (Or.inr (Or.inl (fun q => c (hc2.mpr (hprb.mp q)))))
            · exact Or.inl (hfirst.mp c)
            · exact Or.inr (Or.inr (Or.inr (hhead.mp c)))
        · refine hb _ (4 * W 77 (9 * r + e / 2) + e % 2) (some (.inl (W 77 (9 * r + e / 2)))) (some (.inl (W 77 (9 * r + tgt W r e)))) x6 x7 (by omega) (fun k i hk => by rw [up_x (by omega), up_x (by omega), up_x (by omega)]) ?_
          have c1 : W 92 (W 77 (9 * r + e / 2)) = -9 := c1
          have c2 : W 93 (W 77 (9 * r + tgt W r e)) = -9 := c2
          have c3 : W 77 (9 * r) ≠ W 77 (9 * r + tgt W r e) := c3
          unfold jn
          rw [if_neg ?_]
          · refine ⟨fun i i0 i1 => ⟨?_, ?_⟩, he94⟩
            · show up1 (W 92) (W 77 (9 * r + e / 2)) (W 77 (9 * r + tgt W r e)) (W 77 (9 * r + i)) = (if up1 s.2.1 (e / 2) (tgt W r e) i = -1 then -9 else W 77 (9 * r + up1 s.2.1 (e / 2) (tgt W r e) i))
              rw [up1_, up1_]
              by_cases q : i = e / 2
              · rw [q, if_pos rfl, if_pos rfl, if_neg (by omega)]
              · rw [if_neg (fun z => q (hinj i (e / 2) i0 i1 (by omega) (by omega) z)), if_neg q]
                exact (hM1 i i0 i1).1
            · show up1 (W 93) (W 77 (9 * r + tgt W r e)) (W 77 (9 * r + e / 2)) (W 77 (9 * r + i)) = (if up1 s.2.2.1 (tgt W r e) (e / 2) i = -1 then -9 else W 77 (9 * r + up1 s.2.2.1 (tgt W r e) (e / 2) i))
              rw [up1_, up1_]
              by_cases q : i = tgt W r e
              · rw [q, if_pos rfl, if_pos rfl, if_neg (by omega)]
              · rw [if_neg (fun z => q (hinj i (tgt W r e) i0 i1 htg.1 htg.2 z)), if_neg q]
                exact (hM1 i i0 i1).2
          · rintro (q | q | q | q)
            · exact c3 (hfirst.mpr q)
            · exact q (hc1.mp c1)
            · exact q (hprb.mpr (hc2.mp c2))
            · exact c4 (hhead.mpr q)
      clear hb hJ hM hM1 he94 hc1 hc2 hfirst hhead hprb hfo hpr hMa hMb hinj hW79 hfia
      generalize hB : W 77 (9 * r + e / 2) = B at *
      refine fr_go k169 [106] 400 rfl ?_
      repeat' (first | (refine And.intro (by first | omega | (simp (disch := decide) only [up_n, up_s, cp_n, rw_n, rw_s, up1_, if_true, if_false, ite_true, ite_false, reduceIte, eq_self, Int.reduceEq, true_and, and_true, not_true_eq_false, not_false_eq_true]; omega)) ?_) | (refine And.intro (fun hc => ?_) (fun hc => ?_) <;> (try (simp (disch := decide) only [up_n, up_s, cp_n, rw_n, rw_s, up1_, if_true, if_false, ite_true, ite_false, reduceIte, eq_self, Int.reduceEq, true_and, and_true, not_true_eq_false, not_false_eq_true] at hc)) <;> (try (exfalso; omega))) | (refine fun (hc : ¬ _) => ?_; try (simp (disch := decide) only [up_n, up_s, cp_n, rw_n, rw_s, up1_, if_true, if_false, ite_true, ite_false, reduceIte, eq_self, Int.reduceEq, true_and, and_true, not_true_eq_false, not_false_eq_true] at hc)) | (refine fun (hc : _ = _) => ?_; try (simp (disch := decide) only [up_n, up_s, cp_n, rw_n, rw_s, up1_, if_true, if_false, ite_true, ite_false, reduceIte, eq_self, Int.reduceEq, true_and, and_true, not_true_eq_false, not_false_eq_true] at hc)))
      all_goals first | (exfalso; omega) | skip
      all_goals (show fr_Run 169 none 106 _ _ _ _ 0 0 Q)
      simp (disch := decide) only [up_n, up_s, cp_n, rw_n, rw_s, up1_, if_true, if_false, ite_true, ite_false, reduceIte, eq_self, Int.reduceEq, true_and, and_true, not_true_eq_false, not_false_eq_true]
      rw [hdiv, ← hbt]
      exact h106
