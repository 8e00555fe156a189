theorem pic_g {p : fr_M} (hw : WF p) {lg : Int → Int} {N : fr_M} (h : BN p lg N) {b : Int} (hb : 0 ≤ b ∧ b < p 75 4) : N 41 b = if p 82 b = 6 then pos p lg (cN p) + 8 * gd p (ix p b) else -1 := by
  have hcN := cN_40 hw
  have hk := ix_lt hw hb
  have := h.2.2.1.2.2.2.2 (ix p b) (by omega)
  rw [ln_ix hw hb] at this
  exact this
theorem w0_tg {p : fr_M} {b : Int} (hk : p 82 b = 2 ∨ p 82 b = 5 ∨ p 82 b = 6) : (tg1 p b ≠ -1 → tg1 p b = p 84 (4 * b + 0)) ∧ (tg1 p b = -1 → nx p b = p 84 (4 * b + 0) ∨ p 84 (4 * b + 0) = -1) := by
  have e : w0 p b = p 84 (4 * b + 0) := by
    show p 84 (4 * b) = _
    congr 1
    omega
  unfold tg1
  rw [if_pos hk, e]
  by_cases q : p 84 (4 * b + 0) = nx p b
  · rw [if_pos q]
    exact ⟨fun z => absurd rfl z, fun _ => Or.inl q.symm⟩
  · rw [if_neg q]
    exact ⟨fun _ => rfl, fun z => Or.inr z⟩
set_option maxHeartbeats 4000000 in
set_option maxRecDepth 100000 in
theorem c_ab_j_52 {N p : fr_M} {lg : Int → Int} {b f v3 i : Int} {r44 g gc gr : Int → Int} {Q : Option fr_V → fr_H → fr_M → Prop} (hw : WF p) (hN : BN p lg N) (hf : 0 ≤ f ∧ f < p 75 4) (hk : p 82 f = 2 ∨ p 82 f = 3 ∨ p 82 f = 5 ∨ p 82 f = 6) (hi : 0 ≤ i ∧ i < 4) (h4 : r44 4 = f) (h5 : r44 5 = jb0 p lg f) (hg : 0 ≤ g 6 ∧ g 6 ≤ 1000) (h1 : tg1 p f ≠ -1 → ∀ r, Q (some (.inl (tg1 p f))) sh0 (rw_ (rw_ (rw_ (rw_ N 44 r) 52 (up1 g 6 (g 6 + 1))) 56 gc) 57 gr)) (h0 : tg1 p f = -1 → Q (some (.inl (nx p f))) sh0 (rw_ (rw_ (rw_ (rw_ N 44 r44) 52 g) 56 gc) 57 gr)) : fr_Run 96 none 35 [some (.inr (.inl 44)), some (.inl b), some (.inr (.inl 52)), some (.inl v3), some (.inl i)] [] sh0 (rw_ (rw_ (rw_ (rw_ N 44 r44) 52 g) 56 gc) 57 gr) 0 0 Q := by
  have h40 := hw.1.1
  obtain ⟨e31, e32, e33, e6⟩ := hN.2.1 f hf.1 hf.2
  have hab := ad_b hw (lg := lg) hf
  have hsz := (hw.2.2.2.2.2.1 f hf.1 hf.2).1
  have hj0 : jb0 p lg f = ea p lg f + c5 p f + s0 p lg f := rfl
  have hz1 := s1_e (p := p) (lg := lg) (b := f)
  have z0 := s0_b (p := p) (lg := lg) (b := f)
  have zc : 0 ≤ c5 p f ∧ c5 p f ≤ 5 := by
    unfold c5
    split <;> omega
  have hbe : be p lg f = ea p lg f + c5 p f + s0 p lg f + s1 p lg f := by
    show ed p lg f (ea p lg f) = _
    unfold ed
    rw [if_neg (by omega), if_neg (by omega)]
  have e33' : N 33 (r44 4) = be p lg f := by rw [h4]; exact e33
  have e31' : N 31 (r44 4) = nx p f := by rw [h4]; exact e31
  by_cases ht : tg1 p f = -1
  · rw [if_pos ht] at hz1
    have hh := h0 ht
    clear h0 h1
    refine fr_go k96 [35] 400 rfl ?_
    repeat' (first | (refine And.intro (by first | omega | (simp (disch := decide) only [up_n, up_s, cp_n, rw_n, rw_s, up1_, if_true, if_false, ite_true, ite_false, reduceIte, eq_self, Int.reduceEq, true_and, and_true, not_true_eq_false, not_false_eq_true]; omega)) ?_) | (refine And.intro (fun hc => ?_) (fun hc => ?_) <;> (try (simp (disch := decide) only [up_n, up_s, cp_n, rw_n, rw_s, up1_, if_true, if_false, ite_true, ite_false, reduceIte, eq_self, Int.reduceEq, true_and, and_true, not_true_eq_false, not_false_eq_true] at hc)) <;> (try (exfalso; omega))) | (refine fun (hc : ¬ _) => ?_; try (simp (disch := decide) only [up_n, up_s, cp_n, rw_n, rw_s, up1_, if_true, if_false, ite_true, ite_false, reduceIte, eq_self, Int.reduceEq, true_and, and_true, not_true_eq_false, not_false_eq_true] at hc)) | (refine fun (hc : _ = _) => ?_; try (simp (disch := decide) only [up_n, up_s, cp_n, rw_n, rw_s, up1_, if_true, if_false, ite_true, ite_false, reduceIte, eq_self, Int.reduceEq, true_and, and_true, not_true_eq_false, not_false_eq_true] at hc)))
    all_goals first | (exfalso; omega) | (exfalso; simp (disch := decide) only [up_n, up_s, cp_n, rw_n, rw_s, up1_, if_true, if_false, ite_true, ite_false, reduceIte, eq_self, Int.reduceEq, true_and, and_true, not_true_eq_false, not_false_eq_true] at *; omega) | skip
    all_goals (show Q (some (.inl _)) sh0 _)
    all_goals (simp (disch := decide) only [up_n, up_s, cp_n, rw_n, rw_s, up1_, if_true, if_false, ite_true, ite_false, reduceIte, eq_self, Int.reduceEq, true_and, and_true, not_true_eq_false, not_false_eq_true])
    all_goals (rw [e31'])
    all_goals (exact hh)
  · rw [if_neg ht] at hz1
    have hh := h1 ht (up1 r44 5 (ad p lg (tg1 p f)))
    have tr := (tg1_rng hw hf).resolve_left ht
    have hbk := bn_blk hw hN tr
    have e32t := (hN.2.1 _ tr.1 tr.2).2.1
    have hcc := hN.1
    have hs1 : 2 ≤ s1 p lg f := by
      rcases hN.2.2.2.2 (2 * f + 1) with q | q
      · rw [if_neg (by omega)] at hz1
        omega
      · rw [if_pos q] at hz1
        omega
    clear h0 h1
    refine fr_go k96 [35] 400 rfl ?_
    repeat' (first | (refine And.intro (by first | omega | (simp (disch := decide) only [up_n, up_s, cp_n, rw_n, rw_s, up1_, if_true, if_false, ite_true, ite_false, reduceIte, eq_self, Int.reduceEq, true_and, and_true, not_true_eq_false, not_false_eq_true]; omega)) ?_) | (refine c_rdJump_52 hw hN hf hk ht h5 hg ?_) | (refine And.intro (fun hc => ?_) (fun hc => ?_) <;> (try (simp (disch := decide) only [up_n, up_s, cp_n, rw_n, rw_s, up1_, if_true, if_false, ite_true, ite_false, reduceIte, eq_self, Int.reduceEq, true_and, and_true, not_true_eq_false, not_false_eq_true] at hc)) <;> (try (exfalso; omega))) | (refine fun (hc : ¬ _) => ?_; try (simp (disch := decide) only [up_n, up_s, cp_n, rw_n, rw_s, up1_, if_true, if_false, ite_true, ite_false, reduceIte, eq_self, Int.reduceEq, true_and, and_true, not_true_eq_false, not_false_eq_true] at hc)) | (refine fun (hc : _ = _) => ?_; try (simp (disch := decide) only [up_n, up_s, cp_n, rw_n, rw_s, up1_, if_true, if_false, ite_true, ite_false, reduceIte, eq_self, Int.reduceEq, true_and, and_true, not_true_eq_false, not_false_eq_true] at hc)))
    all_goals first | (exfalso; omega) | (exfalso; simp (disch := decide) only [up_n, up_s, cp_n, rw_n, rw_s, up1_, if_true, if_false, ite_true, ite_false, reduceIte, eq_self, Int.reduceEq, true_and, and_true, not_true_eq_false, not_false_eq_true] at *; omega) | skip
    all_goals (refine c_blockAt (b := tg1 p f) (a := ad p lg (tg1 p f)) (by simp (disch := decide) only [up_n, up_s, cp_n, rw_n, rw_s, up1_, if_true, if_false, ite_true, ite_false, reduceIte, eq_self, Int.reduceEq, true_and, and_true, not_true_eq_false, not_false_eq_true]; omega) hbk.2 hbk.1 e32t ?_)
    all_goals (repeat' (first | (refine And.intro (by first | omega | (simp (disch := decide) only [up_n, up_s, cp_n, rw_n, rw_s, up1_, if_true, if_false, ite_true, ite_false, reduceIte, eq_self, Int.reduceEq, true_and, and_true, not_true_eq_false, not_false_eq_true]; omega)) ?_) | (refine And.intro (fun hc => ?_) (fun hc => ?_) <;> (try (simp (disch := decide) only [up_n, up_s, cp_n, rw_n, rw_s, up1_, if_true, if_false, ite_true, ite_false, reduceIte, eq_self, Int.reduceEq, true_and, and_true, not_true_eq_false, not_false_eq_true] at hc)) <;> (try (exfalso; omega))) | (refine fun (hc : ¬ _) => ?_; try (simp (disch := decide) only [up_n, up_s, cp_n, rw_n, rw_s, up1_, if_true, if_false, ite_true, ite_false, reduceIte, eq_self, Int.reduceEq, true_and, and_true, not_true_eq_false, not_false_eq_true] at hc)) | (refine fun (hc : _ = _) => ?_; try (simp (disch := decide) only [up_n, up_s, cp_n, rw_n, rw_s, up1_, if_true, if_false, ite_true, ite_false, reduceIte, eq_self, Int.reduceEq, true_and, and_true, not_true_eq_false, not_false_eq_true] at hc))))
    all_goals (exact hh)
set_option maxHeartbeats 4000000 in
set_option maxRecDepth 100000 in
theorem c_ab_go_52 {N p : fr_M} {lg : Int → Int} {b v3 : Int} {r44 g gc gr : Int → Int} {Q : Option fr_V → fr_H → fr_M → Prop} (hw : WF p) (hN : BN p lg N) (hb : 0 ≤ b ∧ b < p 75 4) (hk : p 82 b = 2 ∨ p 82 b = 6) (hg : 0 ≤ g 6 ∧ g 6 ≤ 1000) (h : ∀ r, Q (some (.inl (p 84 (4 * b + 0)))) sh0 (rw_ (rw_ (rw_ (rw_ N 44 r) 52 (if tg1 p b ≠ -1 then up1 g 6 (g 6 + 1) else g)) 56 gc) 57 gr)) : fr_Run 96 none 24 [some (.inr (.inl 44)), some (.inl b), some (.inr (.inl 52)), some (.inl v3), none] [] sh0 (rw_ (rw_ (rw_ (rw_ N 44 r44) 52 g) 56 gc) 57 gr) 0 0 Q := by
  have h40 := hw.1.1
  obtain ⟨e31, e32, e33, e6⟩ := hN.2.1 b hb.1 hb.2
  have hab := ad_b hw (lg := lg) hb
  have hsz := (hw.2.2.2.2.2.1 b hb.1 hb.2).1
  have hwt := w0_tg (p := p) (b := b) (by omega)
  have hwr := (w_rng hw hb).1 (by omega)
  have ew : w0 p b = p 84 (4 * b + 0) := by
    show p 84 (4 * b) = _
    congr 1
    omega
  have ej : jb0 p lg b = ea p lg b := by
    unfold jb0 c5
    rw [if_neg (by omega), (s0_b (p := p) (lg := lg) (b := b)).2 (by omega)]
    omega
  have e32' : N 32 b + N 6 b = ea p lg b := by
    rw [e32, e6]
    rfl
  refine fr_go k96 [35] 400 rfl ?_
  repeat' (first | (refine And.intro (by first | omega | (simp (disch := decide) only [up_n, up_s, cp_n, rw_n, rw_s, up1_, if_true, if_false, ite_true, ite_false, reduceIte, eq_self, Int.reduceEq, true_and, and_true, not_true_eq_false, not_false_eq_true]; omega)) ?_) | (refine And.intro (fun hc => ?_) (fun hc => ?_) <;> (try (simp (disch := decide) only [up_n, up_s, cp_n, rw_n, rw_s, up1_, if_true, if_false, ite_true, ite_false, reduceIte, eq_self, Int.reduceEq, true_and, and_true, not_true_eq_false, not_false_eq_true] at hc)) <;> (try (exfalso; omega))) | (refine fun (hc : ¬ _) => ?_; try (simp (disch := decide) only [up_n, up_s, cp_n, rw_n, rw_s, up1_, if_true, if_false, ite_true, ite_false, reduceIte, eq_self, Int.reduceEq, true_and, and_true, not_true_eq_false, not_false_eq_true] at hc)) | (refine fun (hc : _ = _) => ?_; try (simp (disch := decide) only [up_n, up_s, cp_n, rw_n, rw_s, up1_, if_true, if_false, ite_true, ite_false, reduceIte, eq_self, Int.reduceEq, true_and, and_true, not_true_eq_false, not_false_eq_true] at hc)))
  refine c_endAddress (by omega) (by simp (disch := decide) only [up_n, up_s, cp_n, rw_n, rw_s, up1_, if_true, if_false, ite_true, ite_false, reduceIte, eq_self, Int.reduceEq, true_and, and_true, not_true_eq_false, not_false_eq_true]; omega) ?_
  repeat' (first | (refine And.intro (by first | omega | (simp (disch := decide) only [up_n, up_s, cp_n, rw_n, rw_s, up1_, if_true, if_false, ite_true, ite_false, reduceIte, eq_self, Int.reduceEq, true_and, and_true, not_true_eq_false, not_false_eq_true]; omega)) ?_) | (refine And.intro (fun hc => ?_) (fun hc => ?_) <;> (try (simp (disch := decide) only [up_n, up_s, cp_n, rw_n, rw_s, up1_, if_true, if_false, ite_true, ite_false, reduceIte, eq_self, Int.reduceEq, true_and, and_true, not_true_eq_false, not_false_eq_true] at hc)) <;> (try (exfalso; omega))) | (refine fun (hc : ¬ _) => ?_; try (simp (disch := decide) only [up_n, up_s, cp_n, rw_n, rw_s, up1_, if_true, if_false, ite_true, ite_false, reduceIte, eq_self, Int.reduceEq, true_and, and_true, not_true_eq_false, not_false_eq_true] at hc)) | (refine fun (hc : _ = _) => ?_; try (simp (disch := decide) only [up_n, up_s, cp_n, rw_n, rw_s, up1_, if_true, if_false, ite_true, ite_false, reduceIte, eq_self, Int.reduceEq, true_and, and_true, not_true_eq_false, not_false_eq_true] at hc)))
  all_goals (show fr_Run 96 none 35 _ _ _ _ 0 0 Q)
  simp (disch := decide) only [up_n, up_s, cp_n, rw_n, rw_s, up1_, if_true, if_false, ite_true, ite_false, reduceIte, eq_self, Int.reduceEq, true_and, and_true, not_true_eq_false, not_false_eq_true]
  rw [e32', ← ej]
  simp (disch := decide) only [up_rw, rw_u, up_up, rw_rw, rw_cm]
  refine c_ab_j_52 hw hN hb (by omega) (by omega) rfl rfl hg (fun q r => ?_) (fun q => ?_)
  · have hh := h r
    rw [if_pos q, ← hwt.1 q] at hh
    exact hh
  · have hh := h (up1 (up1 r44 4 b) 5 (jb0 p lg b))
    rw [if_neg (fun z => z q)] at hh
    rcases hwt.2 q with e | e
    · rw [e]
      exact hh
    · rw [← ew] at e
      omega
set_option maxHeartbeats 4000000 in
set_option maxRecDepth 100000 in
theorem c_ab_j_66 {N p : fr_M} {lg : Int → Int} {b f v3 i : Int} {r44 g gc gr : Int → Int} {Q : Option fr_V → fr_H → fr_M → Prop} (hw : WF p) (hN : BN p lg N) (hf : 0 ≤ f ∧ f < p 75 4) (hk : p 82 f = 2 ∨ p 82 f = 3 ∨ p 82 f = 5 ∨ p 82 f = 6) (hi : 0 ≤ i ∧ i < 4) (h4 : r44 4 = f) (h5 : r44 5 = jb0 p lg f) (hg : 0 ≤ g 6 ∧ g 6 ≤ 1000) (h1 : tg1 p f ≠ -1 → ∀ r, Q (some (.inl (tg1 p f))) sh0 (rw_ (rw_ (rw_ (rw_ N 44 r) 66 (up1 g 6 (g 6 + 1))) 70 gc) 71 gr)) (h0 : tg1 p f = -1 → Q (some (.inl (nx p f))) sh0 (rw_ (rw_ (rw_ (rw_ N 44 r44) 66 g) 70 gc) 71 gr)) : fr_Run 96 none 35 [some (.inr (.inl 44)), some (.inl b), some (.inr (.inl 66)), some (.inl v3), some (.inl i)] [] sh0 (rw_ (rw_ (rw_ (rw_ N 44 r44) 66 g) 70 gc) 71 gr) 0 0 Q := by
  have h40 := hw.1.1
  obtain ⟨e31, e32, e33, e6⟩ := hN.2.1 f hf.1 hf.2
  have hab := ad_b hw (lg := lg) hf
  have hsz := (hw.2.2.2.2.2.1 f hf.1 hf.2).1
  have hj0 : jb0 p lg f = ea p lg f + c5 p f + s0 p lg f := rfl
  have hz1 := s1_e (p := p) (lg := lg) (b := f)
  have z0 := s0_b (p := p) (lg := lg) (b := f)
  have zc : 0 ≤ c5 p f ∧ c5 p f ≤ 5 := by
    unfold c5
    split <;> omega
  have hbe : be p lg f = ea p lg f + c5 p f + s0 p lg f + s1 p lg f := by
    show ed p lg f (ea p lg f) = _
    unfold ed
    rw [if_neg (by omega), if_neg (by omega)]
  have e33' : N 33 (r44 4) = be p lg f := by rw [h4]; exact e33
  have e31' : N 31 (r44 4) = nx p f := by rw [h4]; exact e31
  by_cases ht : tg1 p f = -1
  · rw [if_pos ht] at hz1
    have hh := h0 ht
    clear h0 h1
    refine fr_go k96 [35] 400 rfl ?_
    repeat' (first | (refine And.intro (by first | omega | (simp (disch := decide) only [up_n, up_s, cp_n, rw_n, rw_s, up1_, if_true, if_false, ite_true, ite_false, reduceIte, eq_self, Int.reduceEq, true_and, and_true, not_true_eq_false, not_false_eq_true]; omega)) ?_) | (refine And.intro (fun hc => ?_) (fun hc => ?_) <;> (try (simp (disch := decide) only [up_n, up_s, cp_n, rw_n, rw_s, up1_, if_true, if_false, ite_true, ite_false, reduceIte, eq_self, Int.reduceEq, true_and, and_true, not_true_eq_false, not_false_eq_true] at hc)) <;> (try (exfalso; omega))) | (refine fun (hc : ¬ _) => ?_; try (simp (disch := decide) only [up_n, up_s, cp_n, rw_n, rw_s, up1_, if_true, if_false, ite_true, ite_false, reduceIte, eq_self, Int.reduceEq, true_and, and_true, not_true_eq_false, not_false_eq_true] at hc)) | (refine fun (hc : _ = _) => ?_; try (simp (disch := decide) only [up_n, up_s, cp_n, rw_n, rw_s, up1_, if_true, if_false, ite_true, ite_false, reduceIte, eq_self, Int.reduceEq, true_and, and_true, not_true_eq_false, not_false_eq_true] at hc)))
    all_goals first | (exfalso; omega) | (exfalso; simp (disch := decide) only [up_n, up_s, cp_n, rw_n, rw_s, up1_, if_true, if_false, ite_true, ite_false, reduceIte, eq_self, Int.reduceEq, true_and, and_true, not_true_eq_false, not_false_eq_true] at *; omega) | skip
    all_goals (show Q (some (.inl _)) sh0 _)
    all_goals (simp (disch := decide) only [up_n, up_s, cp_n, rw_n, rw_s, up1_, if_true, if_false, ite_true, ite_false, reduceIte, eq_self, Int.reduceEq, true_and, and_true, not_true_eq_false, not_false_eq_true])
    all_goals (rw [e31'])
    all_goals (exact hh)
  · rw [if_neg ht] at hz1
    have hh := h1 ht (up1 r44 5 (ad p lg (tg1 p f)))
    have tr := (tg1_rng hw hf).resolve_left ht
    have hbk := bn_blk hw hN tr
    have e32t := (hN.2.1 _ tr.1 tr.2).2.1
    have hcc := hN.1
    have hs1 : 2 ≤ s1 p lg f := by
      rcases hN.2.2.2.2 (2 * f + 1) with q | q
      · rw [if_neg (by omega)] at hz1
        omega
      · rw [if_pos q] at hz1
        omega
    clear h0 h1
    refine fr_go k96 [35] 400 rfl ?_
    repeat' (first | (refine And.intro (by first | omega | (simp (disch := decide) only [up_n, up_s, cp_n, rw_n, rw_s, up1_, if_true, if_false, ite_true, ite_false, reduceIte, eq_self, Int.reduceEq, true_and, and_true, not_true_eq_false, not_false_eq_true]; omega)) ?_) | (refine c_rdJump_66 hw hN hf hk ht h5 hg ?_) | (refine And.intro (fun hc => ?_) (fun hc => ?_) <;> (try (simp (disch := decide) only [up_n, up_s, cp_n, rw_n, rw_s, up1_, if_true, if_false, ite_true, ite_false, reduceIte, eq_self, Int.reduceEq, true_and, and_true, not_true_eq_false, not_false_eq_true] at hc)) <;> (try (exfalso; omega))) | (refine fun (hc : ¬ _) => ?_; try (simp (disch := decide) only [up_n, up_s, cp_n, rw_n, rw_s, up1_, if_true, if_false, ite_true, ite_false, reduceIte, eq_self, Int.reduceEq, true_and, and_true, not_true_eq_false, not_false_eq_true] at hc)) | (refine fun (hc : _ = _) => ?_; try (simp (disch := decide) only [up_n, up_s, cp_n, rw_n, rw_s, up1_, if_true, if_false, ite_true, ite_false, reduceIte, eq_self, Int.reduceEq, true_and, and_true, not_true_eq_false, not_false_eq_true] at hc)))
    all_goals first | (exfalso; omega) | (exfalso; simp (disch := decide) only [up_n, up_s, cp_n, rw_n, rw_s, up1_, if_true, if_false, ite_true, ite_false, reduceIte, eq_self, Int.reduceEq, true_and, and_true, not_true_eq_false, not_false_eq_true] at *; omega) | skip
    all_goals (refine c_blockAt (b := tg1 p f) (a := ad p lg (tg1 p f)) (by simp (disch := decide) only [up_n, up_s, cp_n, rw_n, rw_s, up1_, if_true, if_false, ite_true, ite_false, reduceIte, eq_self, Int.reduceEq, true_and, and_true, not_true_eq_false, not_false_eq_true]; omega) hbk.2 hbk.1 e32t ?_)
    all_goals (repeat' (first | (refine And.intro (by first | omega | (simp (disch := decide) only [up_n, up_s, cp_n, rw_n, rw_s, up1_, if_true, if_false, ite_true, ite_false, reduceIte, eq_self, Int.reduceEq, true_and, and_true, not_true_eq_false, not_false_eq_true]; omega)) ?_) | (refine And.intro (fun hc => ?_) (fun hc => ?_) <;> (try (simp (disch := decide) only [up_n, up_s, cp_n, rw_n, rw_s, up1_, if_true, if_false, ite_true, ite_false, reduceIte, eq_self, Int.reduceEq, true_and, and_true, not_true_eq_false, not_false_eq_true] at hc)) <;> (try (exfalso; omega))) | (refine fun (hc : ¬ _) => ?_; try (simp (disch := decide) only [up_n, up_s, cp_n, rw_n, rw_s, up1_, if_true, if_false, ite_true, ite_false, reduceIte, eq_self, Int.reduceEq, true_and, and_true, not_true_eq_false, not_false_eq_true] at hc)) | (refine fun (hc : _ = _) => ?_; try (simp (disch := decide) only [up_n, up_s, cp_n, rw_n, rw_s, up1_, if_true, if_false, ite_true, ite_false, reduceIte, eq_self, Int.reduceEq, true_and, and_true, not_true_eq_false, not_false_eq_true] at hc))))
    all_goals (exact hh)
set_option maxHeartbeats 4000000 in
set_option maxRecDepth 100000 in
theorem c_ab_go_66 {N p : fr_M} {lg : Int → Int} {b v3 : Int} {r44 g gc gr : Int → Int} {Q : Option fr_V → fr_H → fr_M → Prop} (hw : WF p) (hN : BN p lg N) (hb : 0 ≤ b ∧ b < p 75 4) (hk : p 82 b = 2 ∨ p 82 b = 6) (hg : 0 ≤ g 6 ∧ g 6 ≤ 1000) (h : ∀ r, Q (some (.inl (p 84 (4 * b + 0)))) sh0 (rw_ (rw_ (rw_ (rw_ N 44 r) 66 (if tg1 p b ≠ -1 then up1 g 6 (g 6 + 1) else g)) 70 gc) 71 gr)) : fr_Run 96 none 24 [some (.inr (.inl 44)), some (.inl b), some (.inr (.inl 66)), some (.inl v3), none] [] sh0 (rw_ (rw_ (rw_ (rw_ N 44 r44) 66 g) 70 gc) 71 gr) 0 0 Q := by
  have h40 := hw.1.1
  obtain ⟨e31, e32, e33, e6⟩ := hN.2.1 b hb.1 hb.2
  have hab := ad_b hw (lg := lg) hb
  have hsz := (hw.2.2.2.2.2.1 b hb.1 hb.2).1
  have hwt := w0_tg (p := p) (b := b) (by omega)
  have hwr := (w_rng hw hb).1 (by omega)
  have ew : w0 p b = p 84 (4 * b + 0) := by
    show p 84 (4 * b) = _
    congr 1
    omega
  have ej : jb0 p lg b = ea p lg b := by
    unfold jb0 c5
    rw [if_neg (by omega), (s0_b (p := p) (lg := lg) (b := b)).2 (by omega)]
    omega
  have e32' : N 32 b + N 6 b = ea p lg b := by
    rw [e32, e6]
    rfl
  refine fr_go k96 [35] 400 rfl ?_
  repeat' (first | (refine And.intro (by first | omega | (simp (disch := decide) only [up_n, up_s, cp_n, rw_n, rw_s, up1_, if_true, if_false, ite_true, ite_false, reduceIte, eq_self, Int.reduceEq, true_and, and_true, not_true_eq_false, not_false_eq_true]; omega)) ?_) | (refine And.intro (fun hc => ?_) (fun hc => ?_) <;> (try (simp (disch := decide) only [up_n, up_s, cp_n, rw_n, rw_s, up1_, if_true, if_false, ite_true, ite_false, reduceIte, eq_self, Int.reduceEq, true_and, and_true, not_true_eq_false, not_false_eq_true] at hc)) <;> (try (exfalso; omega))) | (refine fun (hc : ¬ _) => ?_; try (simp (disch := decide) only [up_n, up_s, cp_n, rw_n, rw_s, up1_, if_true, if_false, ite_true, ite_false, reduceIte, eq_self, Int.reduceEq, true_and, and_true, not_true_eq_false, not_false_eq_true] at hc)) | (refine fun (hc : _ = _) => ?_; try (simp (disch := decide) only [up_n, up_s, cp_n, rw_n, rw_s, up1_, if_true, if_false, ite_true, ite_false, reduceIte, eq_self, Int.reduceEq, true_and, and_true, not_true_eq_false, not_false_eq_true] at hc)))
  refine c_endAddress (by omega) (by simp (disch := decide) only [up_n, up_s, cp_n, rw_n, rw_s, up1_, if_true, if_false, ite_true, ite_false, reduceIte, eq_self, Int.reduceEq, true_and, and_true, not_true_eq_false, not_false_eq_true]; omega) ?_
  repeat' (first | (refine And.intro (by first | omega | (simp (disch := decide) only [up_n, up_s, cp_n, rw_n, rw_s, up1_, if_true, if_false, ite_true, ite_false, reduceIte, eq_self, Int.reduceEq, true_and, and_true, not_true_eq_false, not_false_eq_true]; omega)) ?_) | (refine And.intro (fun hc => ?_) (fun hc => ?_) <;> (try (simp (disch := decide) only [up_n, up_s, cp_n, rw_n, rw_s, up1_, if_true, if_false, ite_true, ite_false, reduceIte, eq_self, Int.reduceEq, true_and, and_true, not_true_eq_false, not_false_eq_true] at hc)) <;> (try (exfalso; omega))) | (refine fun (hc : ¬ _) => ?_; try (simp (disch := decide) only [up_n, up_s, cp_n, rw_n, rw_s, up1_, if_true, if_false, ite_true, ite_false, reduceIte, eq_self, Int.reduceEq, true_and, and_true, not_true_eq_false, not_false_eq_true] at hc)) | (refine fun (hc : _ = _) => ?_; try (simp (disch := decide) only [up_n, up_s, cp_n, rw_n, rw_s, up1_, if_true, if_false, ite_true, ite_false, reduceIte, eq_self, Int.reduceEq, true_and, and_true, not_true_eq_false, not_false_eq_true] at hc)))
  all_goals (show fr_Run 96 none 35 _ _ _ _ 0 0 Q)
  simp (disch := decide) only [up_n, up_s, cp_n, rw_n, rw_s, up1_, if_true, if_false, ite_true, ite_false, reduceIte, eq_self, Int.reduceEq, true_and, and_true, not_true_eq_false, not_false_eq_true]
  rw [e32', ← ej]
  simp (disch := decide) only [up_rw, rw_u, up_up, rw_rw, rw_cm]
  refine c_ab_j_66 hw hN hb (by omega) (by omega) rfl rfl hg (fun q r => ?_) (fun q => ?_)
  · have hh := h r
    rw [if_pos q, ← hwt.1 q] at hh
    exact hh
  · have hh := h (up1 (up1 r44 4 b) 5 (jb0 p lg b))
    rw [if_neg (fun z => z q)] at hh
    rcases hwt.2 q with e | e
    · rw [e]
      exact hh
    · rw [← ew] at e
      omega
