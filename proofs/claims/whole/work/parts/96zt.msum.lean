set_option maxHeartbeats 4000000 in
set_option maxRecDepth 100000 in
theorem m_su2 {W : fr_M} {r n s k x : Int} {fi fo pr : Int → Int} {Q : Option fr_V → fr_H → fr_M → Prop} (hP : PC W) (hR : RC W r n) (hJ : JI n fi fo pr) (h93 : ∀ i, 0 ≤ i → i < n → W 93 (W 77 (9 * r + i)) = if pr i = -1 then -9 else W 77 (9 * r + pr i)) (hk : 0 ≤ k ∧ k < n) (hx : 0 ≤ x ∧ x < n) (h95 : W 95 (W 77 (9 * r + k)) = 1) (hs : 0 ≤ s ∧ s ≤ 36000000) (h : fr_Run 170 none 59 [some (.inr (.inl 75)), some (.inl r), some (.inl (W 77 (9 * r + x))), some (.inl (s + ld W r fi k x)), some (.inl k), some (.inl (W 77 (9 * r + k))), some (.inl (W 83 (W 77 (9 * r + k))))] [] sh0 W 0 0 Q) : ∀ (t w : Nat), (w : Int) + t = W 83 (W 77 (9 * r + k)) → fr_Run 170 none 21 [some (.inr (.inl 75)), some (.inl r), some (.inl (W 77 (9 * r + x))), some (.inl (s + ldw W (W 77 (9 * r + k)) fi x w)), some (.inl k), some (.inl (W 77 (9 * r + k))), some (.inl (w : Int))] [] sh0 W 0 0 Q := by
  have hr := hR.1
  have hn9 := hR.2.2.1
  have hbl := hR.bl hk
  have hinj := hR.2.2.2.2.1
  intro t
  induction t with
  | zero =>
    intro w q0
    unfold ld at h
    rw [show (W 83 (W 77 (9 * r + k))).toNat = w by omega] at h
    have e : W 83 (W 77 (9 * r + k)) = (w : Int) := by omega
    rw [e] at h
    clear hP hR h93 hJ hinj
    generalize W 77 (9 * r + k) = b at *
    refine fr_go k170 [21, 59] 400 rfl ?_
    repeat' (first | (refine And.intro (by first | omega | (simp (disch := decide) only [up_n, up_s, cp_n, rw_n, rw_s, up1_, if_true, if_false, ite_true, ite_false, reduceIte, eq_self, Int.reduceEq, true_and, and_true, not_true_eq_false, not_false_eq_true]; omega)) ?_) | (refine And.intro (fun hc => ?_) (fun hc => ?_) <;> (try (simp (disch := decide) only [up_n, up_s, cp_n, rw_n, rw_s, up1_, if_true, if_false, ite_true, ite_false, reduceIte, eq_self, Int.reduceEq, true_and, and_true, not_true_eq_false, not_false_eq_true] at hc)) <;> (try (exfalso; omega))) | (refine fun (hc : ¬ _) => ?_; try (simp (disch := decide) only [up_n, up_s, cp_n, rw_n, rw_s, up1_, if_true, if_false, ite_true, ite_false, reduceIte, eq_self, Int.reduceEq, true_and, and_true, not_true_eq_false, not_false_eq_true] at hc)) | (refine fun (hc : _ = _) => ?_; try (simp (disch := decide) only [up_n, up_s, cp_n, rw_n, rw_s, up1_, if_true, if_false, ite_true, ite_false, reduceIte, eq_self, Int.reduceEq, true_and, and_true, not_true_eq_false, not_false_eq_true] at hc)))
    all_goals first | (exfalso; omega) | exact h
  | succ t ih =>
    intro w q0
    have hh := ih (w + 1) (by omega)
    have hway := hP.way hR hk (w := (w : Int)) (by omega)
    have hfr := hJ.1 _ hway.1.1 hway.1.2
    have hhd := fun Q' hq => m_headOf (W := W) (r := r) (n := n) (i := W 5 (W 84 (4 * W 77 (9 * r + k) + (w : Int)))) (x := W 84 (4 * W 77 (9 * r + k) + (w : Int))) (Q := Q') hR hJ h93 hway.1 hway.2.1 hq
    have hcmp : W 77 (9 * r + fi (W 5 (W 84 (4 * W 77 (9 * r + k) + (w : Int))))) = W 77 (9 * r + x) ↔ fi (W 5 (W 84 (4 * W 77 (9 * r + k) + (w : Int)))) = x := by
      constructor
      · intro q
        exact hinj _ _ hfr.1 hfr.2.1 hx.1 hx.2 q
      · intro q
        rw [q]
    have h85 := hR.2.2.2.2.2 (4 * W 77 (9 * r + k) + (w : Int)) (by omega) (by omega)
    have hlb := ldw_b (fi := fi) (x := x) hbl.1 hR.2.2.2.2.2 w (by omega)
    rw [ldw, show ((w + 1 : Nat) : Int) = (w : Int) + 1 by omega] at hh
    clear ih h hP hR h93 hJ hinj hway hfr
    generalize W 77 (9 * r + k) = b at *
    generalize W 77 (9 * r + x) = T at *
    by_cases c : fi (W 5 (W 84 (4 * b + (w : Int)))) = x
    · rw [if_pos c, ← Int.add_assoc] at hh
      have hc := hcmp.mpr c
      clear hcmp c
      generalize W 77 (9 * r + fi (W 5 (W 84 (4 * b + (w : Int))))) = H at *
      refine fr_go k170 [21, 59] 400 rfl ?_
      repeat' (first | (refine And.intro (by first | omega | (simp (disch := decide) only [up_n, up_s, cp_n, rw_n, rw_s, up1_, if_true, if_false, ite_true, ite_false, reduceIte, eq_self, Int.reduceEq, true_and, and_true, not_true_eq_false, not_false_eq_true]; omega)) ?_) | (refine And.intro (fun hc => ?_) (fun hc => ?_) <;> (try (simp (disch := decide) only [up_n, up_s, cp_n, rw_n, rw_s, up1_, if_true, if_false, ite_true, ite_false, reduceIte, eq_self, Int.reduceEq, true_and, and_true, not_true_eq_false, not_false_eq_true] at hc)) <;> (try (exfalso; omega))) | (refine fun (hc : ¬ _) => ?_; try (simp (disch := decide) only [up_n, up_s, cp_n, rw_n, rw_s, up1_, if_true, if_false, ite_true, ite_false, reduceIte, eq_self, Int.reduceEq, true_and, and_true, not_true_eq_false, not_false_eq_true] at hc)) | (refine fun (hc : _ = _) => ?_; try (simp (disch := decide) only [up_n, up_s, cp_n, rw_n, rw_s, up1_, if_true, if_false, ite_true, ite_false, reduceIte, eq_self, Int.reduceEq, true_and, and_true, not_true_eq_false, not_false_eq_true] at hc)))
      all_goals first | (exfalso; omega) | skip
      refine hhd _ ?_
      repeat' (first | (refine And.intro (by first | omega | (simp (disch := decide) only [up_n, up_s, cp_n, rw_n, rw_s, up1_, if_true, if_false, ite_true, ite_false, reduceIte, eq_self, Int.reduceEq, true_and, and_true, not_true_eq_false, not_false_eq_true]; omega)) ?_) | (refine And.intro (fun hc => ?_) (fun hc => ?_) <;> (try (simp (disch := decide) only [up_n, up_s, cp_n, rw_n, rw_s, up1_, if_true, if_false, ite_true, ite_false, reduceIte, eq_self, Int.reduceEq, true_and, and_true, not_true_eq_false, not_false_eq_true] at hc)) <;> (try (exfalso; omega))) | (refine fun (hc : ¬ _) => ?_; try (simp (disch := decide) only [up_n, up_s, cp_n, rw_n, rw_s, up1_, if_true, if_false, ite_true, ite_false, reduceIte, eq_self, Int.reduceEq, true_and, and_true, not_true_eq_false, not_false_eq_true] at hc)) | (refine fun (hc : _ = _) => ?_; try (simp (disch := decide) only [up_n, up_s, cp_n, rw_n, rw_s, up1_, if_true, if_false, ite_true, ite_false, reduceIte, eq_self, Int.reduceEq, true_and, and_true, not_true_eq_false, not_false_eq_true] at hc)))
      all_goals first | (exfalso; omega) | exact hh
    · rw [if_neg c] at hh
      rw [show ldw W b fi x w + 0 = ldw W b fi x w by omega] at hh
      have hc : ¬ _ := fun q => c (hcmp.mp q)
      clear hcmp c
      generalize W 77 (9 * r + fi (W 5 (W 84 (4 * b + (w : Int))))) = H at *
      rw [show s + ldw W b fi x w = s + ldw W b fi x w + 0 by omega] at hh
      refine fr_go k170 [21, 59] 400 rfl ?_
      repeat' (first | (refine And.intro (by first | omega | (simp (disch := decide) only [up_n, up_s, cp_n, rw_n, rw_s, up1_, if_true, if_false, ite_true, ite_false, reduceIte, eq_self, Int.reduceEq, true_and, and_true, not_true_eq_false, not_false_eq_true]; omega)) ?_) | (refine And.intro (fun hc => ?_) (fun hc => ?_) <;> (try (simp (disch := decide) only [up_n, up_s, cp_n, rw_n, rw_s, up1_, if_true, if_false, ite_true, ite_false, reduceIte, eq_self, Int.reduceEq, true_and, and_true, not_true_eq_false, not_false_eq_true] at hc)) <;> (try (exfalso; omega))) | (refine fun (hc : ¬ _) => ?_; try (simp (disch := decide) only [up_n, up_s, cp_n, rw_n, rw_s, up1_, if_true, if_false, ite_true, ite_false, reduceIte, eq_self, Int.reduceEq, true_and, and_true, not_true_eq_false, not_false_eq_true] at hc)) | (refine fun (hc : _ = _) => ?_; try (simp (disch := decide) only [up_n, up_s, cp_n, rw_n, rw_s, up1_, if_true, if_false, ite_true, ite_false, reduceIte, eq_self, Int.reduceEq, true_and, and_true, not_true_eq_false, not_false_eq_true] at hc)))
      all_goals first | (exfalso; omega) | skip
      refine hhd _ ?_
      repeat' (first | (refine And.intro (by first | omega | (simp (disch := decide) only [up_n, up_s, cp_n, rw_n, rw_s, up1_, if_true, if_false, ite_true, ite_false, reduceIte, eq_self, Int.reduceEq, true_and, and_true, not_true_eq_false, not_false_eq_true]; omega)) ?_) | (refine And.intro (fun hc => ?_) (fun hc => ?_) <;> (try (simp (disch := decide) only [up_n, up_s, cp_n, rw_n, rw_s, up1_, if_true, if_false, ite_true, ite_false, reduceIte, eq_self, Int.reduceEq, true_and, and_true, not_true_eq_false, not_false_eq_true] at hc)) <;> (try (exfalso; omega))) | (refine fun (hc : ¬ _) => ?_; try (simp (disch := decide) only [up_n, up_s, cp_n, rw_n, rw_s, up1_, if_true, if_false, ite_true, ite_false, reduceIte, eq_self, Int.reduceEq, true_and, and_true, not_true_eq_false, not_false_eq_true] at hc)) | (refine fun (hc : _ = _) => ?_; try (simp (disch := decide) only [up_n, up_s, cp_n, rw_n, rw_s, up1_, if_true, if_false, ite_true, ite_false, reduceIte, eq_self, Int.reduceEq, true_and, and_true, not_true_eq_false, not_false_eq_true] at hc)))
      all_goals first | (exfalso; omega) | exact hh
set_option maxHeartbeats 4000000 in
set_option maxRecDepth 100000 in
theorem m_su1 {W : fr_M} {r n x : Int} {fi fo pr pl : Int → Int} {Q : Option fr_V → fr_H → fr_M → Prop} (hP : PC W) (hR : RC W r n) (hJ : JI n fi fo pr) (h93 : ∀ i, 0 ≤ i → i < n → W 93 (W 77 (9 * r + i)) = if pr i = -1 then -9 else W 77 (9 * r + pr i)) (hx : 0 ≤ x ∧ x < n) (h95 : ∀ y, 0 ≤ y → y < n → W 95 (W 77 (9 * r + y)) = pl y) (hp01 : ∀ y, pl y = 0 ∨ pl y = 1) (h : Q (some (.inl (sm (fun k => if pl k = 1 then ld W r fi k x else 0) n.toNat))) sh0 W) : ∀ (t k : Nat) (x5 x6 : Option fr_V), (k : Int) + t = n → fr_Run 170 none 4 [some (.inr (.inl 75)), some (.inl r), some (.inl (W 77 (9 * r + x))), some (.inl (sm (fun k => if pl k = 1 then ld W r fi k x else 0) k)), some (.inl (k : Int)), x5, x6] [] sh0 W 0 0 Q := by
  have hr := hR.1
  have hm := hR.2.1
  have hn9 := hR.2.2.1
  intro t
  induction t with
  | zero =>
    intro k x5 x6 q0
    rw [show n.toNat = k by omega] at h
    refine fr_go k170 [4] 400 rfl ?_
    repeat' (first | (refine And.intro (by first | omega | (simp (disch := decide) only [up_n, up_s, cp_n, rw_n, rw_s, up1_, if_true, if_false, ite_true, ite_false, reduceIte, eq_self, Int.reduceEq, true_and, and_true, not_true_eq_false, not_false_eq_true]; omega)) ?_) | (refine And.intro (fun hc => ?_) (fun hc => ?_) <;> (try (simp (disch := decide) only [up_n, up_s, cp_n, rw_n, rw_s, up1_, if_true, if_false, ite_true, ite_false, reduceIte, eq_self, Int.reduceEq, true_and, and_true, not_true_eq_false, not_false_eq_true] at hc)) <;> (try (exfalso; omega))) | (refine fun (hc : ¬ _) => ?_; try (simp (disch := decide) only [up_n, up_s, cp_n, rw_n, rw_s, up1_, if_true, if_false, ite_true, ite_false, reduceIte, eq_self, Int.reduceEq, true_and, and_true, not_true_eq_false, not_false_eq_true] at hc)) | (refine fun (hc : _ = _) => ?_; try (simp (disch := decide) only [up_n, up_s, cp_n, rw_n, rw_s, up1_, if_true, if_false, ite_true, ite_false, reduceIte, eq_self, Int.reduceEq, true_and, and_true, not_true_eq_false, not_false_eq_true] at hc)))
    all_goals first | (exfalso; omega) | exact h
  | succ t ih =>
    intro k x5 x6 q0
    have hk : 0 ≤ (k : Int) ∧ (k : Int) < n := by omega
    have hbl := hR.bl hk
    have h5 := h95 (k : Int) hk.1 hk.2
    have hsb := sm_b (u := fun k => if pl k = 1 then ld W r fi k x else 0) (B := 4000000) k (fun i i0 i1 => by
      have := ld_b (fi := fi) (x := x) hR (y := i) (by omega)
      show 0 ≤ (if pl i = 1 then ld W r fi i x else 0) ∧ (if pl i = 1 then ld W r fi i x else 0) ≤ 4000000
      split <;> omega)
    have hh := fun x5 x6 => ih (k + 1) x5 x6 (by omega)
    rw [sm, show ((k + 1 : Nat) : Int) = (k : Int) + 1 by omega] at hh
    rcases hp01 (k : Int) with c | c
    · rw [if_neg (by omega)] at hh
      rw [Int.add_zero] at hh
      clear ih h h95 h93
      refine fr_go k170 [4] 400 rfl ?_
      repeat' (first | (refine And.intro (by first | omega | (simp (disch := decide) only [up_n, up_s, cp_n, rw_n, rw_s, up1_, if_true, if_false, ite_true, ite_false, reduceIte, eq_self, Int.reduceEq, true_and, and_true, not_true_eq_false, not_false_eq_true]; omega)) ?_) | (refine And.intro (fun hc => ?_) (fun hc => ?_) <;> (try (simp (disch := decide) only [up_n, up_s, cp_n, rw_n, rw_s, up1_, if_true, if_false, ite_true, ite_false, reduceIte, eq_self, Int.reduceEq, true_and, and_true, not_true_eq_false, not_false_eq_true] at hc)) <;> (try (exfalso; omega))) | (refine fun (hc : ¬ _) => ?_; try (simp (disch := decide) only [up_n, up_s, cp_n, rw_n, rw_s, up1_, if_true, if_false, ite_true, ite_false, reduceIte, eq_self, Int.reduceEq, true_and, and_true, not_true_eq_false, not_false_eq_true] at hc)) | (refine fun (hc : _ = _) => ?_; try (simp (disch := decide) only [up_n, up_s, cp_n, rw_n, rw_s, up1_, if_true, if_false, ite_true, ite_false, reduceIte, eq_self, Int.reduceEq, true_and, and_true, not_true_eq_false, not_false_eq_true] at hc)))
      all_goals first | (exfalso; omega) | exact hh _ _
    · rw [if_pos c] at hh
      have h2 := m_su2 (Q := Q) (fi := fi) (s := sm (fun k => if pl k = 1 then ld W r fi k x else 0) k) (k := (k : Int)) (x := x) hP hR hJ h93 hk hx (by omega) (by omega) (by
        clear ih h h95 h93
        refine fr_go k170 [4] 400 rfl ?_
        repeat' (first | (refine And.intro (by first | omega | (simp (disch := decide) only [up_n, up_s, cp_n, rw_n, rw_s, up1_, if_true, if_false, ite_true, ite_false, reduceIte, eq_self, Int.reduceEq, true_and, and_true, not_true_eq_false, not_false_eq_true]; omega)) ?_) | (refine And.intro (fun hc => ?_) (fun hc => ?_) <;> (try (simp (disch := decide) only [up_n, up_s, cp_n, rw_n, rw_s, up1_, if_true, if_false, ite_true, ite_false, reduceIte, eq_self, Int.reduceEq, true_and, and_true, not_true_eq_false, not_false_eq_true] at hc)) <;> (try (exfalso; omega))) | (refine fun (hc : ¬ _) => ?_; try (simp (disch := decide) only [up_n, up_s, cp_n, rw_n, rw_s, up1_, if_true, if_false, ite_true, ite_false, reduceIte, eq_self, Int.reduceEq, true_and, and_true, not_true_eq_false, not_false_eq_true] at hc)) | (refine fun (hc : _ = _) => ?_; try (simp (disch := decide) only [up_n, up_s, cp_n, rw_n, rw_s, up1_, if_true, if_false, ite_true, ite_false, reduceIte, eq_self, Int.reduceEq, true_and, and_true, not_true_eq_false, not_false_eq_true] at hc)))
        exact hh _ _) (W 83 (W 77 (9 * r + (k : Int)))).toNat 0 (by omega)
      rw [show sm (fun k => if pl k = 1 then ld W r fi k x else 0) k + ldw W (W 77 (9 * r + (k : Int))) fi x 0 = sm (fun k => if pl k = 1 then ld W r fi k x else 0) k from Int.add_zero _] at h2
      clear ih h h95 h93 hh
      refine fr_go k170 [4, 21] 400 rfl ?_
      repeat' (first | (refine And.intro (by first | omega | (simp (disch := decide) only [up_n, up_s, cp_n, rw_n, rw_s, up1_, if_true, if_false, ite_true, ite_false, reduceIte, eq_self, Int.reduceEq, true_and, and_true, not_true_eq_false, not_false_eq_true]; omega)) ?_) | (refine And.intro (fun hc => ?_) (fun hc => ?_) <;> (try (simp (disch := decide) only [up_n, up_s, cp_n, rw_n, rw_s, up1_, if_true, if_false, ite_true, ite_false, reduceIte, eq_self, Int.reduceEq, true_and, and_true, not_true_eq_false, not_false_eq_true] at hc)) <;> (try (exfalso; omega))) | (refine fun (hc : ¬ _) => ?_; try (simp (disch := decide) only [up_n, up_s, cp_n, rw_n, rw_s, up1_, if_true, if_false, ite_true, ite_false, reduceIte, eq_self, Int.reduceEq, true_and, and_true, not_true_eq_false, not_false_eq_true] at hc)) | (refine fun (hc : _ = _) => ?_; try (simp (disch := decide) only [up_n, up_s, cp_n, rw_n, rw_s, up1_, if_true, if_false, ite_true, ite_false, reduceIte, eq_self, Int.reduceEq, true_and, and_true, not_true_eq_false, not_false_eq_true] at hc)))
      all_goals first | (exfalso; omega) | exact h2
set_option maxHeartbeats 4000000 in
set_option maxRecDepth 100000 in
theorem m_sumTo {W : fr_M} {r n x T : Int} {fi fo pr pl : Int → Int} {Q : Option fr_V → fr_H → fr_M → Prop} (hP : PC W) (hR : RC W r n) (hJ : JI n fi fo pr) (h93 : ∀ i, 0 ≤ i → i < n → W 93 (W 77 (9 * r + i)) = if pr i = -1 then -9 else W 77 (9 * r + pr i)) (hx : 0 ≤ x ∧ x < n) (h95 : ∀ y, 0 ≤ y → y < n → W 95 (W 77 (9 * r + y)) = pl y) (hp01 : ∀ y, pl y = 0 ∨ pl y = 1) (eT : W 77 (9 * r + x) = T) (h : Q (some (.inl (sm (fun k => if pl k = 1 then ld W r fi k x else 0) n.toNat))) sh0 W) : fr_Call 170 [.inr (.inl 75), .inl r, .inl T] sh0 W Q := by
  have hn9 := hR.2.2.1
  have hh := m_su1 (Q := Q) hP hR hJ h93 hx h95 hp01 h n.toNat 0 none none (by omega)
  rw [eT] at hh
  clear h
  refine fr_cgo k170 [some (.inr (.inl 75)), some (.inl r), some (.inl T), none, none, none, none] 0 0 [4] 400 rfl rfl rfl rfl ?_
  repeat' (first | (refine And.intro (by first | omega | (simp (disch := decide) only [up_n, up_s, cp_n, rw_n, rw_s, up1_, if_true, if_false, ite_true, ite_false, reduceIte, eq_self, Int.reduceEq, true_and, and_true, not_true_eq_false, not_false_eq_true]; omega)) ?_) | (refine And.intro (fun hc => ?_) (fun hc => ?_) <;> (try (simp (disch := decide) only [up_n, up_s, cp_n, rw_n, rw_s, up1_, if_true, if_false, ite_true, ite_false, reduceIte, eq_self, Int.reduceEq, true_and, and_true, not_true_eq_false, not_false_eq_true] at hc)) <;> (try (exfalso; omega))) | (refine fun (hc : ¬ _) => ?_; try (simp (disch := decide) only [up_n, up_s, cp_n, rw_n, rw_s, up1_, if_true, if_false, ite_true, ite_false, reduceIte, eq_self, Int.reduceEq, true_and, and_true, not_true_eq_false, not_false_eq_true] at hc)) | (refine fun (hc : _ = _) => ?_; try (simp (disch := decide) only [up_n, up_s, cp_n, rw_n, rw_s, up1_, if_true, if_false, ite_true, ite_false, reduceIte, eq_self, Int.reduceEq, true_and, and_true, not_true_eq_false, not_false_eq_true] at hc)))
  exact hh
