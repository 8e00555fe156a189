theorem PC.cg2 {M Y : fr_M} (h : PC M) (e : ∀ k i, pk k i → k ≠ 78 → Y k i = M k i) : PC Y := by
  have h' : PC (rw_ Y 78 (M 78)) := h.cg (fun k i hk => by
    by_cases c : k = 78
    · rw [c, rw_at]
    · rw [rw_n c]
      exact e k i hk c)
  obtain ⟨h1, h2, h3, h4, h5, h6, h7⟩ := h'
  exact ⟨h1, h2, h3, h4, h5, h6, h7⟩
theorem PRn.pm {N : fr_M} {r n : Int} {fi fo pr : Int → Int} (hR : RC N r n) (hJ : JI n fi fo pr) : ∀ (k : Nat) (rk : Int → Int) (pd : Nat) (pl : Int → Int) (x : Int) (rk' : Int → Int), PI n fi fo pr rk pd pl x → PRn n fi fo (ld N r fi) k rk pd pl x rk' → Pm n rk'
  | 0, rk, pd, pl, x, rk', hI, h => by
    obtain ⟨rfl, hs, e⟩ := h
    have hn := hR.2.2.1
    have a := (PI.all (S := fun z => sm (fun i => ld N r fi (rk i) z) pd) hn.1 hJ hI (PI.nn hR hI) hs).2
    refine ⟨by rw [e 0 (by omega) hn.1]; exact a.1, fun i i0 i1 => by rw [e i i0 i1]; exact a.2.1 i i0 i1, fun i j i0 i1 j0 j1 q => ?_⟩
    rw [e i i0 i1, e j j0 j1] at q
    exact a.2.2 i j i0 i1 j0 j1 q
  | k + 1, rk, pd, pl, x, rk', hI, h => by
    rcases h with ⟨hx, h⟩ | ⟨rfl, hs, h⟩
    · exact PRn.pm hR hJ k _ _ _ _ rk' (hI.place hJ hx) h
    · exact PRn.pm hR hJ k _ _ _ _ rk' (PI.pick (S := fun z => sm (fun i => ld N r fi (rk i) z) pd) hR.2.2.1.1 hJ hI (PI.nn hR hI) hs) h
set_option maxHeartbeats 4000000 in
set_option maxRecDepth 100000 in
theorem m_bc_l {N : fr_M} {r n : Int} {s : JS} {Q : Option fr_V → fr_H → fr_M → Prop} (hP : PC N) (hR : RC N r n) (hJ : JI n s.1 s.2.1 s.2.2.1) : ∀ (k : Nat) (W : fr_M) (rk : Int → Int) (pd : Nat) (pl : Int → Int) (x : Int) (rkF : Int → Int) (x3 : Int) (x5 x6 : Option fr_V), PRn n s.1 s.2.1 (ld N r s.1) k rk pd pl x rkF → PI n s.1 s.2.1 s.2.2.1 rk pd pl x → MPR n r s W rk pd pl → (∀ k i, ¬ (k = 78 ∨ k = 95) → W k i = N k i) → (∀ j, ¬ (9 * r ≤ j ∧ j < 9 * r + 9) → W 78 j = N 78 j) → (∀ W', (∀ k i, ¬ (k = 78 ∨ k = 95) → W' k i = N k i) → (∀ j, ¬ (9 * r ≤ j ∧ j < 9 * r + 9) → W' 78 j = N 78 j) → (∀ i, 0 ≤ i → i < n → W' 78 (9 * r + i) = N 77 (9 * r + rkF i)) → Q none sh0 W') → fr_Run 171 none 51 [some (.inr (.inl 75)), some (.inl r), some (.inl (pd : Int)), some (.inl x3), some (.inl (fnb N r x)), x5, x6] [] sh0 W 0 0 Q := by
  have hr := hR.1
  have hm := hR.2.1
  have hn9 := hR.2.2.1
  have hinj := hR.2.2.2.2.1
  have search : ∀ (W : fr_M) (rk : Int → Int) (pd : Nat) (pl : Int → Int) (x3 : Int) (x5 x6 : Option fr_V), PI n s.1 s.2.1 s.2.2.1 rk pd pl (-1) → MPR n r s W rk pd pl → (∀ k i, ¬ (k = 78 ∨ k = 95) → W k i = N k i) → (∀ x4 x5 x6, fr_Run 171 none 122 [some (.inr (.inl 75)), some (.inl r), some (.inl (pd : Int)), some (.inl (fnb W r (stg s.1 pl (fun z => sm (fun i => ld N r s.1 (rk i) z) pd) n.toNat).1)), x4, x5, x6] [] sh0 W 0 0 Q) → fr_Run 171 none 51 [some (.inr (.inl 75)), some (.inl r), some (.inl (pd : Int)), some (.inl x3), some (.inl (-9)), x5, x6] [] sh0 W 0 0 Q := by
    intro W rk pd pl x3 x5 x6 hI hM hf h
    have eld : ld W r s.1 = ld N r s.1 := by
      funext y x
      exact ld_cg (fun k i hk => hf k i (by omega))
    have hh := m_st_l (W := W) (r := r) (n := n) (pd := (pd : Int)) (s := s) (pl := pl) (S := fun z => sm (fun i => ld N r s.1 (rk i) z) pd) (x3 := some (.inl x3)) (Q := Q) (hP.cg2 (fun k i hk hk2 => hf k i (by omega))) (hR.cg (fun k i hk => hf k i (by omega))) hJ (fun i i0 i1 => (hM.1 i i0 i1).2) hM.2.2 hI.2.2.1 (fun z z0 z1 => by
      rw [eld]
      exact hI.2.2.2.1 (fun y => ld N r s.1 y z)) h n.toNat 0 x6 (by omega)
    replace hh : fr_Run 171 none 81 [some (.inr (.inl 75)), some (.inl r), some (.inl (pd : Int)), some (.inl (-9)), some (.inl (-1)), some (.inl 0), x6] [] sh0 W 0 0 Q := hh
    clear h hM hI
    refine fr_go k171 [81] 400 rfl ?_
    repeat' (first | (refine And.intro (by first | omega | (simp (disch := decide) only [up_n, up_s, cp_n, rw_n, rw_s, up1_, if_true, if_false, ite_true, ite_false, reduceIte, eq_self, Int.reduceEq, true_and, and_true, not_true_eq_false, not_false_eq_true]; omega)) ?_) | (refine And.intro (fun hc => ?_) (fun hc => ?_) <;> (try (simp (disch := decide) only [up_n, up_s, cp_n, rw_n, rw_s, up1_, if_true, if_false, ite_true, ite_false, reduceIte, eq_self, Int.reduceEq, true_and, and_true, not_true_eq_false, not_false_eq_true] at hc)) <;> (try (exfalso; omega))) | (refine fun (hc : ¬ _) => ?_; try (simp (disch := decide) only [up_n, up_s, cp_n, rw_n, rw_s, up1_, if_true, if_false, ite_true, ite_false, reduceIte, eq_self, Int.reduceEq, true_and, and_true, not_true_eq_false, not_false_eq_true] at hc)) | (refine fun (hc : _ = _) => ?_; try (simp (disch := decide) only [up_n, up_s, cp_n, rw_n, rw_s, up1_, if_true, if_false, ite_true, ite_false, reduceIte, eq_self, Int.reduceEq, true_and, and_true, not_true_eq_false, not_false_eq_true] at hc)))
    all_goals first | (exfalso; omega) | exact hh
  intro k
  induction k with
  | zero =>
    intro W rk pd pl x rkF x3 x5 x6 q1 q2 q3 q4 q5 h
    obtain ⟨rfl, hs, he⟩ := q1
    have hall := PI.all (S := fun z => sm (fun i => ld N r s.1 (rk i) z) pd) hn9.1 hJ q2 (PI.nn hR q2) hs
    have hh := h W q4 q5 (fun i i0 i1 => by
      rw [q3.2.1 i i0 (by omega), he i i0 i1]
      exact q4 77 _ (by omega))
    refine search W rk pd pl x3 x5 x6 q2 q3 q4 (fun x4 x5 x6 => ?_)
    rw [hs, show fnb W r (-1) = -9 from rfl]
    clear h search q2 q3 hall
    refine fr_go k171 [46] 400 rfl ?_
    repeat' (first | (refine And.intro (by first | omega | (simp (disch := decide) only [up_n, up_s, cp_n, rw_n, rw_s, up1_, if_true, if_false, ite_true, ite_false, reduceIte, eq_self, Int.reduceEq, true_and, and_true, not_true_eq_false, not_false_eq_true]; omega)) ?_) | (refine And.intro (fun hc => ?_) (fun hc => ?_) <;> (try (simp (disch := decide) only [up_n, up_s, cp_n, rw_n, rw_s, up1_, if_true, if_false, ite_true, ite_false, reduceIte, eq_self, Int.reduceEq, true_and, and_true, not_true_eq_false, not_false_eq_true] at hc)) <;> (try (exfalso; omega))) | (refine fun (hc : ¬ _) => ?_; try (simp (disch := decide) only [up_n, up_s, cp_n, rw_n, rw_s, up1_, if_true, if_false, ite_true, ite_false, reduceIte, eq_self, Int.reduceEq, true_and, and_true, not_true_eq_false, not_false_eq_true] at hc)) | (refine fun (hc : _ = _) => ?_; try (simp (disch := decide) only [up_n, up_s, cp_n, rw_n, rw_s, up1_, if_true, if_false, ite_true, ite_false, reduceIte, eq_self, Int.reduceEq, true_and, and_true, not_true_eq_false, not_false_eq_true] at hc)))
    refine fr_go k171 [] 400 rfl ?_
    repeat' (first | (refine And.intro (by first | omega | (simp (disch := decide) only [up_n, up_s, cp_n, rw_n, rw_s, up1_, if_true, if_false, ite_true, ite_false, reduceIte, eq_self, Int.reduceEq, true_and, and_true, not_true_eq_false, not_false_eq_true]; omega)) ?_) | (refine And.intro (fun hc => ?_) (fun hc => ?_) <;> (try (simp (disch := decide) only [up_n, up_s, cp_n, rw_n, rw_s, up1_, if_true, if_false, ite_true, ite_false, reduceIte, eq_self, Int.reduceEq, true_and, and_true, not_true_eq_false, not_false_eq_true] at hc)) <;> (try (exfalso; omega))) | (refine fun (hc : ¬ _) => ?_; try (simp (disch := decide) only [up_n, up_s, cp_n, rw_n, rw_s, up1_, if_true, if_false, ite_true, ite_false, reduceIte, eq_self, Int.reduceEq, true_and, and_true, not_true_eq_false, not_false_eq_true] at hc)) | (refine fun (hc : _ = _) => ?_; try (simp (disch := decide) only [up_n, up_s, cp_n, rw_n, rw_s, up1_, if_true, if_false, ite_true, ite_false, reduceIte, eq_self, Int.reduceEq, true_and, and_true, not_true_eq_false, not_false_eq_true] at hc)))
    all_goals first | (exfalso; omega) | exact hh
  | succ k ih =>
    intro W rk pd pl x rkF x3 x5 x6 q1 q2 q3 q4 q5 h
    rcases q1 with ⟨hx, q1⟩ | ⟨rfl, hs, q1⟩
    · have hlt := (q2.lt (by omega)).2 hx
      have hxr : 0 ≤ x ∧ x < n := by
        rcases q2.2.2.2.2.2.2.1 with c | c
        · exact absurd c hx
        · exact c.1
      have hbl := hR.bl hxr
      have ex : fnb N r x = N 77 (9 * r + x) := by
        unfold fnb
        rw [if_neg hx]
      have e77 : ∀ i, W 77 i = N 77 i := fun i => q4 77 i (by omega)
      have e92 : W 92 (N 77 (9 * r + x)) = fnb N r (s.2.1 x) := by
        have a := (q3.1 x hxr.1 hxr.2).1
        rw [e77, e77] at a
        exact a
      have hh := fun x3 x5 x6 => ih (fr_up (fr_up W 78 (9 * r + (pd : Int)) (N 77 (9 * r + x))) 95 (N 77 (9 * r + x)) 1) (up1 rk (pd : Int) x) (pd + 1) (up1 pl x 1) (s.2.1 x) rkF x3 x5 x6 q1 (q2.place hJ hx) ⟨fun i i0 i1 => q3.1 i i0 i1, fun i i0 i1 => by
        show up1 (W 78) (9 * r + (pd : Int)) (N 77 (9 * r + x)) (9 * r + i) = W 77 (9 * r + up1 rk (pd : Int) x i)
        rw [up1_, up1_]
        by_cases e : i = (pd : Int)
        · rw [if_pos (by omega), if_pos e, e77]
        · rw [if_neg (by omega), if_neg e]
          exact q3.2.1 i i0 (by omega), fun y y0 y1 => by
        show up1 (W 95) (N 77 (9 * r + x)) 1 (W 77 (9 * r + y)) = up1 pl x 1 y
        rw [up1_, up1_]
        by_cases e : y = x
        · rw [e, e77, if_pos rfl, if_pos rfl]
        · rw [if_neg e, if_neg (fun q => e (hinj y x y0 y1 hxr.1 hxr.2 (by rw [← e77]; exact q)))]
          exact q3.2.2 y y0 y1⟩ (fun k i hk => by rw [up_x (by omega), up_x (by omega)]; exact q4 k i hk) (fun j hj => by
        rw [up_x (by omega)]
        show up1 (W 78) (9 * r + (pd : Int)) (N 77 (9 * r + x)) j = N 78 j
        rw [up1_, if_neg (by omega)]
        exact q5 j hj) h
      rw [show ((pd + 1 : Nat) : Int) = (pd : Int) + 1 by omega, ← e92] at hh
      rw [ex]
      clear ih h search q1 q2 q3 q5
      generalize N 77 (9 * r + x) = b at *
      refine fr_go k171 [51] 400 rfl ?_
      repeat' (first | (refine And.intro (by first | omega | (simp (disch := decide) only [up_n, up_s, cp_n, rw_n, rw_s, up1_, if_true, if_false, ite_true, ite_false, reduceIte, eq_self, Int.reduceEq, true_and, and_true, not_true_eq_false, not_false_eq_true]; omega)) ?_) | (refine And.intro (fun hc => ?_) (fun hc => ?_) <;> (try (simp (disch := decide) only [up_n, up_s, cp_n, rw_n, rw_s, up1_, if_true, if_false, ite_true, ite_false, reduceIte, eq_self, Int.reduceEq, true_and, and_true, not_true_eq_false, not_false_eq_true] at hc)) <;> (try (exfalso; omega))) | (refine fun (hc : ¬ _) => ?_; try (simp (disch := decide) only [up_n, up_s, cp_n, rw_n, rw_s, up1_, if_true, if_false, ite_true, ite_false, reduceIte, eq_self, Int.reduceEq, true_and, and_true, not_true_eq_false, not_false_eq_true] at hc)) | (refine fun (hc : _ = _) => ?_; try (simp (disch := decide) only [up_n, up_s, cp_n, rw_n, rw_s, up1_, if_true, if_false, ite_true, ite_false, reduceIte, eq_self, Int.reduceEq, true_and, and_true, not_true_eq_false, not_false_eq_true] at hc)))
      all_goals first | (exfalso; omega) | skip
      all_goals (show fr_Run 171 none 51 _ _ _ _ 0 0 Q)
      simp (disch := decide) only [up_n, up_s, cp_n, rw_n, rw_s, up1_, if_true, if_false, ite_true, ite_false, reduceIte, eq_self, Int.reduceEq, true_and, and_true, not_true_eq_false, not_false_eq_true]
      exact hh x3 x5 x6
    · have hI := PI.pick (S := fun z => sm (fun i => ld N r s.1 (rk i) z) pd) hn9.1 hJ q2 (PI.nn hR q2) hs
      have hh := fun x3 x5 x6 => ih W rk pd pl _ rkF x3 x5 x6 q1 hI q3 q4 q5 h
      rw [show fnb N r (-1) = -9 from rfl]
      refine search W rk pd pl x3 x5 x6 q2 q3 q4 (fun x4 x5 x6 => ?_)
      have hxr : 0 ≤ (stg s.1 pl (fun z => sm (fun i => ld N r s.1 (rk i) z) pd) n.toNat).1 ∧ (stg s.1 pl (fun z => sm (fun i => ld N r s.1 (rk i) z) pd) n.toNat).1 < n := by
        rcases hI.2.2.2.2.2.2.1 with c | c
        · exact absurd c hs
        · exact c.1
      generalize (stg s.1 pl (fun z => sm (fun i => ld N r s.1 (rk i) z) pd) n.toNat).1 = x at *
      have hbl := hR.bl hxr
      have ex : fnb W r x = N 77 (9 * r + x) := by
        unfold fnb
        rw [if_neg hs]
        exact q4 77 _ (by omega)
      have ex2 : fnb N r x = N 77 (9 * r + x) := by
        unfold fnb
        rw [if_neg hs]
      rw [ex2] at hh
      rw [ex]
      clear ih h search q1 q2 q3 q5 hI
      generalize N 77 (9 * r + x) = b at *
      refine fr_go k171 [46] 400 rfl ?_
      repeat' (first | (refine And.intro (by first | omega | (simp (disch := decide) only [up_n, up_s, cp_n, rw_n, rw_s, up1_, if_true, if_false, ite_true, ite_false, reduceIte, eq_self, Int.reduceEq, true_and, and_true, not_true_eq_false, not_false_eq_true]; omega)) ?_) | (refine And.intro (fun hc => ?_) (fun hc => ?_) <;> (try (simp (disch := decide) only [up_n, up_s, cp_n, rw_n, rw_s, up1_, if_true, if_false, ite_true, ite_false, reduceIte, eq_self, Int.reduceEq, true_and, and_true, not_true_eq_false, not_false_eq_true] at hc)) <;> (try (exfalso; omega))) | (refine fun (hc : ¬ _) => ?_; try (simp (disch := decide) only [up_n, up_s, cp_n, rw_n, rw_s, up1_, if_true, if_false, ite_true, ite_false, reduceIte, eq_self, Int.reduceEq, true_and, and_true, not_true_eq_false, not_false_eq_true] at hc)) | (refine fun (hc : _ = _) => ?_; try (simp (disch := decide) only [up_n, up_s, cp_n, rw_n, rw_s, up1_, if_true, if_false, ite_true, ite_false, reduceIte, eq_self, Int.reduceEq, true_and, and_true, not_true_eq_false, not_false_eq_true] at hc)))
      refine fr_go k171 [51] 400 rfl ?_
      repeat' (first | (refine And.intro (by first | omega | (simp (disch := decide) only [up_n, up_s, cp_n, rw_n, rw_s, up1_, if_true, if_false, ite_true, ite_false, reduceIte, eq_self, Int.reduceEq, true_and, and_true, not_true_eq_false, not_false_eq_true]; omega)) ?_) | (refine And.intro (fun hc => ?_) (fun hc => ?_) <;> (try (simp (disch := decide) only [up_n, up_s, cp_n, rw_n, rw_s, up1_, if_true, if_false, ite_true, ite_false, reduceIte, eq_self, Int.reduceEq, true_and, and_true, not_true_eq_false, not_false_eq_true] at hc)) <;> (try (exfalso; omega))) | (refine fun (hc : ¬ _) => ?_; try (simp (disch := decide) only [up_n, up_s, cp_n, rw_n, rw_s, up1_, if_true, if_false, ite_true, ite_false, reduceIte, eq_self, Int.reduceEq, true_and, and_true, not_true_eq_false, not_false_eq_true] at hc)) | (refine fun (hc : _ = _) => ?_; try (simp (disch := decide) only [up_n, up_s, cp_n, rw_n, rw_s, up1_, if_true, if_false, ite_true, ite_false, reduceIte, eq_self, Int.reduceEq, true_and, and_true, not_true_eq_false, not_false_eq_true] at hc)))
      all_goals first | (exfalso; omega) | exact hh _ _ _
set_option maxHeartbeats 4000000 in
set_option maxRecDepth 100000 in
theorem m_bi_l {N : fr_M} {r n : Int} {Q : Option fr_V → fr_H → fr_M → Prop} (hR : RC N r n) (h : ∀ X x2 x3, (∀ k i, ¬ (k = 92 ∨ k = 93 ∨ k = 95) → X k i = N k i) → (∀ j, 0 ≤ j → j < n → X 92 (N 77 (9 * r + j)) = -9 ∧ X 93 (N 77 (9 * r + j)) = -9 ∧ X 95 (N 77 (9 * r + j)) = 0) → fr_Run 171 none 34 [some (.inr (.inl 75)), some (.inl r), x2, x3, none, none, none] [] sh0 X 0 0 Q) : ∀ (t : Nat) (i : Int) (X : fr_M) (x3 : Option fr_V), 0 ≤ i → i + t = n → (∀ k i, ¬ (k = 92 ∨ k = 93 ∨ k = 95) → X k i = N k i) → (∀ j, 0 ≤ j → j < i → X 92 (N 77 (9 * r + j)) = -9 ∧ X 93 (N 77 (9 * r + j)) = -9 ∧ X 95 (N 77 (9 * r + j)) = 0) → fr_Run 171 none 2 [some (.inr (.inl 75)), some (.inl r), some (.inl i), x3, none, none, none] [] sh0 X 0 0 Q := by
  have hr := hR.1
  have hm := hR.2.1
  have hn9 := hR.2.2.1
  intro t
  induction t with
  | zero =>
    intro i X x3 q0 q1 q2 q3
    have e : i = n := by omega
    have hh := h X (some (.inl i)) x3 q2 (by rw [← e]; exact q3)
    have e76 : X 76 r = n := by rw [q2 76 r (by omega)]; exact hm
    clear h q3
    refine fr_go k171 [2, 34] 400 rfl ?_
    repeat' (first | (refine And.intro (by first | omega | (simp (disch := decide) only [up_n, up_s, cp_n, rw_n, rw_s, up1_, if_true, if_false, ite_true, ite_false, reduceIte, eq_self, Int.reduceEq, true_and, and_true, not_true_eq_false, not_false_eq_true]; omega)) ?_) | (refine And.intro (fun hc => ?_) (fun hc => ?_) <;> (try (simp (disch := decide) only [up_n, up_s, cp_n, rw_n, rw_s, up1_, if_true, if_false, ite_true, ite_false, reduceIte, eq_self, Int.reduceEq, true_and, and_true, not_true_eq_false, not_false_eq_true] at hc)) <;> (try (exfalso; omega))) | (refine fun (hc : ¬ _) => ?_; try (simp (disch := decide) only [up_n, up_s, cp_n, rw_n, rw_s, up1_, if_true, if_false, ite_true, ite_false, reduceIte, eq_self, Int.reduceEq, true_and, and_true, not_true_eq_false, not_false_eq_true] at hc)) | (refine fun (hc : _ = _) => ?_; try (simp (disch := decide) only [up_n, up_s, cp_n, rw_n, rw_s, up1_, if_true, if_false, ite_true, ite_false, reduceIte, eq_self, Int.reduceEq, true_and, and_true, not_true_eq_false, not_false_eq_true] at hc)))
    all_goals first | (exfalso; omega) | exact hh
  | succ t ih =>
    intro i X x3 q0 q1 q2 q3
    have e76 : X 76 r = n := by rw [q2 76 r (by omega)]; exact hm
    have e77 : X 77 (9 * r + i) = N 77 (9 * r + i) := q2 77 _ (by omega)
    have hbl := hR.bl (k := i) (by omega)
    have hh := ih (i + 1) (fr_up (fr_up (fr_up X 92 (N 77 (9 * r + i)) (-9)) 93 (N 77 (9 * r + i)) (-9)) 95 (N 77 (9 * r + i)) 0) (some (.inl (N 77 (9 * r + i)))) (by omega) (by omega) (fun k i hk => by rw [up_x (by omega), up_x (by omega), up_x (by omega)]; exact q2 k i hk) (fun j j0 j1 => by
      show up1 (X 92) (N 77 (9 * r + i)) (-9) (N 77 (9 * r + j)) = -9 ∧ up1 (X 93) (N 77 (9 * r + i)) (-9) (N 77 (9 * r + j)) = -9 ∧ up1 (X 95) (N 77 (9 * r + i)) 0 (N 77 (9 * r + j)) = 0
      rw [up1_, up1_, up1_]
      by_cases e : N 77 (9 * r + j) = N 77 (9 * r + i)
      · rw [if_pos e, if_pos e, if_pos e]
        exact ⟨rfl, rfl, rfl⟩
      · rw [if_neg e, if_neg e, if_neg e]
        have ne : j ≠ i := fun q => e (by rw [q])
        exact q3 j j0 (by omega))
    clear ih h q3
    rw [← e77] at hh hbl
    refine fr_go k171 [2, 34] 400 rfl ?_
    repeat' (first | (refine And.intro (by first | omega | (simp (disch := decide) only [up_n, up_s, cp_n, rw_n, rw_s, up1_, if_true, if_false, ite_true, ite_false, reduceIte, eq_self, Int.reduceEq, true_and, and_true, not_true_eq_false, not_false_eq_true]; omega)) ?_) | (refine And.intro (fun hc => ?_) (fun hc => ?_) <;> (try (simp (disch := decide) only [up_n, up_s, cp_n, rw_n, rw_s, up1_, if_true, if_false, ite_true, ite_false, reduceIte, eq_self, Int.reduceEq, true_and, and_true, not_true_eq_false, not_false_eq_true] at hc)) <;> (try (exfalso; omega))) | (refine fun (hc : ¬ _) => ?_; try (simp (disch := decide) only [up_n, up_s, cp_n, rw_n, rw_s, up1_, if_true, if_false, ite_true, ite_false, reduceIte, eq_self, Int.reduceEq, true_and, and_true, not_true_eq_false, not_false_eq_true] at hc)) | (refine fun (hc : _ = _) => ?_; try (simp (disch := decide) only [up_n, up_s, cp_n, rw_n, rw_s, up1_, if_true, if_false, ite_true, ite_false, reduceIte, eq_self, Int.reduceEq, true_and, and_true, not_true_eq_false, not_false_eq_true] at hc)))
    all_goals first | (exfalso; omega) | skip
    all_goals (show fr_Run 171 none 2 _ _ _ _ 0 0 Q)
    exact hh
set_option maxHeartbeats 4000000 in
set_option maxRecDepth 100000 in
theorem m_byChains {M : fr_M} {r n : Int} {k : Nat} {rk rkF : Int → Int} {Q : Option fr_V → fr_H → fr_M → Prop} (hP : PC M) (hR : RC M r n) (hp : PRn n (jrun (pul M r) (tgt M r) (2 * n).toNat (2 * n).toNat).1 (jrun (pul M r) (tgt M r) (2 * n).toNat (2 * n).toNat).2.1 (ld M r (jrun (pul M r) (tgt M r) (2 * n).toNat (2 * n).toNat).1) k rk 0 (fun _ => 0) 0 rkF) (h : ∀ W', (∀ k i, ¬ (k = 78 ∨ (92 ≤ k ∧ k ≤ 95)) → W' k i = M k i) → (∀ j, ¬ (9 * r ≤ j ∧ j < 9 * r + 9) → W' 78 j = M 78 j) → (∀ i, 0 ≤ i → i < n → W' 78 (9 * r + i) = M 77 (9 * r + rkF i)) → Q none sh0 W') : fr_Call 171 [.inr (.inl 75), .inl r] sh0 M Q := by
  have hr := hR.1
  have hm := hR.2.1
  have hn9 := hR.2.2.1
  have ht : ∀ e, 0 ≤ e → e < (((2 * n).toNat : Nat) : Int) → 0 < pul M r e → 0 ≤ tgt M r e ∧ tgt M r e < n := fun e e0 e1 hp => by
    have w := pul_w hR (e := e) (by omega) hp
    exact (hP.way hR (k := e / 2) (w := e % 2) (by omega) (by omega)).1
  have hJ := jrun_ji (n := n) (m := (2 * n).toNat) (pu := pul M r) (tg := tgt M r) (by omega) ht (2 * n).toNat
  refine fr_cgo k171 [some (.inr (.inl 75)), some (.inl r), none, none, none, none, none] 0 0 [2] 400 rfl rfl rfl rfl ?_
  repeat' (first | (refine And.intro (by first | omega | (simp (disch := decide) only [up_n, up_s, cp_n, rw_n, rw_s, up1_, if_true, if_false, ite_true, ite_false, reduceIte, eq_self, Int.reduceEq, true_and, and_true, not_true_eq_false, not_false_eq_true]; omega)) ?_) | (refine And.intro (fun hc => ?_) (fun hc => ?_) <;> (try (simp (disch := decide) only [up_n, up_s, cp_n, rw_n, rw_s, up1_, if_true, if_false, ite_true, ite_false, reduceIte, eq_self, Int.reduceEq, true_and, and_true, not_true_eq_false, not_false_eq_true] at hc)) <;> (try (exfalso; omega))) | (refine fun (hc : ¬ _) => ?_; try (simp (disch := decide) only [up_n, up_s, cp_n, rw_n, rw_s, up1_, if_true, if_false, ite_true, ite_false, reduceIte, eq_self, Int.reduceEq, true_and, and_true, not_true_eq_false, not_false_eq_true] at hc)) | (refine fun (hc : _ = _) => ?_; try (simp (disch := decide) only [up_n, up_s, cp_n, rw_n, rw_s, up1_, if_true, if_false, ite_true, ite_false, reduceIte, eq_self, Int.reduceEq, true_and, and_true, not_true_eq_false, not_false_eq_true] at hc)))
  refine m_bi_l (N := M) (n := n) hR (fun X x2 x3 a1 a2 => ?_) n.toNat 0 M none (by omega) (by omega) (fun k i _ => rfl) (fun j j0 j1 => by omega)
  have hPX : PC X := hP.cg (fun k i hk => a1 k i (by omega))
  have hRX : RC X r n := hR.cg (fun k i hk => a1 k i (by omega))
  have epu : pul X r = pul M r := funext (fun e => pul_cg (fun k i hk => a1 k i (by omega)))
  have etg : tgt X r = tgt M r := funext (fun e => tgt_cg (fun k i hk => a1 k i (by omega)))
  refine fr_go k171 [46] 400 rfl ?_
  refine m_joins hPX hRX (fun i i0 i1 => by
    rw [a1 77 _ (by omega)]
    exact ⟨(a2 i i0 i1).1, (a2 i i0 i1).2.1⟩) (fun Y b1 b2 => ?_)
  rw [epu, etg] at b2
  generalize jrun (pul M r) (tgt M r) (2 * n).toNat (2 * n).toNat = J at *
  have hYM : ∀ k i, ¬ (92 ≤ k ∧ k ≤ 95) → Y k i = M k i := fun k i hk => by
    rw [b1 k i (by omega), a1 k i (by omega)]
  have hPY : PC Y := hP.cg (fun k i hk => hYM k i (by omega))
  have hRY : RC Y r n := hR.cg (fun k i hk => hYM k i (by omega))
  have eld : ld Y r J.1 = ld M r J.1 := by
    funext y x
    exact ld_cg (fun k i hk => hYM k i (by omega))
  have hb0 := hRY.bl (k := 0) (by omega)
  have hh := fun x3 x5 x6 => m_bc_l (N := Y) (r := r) (n := n) (s := J) (Q := Q) hPY hRY hJ k Y rk 0 (fun _ => 0) 0 rkF x3 x5 x6 (by rw [eld]; exact hp) (PI.zero hn9.1 hJ) ⟨b2.1, fun i i0 i1 => absurd i1 (by omega), fun y y0 y1 => by
    rw [b1 95 _ (by omega), hYM 77 _ (by omega)]
    exact (a2 y y0 y1).2.2⟩ (fun k i _ => rfl) (fun j _ => rfl) (fun W' c1 c2 c3 => h W' (fun k i hk => by rw [c1 k i (by omega), hYM k i (by omega)]) (fun j hj => by rw [c2 j hj, hYM 78 j (by omega)]) (fun i i0 i1 => by rw [c3 i i0 i1, hYM 77 _ (by omega)]))
  rw [show fnb Y r 0 = Y 77 (9 * r + 0) from rfl, show 9 * r + 0 = 9 * r by omega] at hh
  rw [show 9 * r + 0 = 9 * r by omega] at hb0
  clear h hp
  repeat' (first | (refine And.intro (by first | omega | (simp (disch := decide) only [up_n, up_s, cp_n, rw_n, rw_s, up1_, if_true, if_false, ite_true, ite_false, reduceIte, eq_self, Int.reduceEq, true_and, and_true, not_true_eq_false, not_false_eq_true]; omega)) ?_) | (refine And.intro (fun hc => ?_) (fun hc => ?_) <;> (try (simp (disch := decide) only [up_n, up_s, cp_n, rw_n, rw_s, up1_, if_true, if_false, ite_true, ite_false, reduceIte, eq_self, Int.reduceEq, true_and, and_true, not_true_eq_false, not_false_eq_true] at hc)) <;> (try (exfalso; omega))) | (refine fun (hc : ¬ _) => ?_; try (simp (disch := decide) only [up_n, up_s, cp_n, rw_n, rw_s, up1_, if_true, if_false, ite_true, ite_false, reduceIte, eq_self, Int.reduceEq, true_and, and_true, not_true_eq_false, not_false_eq_true] at hc)) | (refine fun (hc : _ = _) => ?_; try (simp (disch := decide) only [up_n, up_s, cp_n, rw_n, rw_s, up1_, if_true, if_false, ite_true, ite_false, reduceIte, eq_self, Int.reduceEq, true_and, and_true, not_true_eq_false, not_false_eq_true] at hc)))
  all_goals first | (exfalso; omega) | skip
  refine fr_go k171 [51] 400 rfl ?_
  repeat' (first | (refine And.intro (by first | omega | (simp (disch := decide) only [up_n, up_s, cp_n, rw_n, rw_s, up1_, if_true, if_false, ite_true, ite_false, reduceIte, eq_self, Int.reduceEq, true_and, and_true, not_true_eq_false, not_false_eq_true]; omega)) ?_) | (refine And.intro (fun hc => ?_) (fun hc => ?_) <;> (try (simp (disch := decide) only [up_n, up_s, cp_n, rw_n, rw_s, up1_, if_true, if_false, ite_true, ite_false, reduceIte, eq_self, Int.reduceEq, true_and, and_true, not_true_eq_false, not_false_eq_true] at hc)) <;> (try (exfalso; omega))) | (refine fun (hc : ¬ _) => ?_; try (simp (disch := decide) only [up_n, up_s, cp_n, rw_n, rw_s, up1_, if_true, if_false, ite_true, ite_false, reduceIte, eq_self, Int.reduceEq, true_and, and_true, not_true_eq_false, not_false_eq_true] at hc)) | (refine fun (hc : _ = _) => ?_; try (simp (disch := decide) only [up_n, up_s, cp_n, rw_n, rw_s, up1_, if_true, if_false, ite_true, ite_false, reduceIte, eq_self, Int.reduceEq, true_and, and_true, not_true_eq_false, not_false_eq_true] at hc)))
  all_goals first | (exfalso; omega) | exact hh _ _ _
set_option maxHeartbeats 4000000 in
set_option maxRecDepth 100000 in
theorem op_ord3 {n : Int} {M : fr_M} (hR : Rel n M) (hn : n ≤ 512) {r : Int} (hr : 0 ≤ r ∧ r < M 75 0) (hm : 0 < M 76 r) : Two 119 172 [.inl r, .inl 3] M (Rel (n + 1)) := by
  have hPC := hR.pc
  have hRC := hPC.rc hr hm
  have hn9 := hRC.2.2.1
  have ht : ∀ e, 0 ≤ e → e < (((2 * M 76 r).toNat : Nat) : Int) → 0 < pul M r e → 0 ≤ tgt M r e ∧ tgt M r e < M 76 r := fun e e0 e1 hp => by
    have w := pul_w hRC (e := e) (by omega) hp
    exact (hPC.way hRC (k := e / 2) (w := e % 2) (by omega) (by omega)).1
  have hJ := jrun_ji (n := M 76 r) (m := (2 * M 76 r).toNat) (pu := pul M r) (tg := tgt M r) (by omega) ht (2 * M 76 r).toNat
  refine ord_fr hR hn hr hm (by omega) (fun rkF => ∃ k rk, PRn (M 76 r) (jrun (pul M r) (tgt M r) (2 * M 76 r).toNat (2 * M 76 r).toNat).1 (jrun (pul M r) (tgt M r) (2 * M 76 r).toNat (2 * M 76 r).toNat).2.1 (ld M r (jrun (pul M r) (tgt M r) (2 * M 76 r).toNat (2 * M 76 r).toNat).1) k rk 0 (fun _ => 0) 0 rkF) ?_ ?_
  · intro Z Q hZ h
    have hZM := hZ.2.2.2
    have epu : pul Z r = pul M r := funext (fun e => pul_cg (fun k i hk => hZM k i (by omega)))
    have etg : tgt Z r = tgt M r := funext (fun e => tgt_cg (fun k i hk => hZM k i (by omega)))
    have eld : ∀ fi, ld Z r fi = ld M r fi := fun fi => by
      funext y x
      exact ld_cg (fun k i hk => hZM k i (by omega))
    refine fr_go k119 [68] 400 rfl ?_
    repeat' (first | (refine And.intro (by first | omega | (simp (disch := decide) only [up_n, up_s, cp_n, rw_n, rw_s, up1_, if_true, if_false, ite_true, ite_false, reduceIte, eq_self, Int.reduceEq, true_and, and_true, not_true_eq_false, not_false_eq_true]; omega)) ?_) | (refine And.intro (fun hc => ?_) (fun hc => ?_) <;> (try (simp (disch := decide) only [up_n, up_s, cp_n, rw_n, rw_s, up1_, if_true, if_false, ite_true, ite_false, reduceIte, eq_self, Int.reduceEq, true_and, and_true, not_true_eq_false, not_false_eq_true] at hc)) <;> (try (exfalso; omega))) | (refine fun (hc : ¬ _) => ?_; try (simp (disch := decide) only [up_n, up_s, cp_n, rw_n, rw_s, up1_, if_true, if_false, ite_true, ite_false, reduceIte, eq_self, Int.reduceEq, true_and, and_true, not_true_eq_false, not_false_eq_true] at hc)) | (refine fun (hc : _ = _) => ?_; try (simp (disch := decide) only [up_n, up_s, cp_n, rw_n, rw_s, up1_, if_true, if_false, ite_true, ite_false, reduceIte, eq_self, Int.reduceEq, true_and, and_true, not_true_eq_false, not_false_eq_true] at hc)))
    all_goals first | (exfalso; omega) | skip
    refine c_chains (hPC.cg hZM) (hRC.cg (fun k i hk => hZM k i (by omega))) (fun X' k c1 c2 => ?_)
    rw [epu, etg, eld] at c2
    have hh := h X' none (fun k i hk => c1 k i (by omega)) (PRn.pm hRC hJ k _ 0 _ 0 _ (PI.zero hn9.1 hJ) c2) ⟨k, _, c2⟩
    clear h c2
    repeat' (first | (refine And.intro (by first | omega | (simp (disch := decide) only [up_n, up_s, cp_n, rw_n, rw_s, up1_, if_true, if_false, ite_true, ite_false, reduceIte, eq_self, Int.reduceEq, true_and, and_true, not_true_eq_false, not_false_eq_true]; omega)) ?_) | (refine And.intro (fun hc => ?_) (fun hc => ?_) <;> (try (simp (disch := decide) only [up_n, up_s, cp_n, rw_n, rw_s, up1_, if_true, if_false, ite_true, ite_false, reduceIte, eq_self, Int.reduceEq, true_and, and_true, not_true_eq_false, not_false_eq_true] at hc)) <;> (try (exfalso; omega))) | (refine fun (hc : ¬ _) => ?_; try (simp (disch := decide) only [up_n, up_s, cp_n, rw_n, rw_s, up1_, if_true, if_false, ite_true, ite_false, reduceIte, eq_self, Int.reduceEq, true_and, and_true, not_true_eq_false, not_false_eq_true] at hc)) | (refine fun (hc : _ = _) => ?_; try (simp (disch := decide) only [up_n, up_s, cp_n, rw_n, rw_s, up1_, if_true, if_false, ite_true, ite_false, reduceIte, eq_self, Int.reduceEq, true_and, and_true, not_true_eq_false, not_false_eq_true] at hc)))
    exact hh
  · intro W Q rkF hW hP hΦ h
    obtain ⟨k, rk, hp⟩ := hΦ
    have epu : pul W r = pul M r := funext (fun e => pul_cg (fun k i hk => hW k i (by omega)))
    have etg : tgt W r = tgt M r := funext (fun e => tgt_cg (fun k i hk => hW k i (by omega)))
    have eld : ∀ fi, ld W r fi = ld M r fi := fun fi => by
      funext y x
      exact ld_cg (fun k i hk => hW k i (by omega))
    refine fr_go k172 [71] 400 rfl ?_
    repeat' (first | (refine And.intro (by first | omega | (simp (disch := decide) only [up_n, up_s, cp_n, rw_n, rw_s, up1_, if_true, if_false, ite_true, ite_false, reduceIte, eq_self, Int.reduceEq, true_and, and_true, not_true_eq_false, not_false_eq_true]; omega)) ?_) | (refine And.intro (fun hc => ?_) (fun hc => ?_) <;> (try (simp (disch := decide) only [up_n, up_s, cp_n, rw_n, rw_s, up1_, if_true, if_false, ite_true, ite_false, reduceIte, eq_self, Int.reduceEq, true_and, and_true, not_true_eq_false, not_false_eq_true] at hc)) <;> (try (exfalso; omega))) | (refine fun (hc : ¬ _) => ?_; try (simp (disch := decide) only [up_n, up_s, cp_n, rw_n, rw_s, up1_, if_true, if_false, ite_true, ite_false, reduceIte, eq_self, Int.reduceEq, true_and, and_true, not_true_eq_false, not_false_eq_true] at hc)) | (refine fun (hc : _ = _) => ?_; try (simp (disch := decide) only [up_n, up_s, cp_n, rw_n, rw_s, up1_, if_true, if_false, ite_true, ite_false, reduceIte, eq_self, Int.reduceEq, true_and, and_true, not_true_eq_false, not_false_eq_true] at hc)))
    all_goals first | (exfalso; omega) | skip
    refine m_byChains (n := M 76 r) (k := k) (rk := rk) (rkF := rkF) (hPC.cg hW) (hRC.cg (fun k i hk => hW k i (by omega))) (by rw [epu, etg, eld]; exact hp) (fun W' c1 c2 c3 => ?_)
    have hh := h W' none (fun k i hk => c1 k i (by omega)) (fun i i0 i1 => by rw [c3 i i0 i1, hW 77 _ (by omega)]) (fun j hj => by rw [c2 j hj, hW 78 _ (by omega)])
    clear h hp
    repeat' (first | (refine And.intro (by first | omega | (simp (disch := decide) only [up_n, up_s, cp_n, rw_n, rw_s, up1_, if_true, if_false, ite_true, ite_false, reduceIte, eq_self, Int.reduceEq, true_and, and_true, not_true_eq_false, not_false_eq_true]; omega)) ?_) | (refine And.intro (fun hc => ?_) (fun hc => ?_) <;> (try (simp (disch := decide) only [up_n, up_s, cp_n, rw_n, rw_s, up1_, if_true, if_false, ite_true, ite_false, reduceIte, eq_self, Int.reduceEq, true_and, and_true, not_true_eq_false, not_false_eq_true] at hc)) <;> (try (exfalso; omega))) | (refine fun (hc : ¬ _) => ?_; try (simp (disch := decide) only [up_n, up_s, cp_n, rw_n, rw_s, up1_, if_true, if_false, ite_true, ite_false, reduceIte, eq_self, Int.reduceEq, true_and, and_true, not_true_eq_false, not_false_eq_true] at hc)) | (refine fun (hc : _ = _) => ?_; try (simp (disch := decide) only [up_n, up_s, cp_n, rw_n, rw_s, up1_, if_true, if_false, ite_true, ite_false, reduceIte, eq_self, Int.reduceEq, true_and, and_true, not_true_eq_false, not_false_eq_true] at hc)))
    exact hh
set_option maxHeartbeats 4000000 in
set_option maxRecDepth 100000 in
theorem op_order {n : Int} {M : fr_M} (hR : Rel n M) (hn : n ≤ 512) (a0 : Int) (a1 : Int) (g0 : fr_in a0) (g1 : fr_in a1) : Two 119 172 [.inl a0, .inl a1] M (Rel (n + 1)) := by
  have hN := hR.next
  have hpc := hR.pc
  have p1 := hpc.1
  have q1 : M 1 0 = M 75 0 := p1.1
  have q2 : 0 ≤ M 75 0 := p1.2.1
  have q3 : M 75 0 ≤ 6 := p1.2.2.1
  have h2 : 0 ≤ a0 → a0 < 6 → M 2 a0 = M 76 a0 ∧ 0 ≤ M 76 a0 ∧ M 76 a0 ≤ 9 := fun x y => ⟨(hpc.2.1 a0 x y).1, (hpc.2.1 a0 x y).2.1, (hpc.2.1 a0 x y).2.2.1⟩
  by_cases hs : ((0 ≤ a0 ∧ a0 < M 75 0) ∧ 0 < M 76 a0) ∧ 0 ≤ a1 ∧ a1 ≤ 3
  · obtain ⟨⟨hr, hm⟩, ha⟩ := hs
    rcases (show a1 = 0 ∨ a1 = 1 ∨ a1 = 2 ∨ a1 = 3 by omega) with rfl | rfl | rfl | rfl
    · exact op_ord0 hR hn hr hm
    · exact op_ord1 hR hn hr hm
    · exact op_ord2 hR hn hr hm
    · exact op_ord3 hR hn hr hm
  · refine Two.of ?_
    by_cases hb : (0 ≤ a0 ∧ a0 < M 75 0) ∧ 0 < M 76 a0
    · have h2' := h2 hb.1.1 (by omega)
      refine fr_cgo k119 [some (.inr (.inl 0)), some (.inl a0), some (.inl a1), none] 0 0 [] 400 rfl rfl rfl rfl ?_
      repeat' (first | (refine And.intro (by first | omega | (simp (disch := decide) only [up_n, up_s, cp_n, rw_n, rw_s, up1_, if_true, if_false, ite_true, ite_false, reduceIte, eq_self, Int.reduceEq, true_and, and_true, not_true_eq_false, not_false_eq_true]; omega)) ?_) | (refine c_hasBlocks (by omega) (fun hc => ?_) (fun hc => ?_) <;> (try (simp (disch := decide) only [up_n, up_s, cp_n, rw_n, rw_s, up1_, if_true, if_false, ite_true, ite_false, reduceIte, eq_self, Int.reduceEq, true_and, and_true, not_true_eq_false, not_false_eq_true] at hc))) | (refine And.intro (fun hc => ?_) (fun hc => ?_) <;> (try (simp (disch := decide) only [up_n, up_s, cp_n, rw_n, rw_s, up1_, if_true, if_false, ite_true, ite_false, reduceIte, eq_self, Int.reduceEq, true_and, and_true, not_true_eq_false, not_false_eq_true] at hc)) <;> (try (exfalso; omega))) | (refine fun (hc : ¬ _) => ?_; try (simp (disch := decide) only [up_n, up_s, cp_n, rw_n, rw_s, up1_, if_true, if_false, ite_true, ite_false, reduceIte, eq_self, Int.reduceEq, true_and, and_true, not_true_eq_false, not_false_eq_true] at hc)) | (refine fun (hc : _ = _) => ?_; try (simp (disch := decide) only [up_n, up_s, cp_n, rw_n, rw_s, up1_, if_true, if_false, ite_true, ite_false, reduceIte, eq_self, Int.reduceEq, true_and, and_true, not_true_eq_false, not_false_eq_true] at hc)))
      all_goals first | (exfalso; omega) | refine ⟨rfl, _, rfl, ?_⟩
      all_goals (refine fr_cgo k172 [some (.inr (.inl 75)), some (.inl a0), some (.inl a1), none] 0 0 [] 400 rfl rfl rfl rfl ?_)
      all_goals (repeat' (first | (refine And.intro (by first | omega | (simp (disch := decide) only [up_n, up_s, cp_n, rw_n, rw_s, up1_, if_true, if_false, ite_true, ite_false, reduceIte, eq_self, Int.reduceEq, true_and, and_true, not_true_eq_false, not_false_eq_true]; omega)) ?_) | (refine m_isRoutine (by omega) (fun hc => ?_) (fun hc => ?_) <;> (try (simp (disch := decide) only [up_n, up_s, cp_n, rw_n, rw_s, up1_, if_true, if_false, ite_true, ite_false, reduceIte, eq_self, Int.reduceEq, true_and, and_true, not_true_eq_false, not_false_eq_true] at hc))) | (refine m_in (fun hc => ?_) (fun hc => ?_) <;> (try (simp (disch := decide) only [up_n, up_s, cp_n, rw_n, rw_s, up1_, if_true, if_false, ite_true, ite_false, reduceIte, eq_self, Int.reduceEq, true_and, and_true, not_true_eq_false, not_false_eq_true] at hc))) | (refine And.intro (fun hc => ?_) (fun hc => ?_) <;> (try (simp (disch := decide) only [up_n, up_s, cp_n, rw_n, rw_s, up1_, if_true, if_false, ite_true, ite_false, reduceIte, eq_self, Int.reduceEq, true_and, and_true, not_true_eq_false, not_false_eq_true] at hc)) <;> (try (exfalso; omega))) | (refine fun (hc : ¬ _) => ?_; try (simp (disch := decide) only [up_n, up_s, cp_n, rw_n, rw_s, up1_, if_true, if_false, ite_true, ite_false, reduceIte, eq_self, Int.reduceEq, true_and, and_true, not_true_eq_false, not_false_eq_true] at hc)) | (refine fun (hc : _ = _) => ?_; try (simp (disch := decide) only [up_n, up_s, cp_n, rw_n, rw_s, up1_, if_true, if_false, ite_true, ite_false, reduceIte, eq_self, Int.reduceEq, true_and, and_true, not_true_eq_false, not_false_eq_true] at hc))))
      all_goals first | (exfalso; omega) | exact ⟨rfl, rfl, hN⟩
    · by_cases hr : 0 ≤ a0 ∧ a0 < M 75 0
      · have h2' := h2 hr.1 (by omega)
        refine fr_cgo k119 [some (.inr (.inl 0)), some (.inl a0), some (.inl a1), none] 0 0 [] 400 rfl rfl rfl rfl ?_
        repeat' (first | (refine And.intro (by first | omega | (simp (disch := decide) only [up_n, up_s, cp_n, rw_n, rw_s, up1_, if_true, if_false, ite_true, ite_false, reduceIte, eq_self, Int.reduceEq, true_and, and_true, not_true_eq_false, not_false_eq_true]; omega)) ?_) | (refine c_hasBlocks (by omega) (fun hc => ?_) (fun hc => ?_) <;> (try (simp (disch := decide) only [up_n, up_s, cp_n, rw_n, rw_s, up1_, if_true, if_false, ite_true, ite_false, reduceIte, eq_self, Int.reduceEq, true_and, and_true, not_true_eq_false, not_false_eq_true] at hc))) | (refine And.intro (fun hc => ?_) (fun hc => ?_) <;> (try (simp (disch := decide) only [up_n, up_s, cp_n, rw_n, rw_s, up1_, if_true, if_false, ite_true, ite_false, reduceIte, eq_self, Int.reduceEq, true_and, and_true, not_true_eq_false, not_false_eq_true] at hc)) <;> (try (exfalso; omega))) | (refine fun (hc : ¬ _) => ?_; try (simp (disch := decide) only [up_n, up_s, cp_n, rw_n, rw_s, up1_, if_true, if_false, ite_true, ite_false, reduceIte, eq_self, Int.reduceEq, true_and, and_true, not_true_eq_false, not_false_eq_true] at hc)) | (refine fun (hc : _ = _) => ?_; try (simp (disch := decide) only [up_n, up_s, cp_n, rw_n, rw_s, up1_, if_true, if_false, ite_true, ite_false, reduceIte, eq_self, Int.reduceEq, true_and, and_true, not_true_eq_false, not_false_eq_true] at hc)))
        all_goals first | (exfalso; omega) | refine ⟨rfl, _, rfl, ?_⟩
        all_goals (refine fr_cgo k172 [some (.inr (.inl 75)), some (.inl a0), some (.inl a1), none] 0 0 [] 400 rfl rfl rfl rfl ?_)
        all_goals (repeat' (first | (refine And.intro (by first | omega | (simp (disch := decide) only [up_n, up_s, cp_n, rw_n, rw_s, up1_, if_true, if_false, ite_true, ite_false, reduceIte, eq_self, Int.reduceEq, true_and, and_true, not_true_eq_false, not_false_eq_true]; omega)) ?_) | (refine m_isRoutine (by omega) (fun hc => ?_) (fun hc => ?_) <;> (try (simp (disch := decide) only [up_n, up_s, cp_n, rw_n, rw_s, up1_, if_true, if_false, ite_true, ite_false, reduceIte, eq_self, Int.reduceEq, true_and, and_true, not_true_eq_false, not_false_eq_true] at hc))) | (refine m_in (fun hc => ?_) (fun hc => ?_) <;> (try (simp (disch := decide) only [up_n, up_s, cp_n, rw_n, rw_s, up1_, if_true, if_false, ite_true, ite_false, reduceIte, eq_self, Int.reduceEq, true_and, and_true, not_true_eq_false, not_false_eq_true] at hc))) | (refine And.intro (fun hc => ?_) (fun hc => ?_) <;> (try (simp (disch := decide) only [up_n, up_s, cp_n, rw_n, rw_s, up1_, if_true, if_false, ite_true, ite_false, reduceIte, eq_self, Int.reduceEq, true_and, and_true, not_true_eq_false, not_false_eq_true] at hc)) <;> (try (exfalso; omega))) | (refine fun (hc : ¬ _) => ?_; try (simp (disch := decide) only [up_n, up_s, cp_n, rw_n, rw_s, up1_, if_true, if_false, ite_true, ite_false, reduceIte, eq_self, Int.reduceEq, true_and, and_true, not_true_eq_false, not_false_eq_true] at hc)) | (refine fun (hc : _ = _) => ?_; try (simp (disch := decide) only [up_n, up_s, cp_n, rw_n, rw_s, up1_, if_true, if_false, ite_true, ite_false, reduceIte, eq_self, Int.reduceEq, true_and, and_true, not_true_eq_false, not_false_eq_true] at hc))))
        all_goals first | (exfalso; omega) | exact ⟨rfl, rfl, hN⟩
      · refine fr_cgo k119 [some (.inr (.inl 0)), some (.inl a0), some (.inl a1), none] 0 0 [] 400 rfl rfl rfl rfl ?_
        repeat' (first | (refine And.intro (by first | omega | (simp (disch := decide) only [up_n, up_s, cp_n, rw_n, rw_s, up1_, if_true, if_false, ite_true, ite_false, reduceIte, eq_self, Int.reduceEq, true_and, and_true, not_true_eq_false, not_false_eq_true]; omega)) ?_) | (refine c_hasBlocks (by omega) (fun hc => ?_) (fun hc => ?_) <;> (try (simp (disch := decide) only [up_n, up_s, cp_n, rw_n, rw_s, up1_, if_true, if_false, ite_true, ite_false, reduceIte, eq_self, Int.reduceEq, true_and, and_true, not_true_eq_false, not_false_eq_true] at hc))) | (refine And.intro (fun hc => ?_) (fun hc => ?_) <;> (try (simp (disch := decide) only [up_n, up_s, cp_n, rw_n, rw_s, up1_, if_true, if_false, ite_true, ite_false, reduceIte, eq_self, Int.reduceEq, true_and, and_true, not_true_eq_false, not_false_eq_true] at hc)) <;> (try (exfalso; omega))) | (refine fun (hc : ¬ _) => ?_; try (simp (disch := decide) only [up_n, up_s, cp_n, rw_n, rw_s, up1_, if_true, if_false, ite_true, ite_false, reduceIte, eq_self, Int.reduceEq, true_and, and_true, not_true_eq_false, not_false_eq_true] at hc)) | (refine fun (hc : _ = _) => ?_; try (simp (disch := decide) only [up_n, up_s, cp_n, rw_n, rw_s, up1_, if_true, if_false, ite_true, ite_false, reduceIte, eq_self, Int.reduceEq, true_and, and_true, not_true_eq_false, not_false_eq_true] at hc)))
        all_goals first | (exfalso; omega) | refine ⟨rfl, _, rfl, ?_⟩
        all_goals (refine fr_cgo k172 [some (.inr (.inl 75)), some (.inl a0), some (.inl a1), none] 0 0 [] 400 rfl rfl rfl rfl ?_)
        all_goals (repeat' (first | (refine And.intro (by first | omega | (simp (disch := decide) only [up_n, up_s, cp_n, rw_n, rw_s, up1_, if_true, if_false, ite_true, ite_false, reduceIte, eq_self, Int.reduceEq, true_and, and_true, not_true_eq_false, not_false_eq_true]; omega)) ?_) | (refine m_isRoutine (by omega) (fun hc => ?_) (fun hc => ?_) <;> (try (simp (disch := decide) only [up_n, up_s, cp_n, rw_n, rw_s, up1_, if_true, if_false, ite_true, ite_false, reduceIte, eq_self, Int.reduceEq, true_and, and_true, not_true_eq_false, not_false_eq_true] at hc))) | (refine m_in (fun hc => ?_) (fun hc => ?_) <;> (try (simp (disch := decide) only [up_n, up_s, cp_n, rw_n, rw_s, up1_, if_true, if_false, ite_true, ite_false, reduceIte, eq_self, Int.reduceEq, true_and, and_true, not_true_eq_false, not_false_eq_true] at hc))) | (refine And.intro (fun hc => ?_) (fun hc => ?_) <;> (try (simp (disch := decide) only [up_n, up_s, cp_n, rw_n, rw_s, up1_, if_true, if_false, ite_true, ite_false, reduceIte, eq_self, Int.reduceEq, true_and, and_true, not_true_eq_false, not_false_eq_true] at hc)) <;> (try (exfalso; omega))) | (refine fun (hc : ¬ _) => ?_; try (simp (disch := decide) only [up_n, up_s, cp_n, rw_n, rw_s, up1_, if_true, if_false, ite_true, ite_false, reduceIte, eq_self, Int.reduceEq, true_and, and_true, not_true_eq_false, not_false_eq_true] at hc)) | (refine fun (hc : _ = _) => ?_; try (simp (disch := decide) only [up_n, up_s, cp_n, rw_n, rw_s, up1_, if_true, if_false, ite_true, ite_false, reduceIte, eq_self, Int.reduceEq, true_and, and_true, not_true_eq_false, not_false_eq_true] at hc))))
        all_goals first | (exfalso; omega) | exact ⟨rfl, rfl, hN⟩
