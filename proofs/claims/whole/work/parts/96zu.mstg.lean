/-- how the reference names a rank, or none -/
def fnb (W : fr_M) (r x : Int) : Int := if x = -1 then -9 else W 77 (9 * r + x)
/-- what the reference holds while places are filled -/
def MPR (n r : Int) (s : JS) (W : fr_M) (rk : Int → Int) (pd : Nat) (pl : Int → Int) : Prop := (∀ i, 0 ≤ i → i < n → W 92 (W 77 (9 * r + i)) = (if s.2.1 i = -1 then -9 else W 77 (9 * r + s.2.1 i)) ∧ W 93 (W 77 (9 * r + i)) = (if s.2.2.1 i = -1 then -9 else W 77 (9 * r + s.2.2.1 i))) ∧ (∀ i, 0 ≤ i → i < (pd : Int) → W 78 (9 * r + i) = W 77 (9 * r + rk i)) ∧ (∀ y, 0 ≤ y → y < n → W 95 (W 77 (9 * r + y)) = pl y)
set_option maxHeartbeats 4000000 in
set_option maxRecDepth 100000 in
theorem m_st_l {W : fr_M} {r n pd : Int} {s : JS} {pl S : Int → Int} {x3 : Option fr_V} {Q : Option fr_V → fr_H → fr_M → Prop} (hP : PC W) (hR : RC W r n) (hJ : JI n s.1 s.2.1 s.2.2.1) (h93 : ∀ i, 0 ≤ i → i < n → W 93 (W 77 (9 * r + i)) = if s.2.2.1 i = -1 then -9 else W 77 (9 * r + s.2.2.1 i)) (h95 : ∀ y, 0 ≤ y → y < n → W 95 (W 77 (9 * r + y)) = pl y) (hp01 : ∀ y, pl y = 0 ∨ pl y = 1) (hS : ∀ z, 0 ≤ z → z < n → S z = sm (fun k => if pl k = 1 then ld W r s.1 k z else 0) n.toNat) (h : ∀ x4 x5 x6, fr_Run 171 none 122 [some (.inr (.inl 75)), some (.inl r), some (.inl pd), some (.inl (fnb W r (stg s.1 pl S n.toNat).1)), x4, x5, x6] [] sh0 W 0 0 Q) : ∀ (t k : Nat) (x6 : Option fr_V), (k : Int) + t = n → fr_Run 171 none 81 [some (.inr (.inl 75)), some (.inl r), some (.inl pd), some (.inl (fnb W r (stg s.1 pl S k).1)), some (.inl (stg s.1 pl S k).2), some (.inl (k : Int)), x6] [] sh0 W 0 0 Q := by
  have hr := hR.1
  have hm := hR.2.1
  have hn9 := hR.2.2.1
  intro t
  induction t with
  | zero =>
    intro k x6 q0
    have hh := h (some (.inl (stg s.1 pl S k).2)) (some (.inl (k : Int))) x6
    rw [show n.toNat = k by omega] at hh
    clear h
    refine fr_go k171 [81, 122] 400 rfl ?_
    repeat' (first | (refine And.intro (by first | omega | (simp (disch := decide) only [up_n, up_s, cp_n, rw_n, rw_s, up1_, if_true, if_false, ite_true, ite_false, reduceIte, eq_self, Int.reduceEq, true_and, and_true, not_true_eq_false, not_false_eq_true]; omega)) ?_) | (refine And.intro (fun hc => ?_) (fun hc => ?_) <;> (try (simp (disch := decide) only [up_n, up_s, cp_n, rw_n, rw_s, up1_, if_true, if_false, ite_true, ite_false, reduceIte, eq_self, Int.reduceEq, true_and, and_true, not_true_eq_false, not_false_eq_true] at hc)) <;> (try (exfalso; omega))) | (refine fun (hc : ¬ _) => ?_; try (simp (disch := decide) only [up_n, up_s, cp_n, rw_n, rw_s, up1_, if_true, if_false, ite_true, ite_false, reduceIte, eq_self, Int.reduceEq, true_and, and_true, not_true_eq_false, not_false_eq_true] at hc)) | (refine fun (hc : _ = _) => ?_; try (simp (disch := decide) only [up_n, up_s, cp_n, rw_n, rw_s, up1_, if_true, if_false, ite_true, ite_false, reduceIte, eq_self, Int.reduceEq, true_and, and_true, not_true_eq_false, not_false_eq_true] at hc)))
    all_goals first | (exfalso; omega) | exact hh
  | succ t ih =>
    intro k x6 q0
    have hk : 0 ≤ (k : Int) ∧ (k : Int) < n := by omega
    have hbl := hR.bl hk
    have h5 := h95 (k : Int) hk.1 hk.2
    have h3 := h93 (k : Int) hk.1 hk.2
    have hpr := hJ.2.2.1 (k : Int) hk.1 hk.2
    have hfp := hJ.2.2.2.1 (k : Int) hk.1 hk.2
    have hSk := hS (k : Int) hk.1 hk.2
    have h01 := hp01 (k : Int)
    have hh := fun x6 => ih (k + 1) x6 (by omega)
    rw [stg, show ((k + 1 : Nat) : Int) = (k : Int) + 1 by omega] at hh
    by_cases c1 : pl (k : Int) = 0
    · by_cases c2 : s.2.2.1 (k : Int) = -1
      · rw [if_pos c2] at h3
        have c3 := hfp.mpr c2
        have hsu := fun Q' hq => m_sumTo (W := W) (r := r) (n := n) (x := (k : Int)) (T := W 77 (9 * r + (k : Int))) (Q := Q') hP hR hJ h93 hk h95 hp01 rfl hq
        rw [← hSk] at hsu
        clear ih h h95 h93 hJ hp01 hS hSk hpr hfp
        by_cases c4 : S (k : Int) > (stg s.1 pl S k).2
        · rw [if_pos ⟨c3, c1, c4⟩] at hh
          have hnew : fnb W r (k : Int) = W 77 (9 * r + (k : Int)) := by
            unfold fnb
            rw [if_neg (by omega)]
          replace hh := fun x6 => (hh x6 : fr_Run 171 none 81 [some (.inr (.inl 75)), some (.inl r), some (.inl pd), some (.inl (fnb W r (k : Int))), some (.inl (S (k : Int))), some (.inl ((k : Int) + 1)), x6] [] sh0 W 0 0 Q)
          rw [hnew] at hh
          generalize stg s.1 pl S k = G at *
          generalize fnb W r G.1 = F at *
          refine fr_go k171 [81, 122] 400 rfl ?_
          repeat' (first | (refine And.intro (by first | omega | (simp (disch := decide) only [up_n, up_s, cp_n, rw_n, rw_s, up1_, if_true, if_false, ite_true, ite_false, reduceIte, eq_self, Int.reduceEq, true_and, and_true, not_true_eq_false, not_false_eq_true]; omega)) ?_) | (refine And.intro (fun hc => ?_) (fun hc => ?_) <;> (try (simp (disch := decide) only [up_n, up_s, cp_n, rw_n, rw_s, up1_, if_true, if_false, ite_true, ite_false, reduceIte, eq_self, Int.reduceEq, true_and, and_true, not_true_eq_false, not_false_eq_true] at hc)) <;> (try (exfalso; omega))) | (refine fun (hc : ¬ _) => ?_; try (simp (disch := decide) only [up_n, up_s, cp_n, rw_n, rw_s, up1_, if_true, if_false, ite_true, ite_false, reduceIte, eq_self, Int.reduceEq, true_and, and_true, not_true_eq_false, not_false_eq_true] at hc)) | (refine fun (hc : _ = _) => ?_; try (simp (disch := decide) only [up_n, up_s, cp_n, rw_n, rw_s, up1_, if_true, if_false, ite_true, ite_false, reduceIte, eq_self, Int.reduceEq, true_and, and_true, not_true_eq_false, not_false_eq_true] at hc)))
          all_goals first | (exfalso; omega) | skip
          refine hsu _ ?_
          repeat' (first | (refine And.intro (by first | omega | (simp (disch := decide) only [up_n, up_s, cp_n, rw_n, rw_s, up1_, if_true, if_false, ite_true, ite_false, reduceIte, eq_self, Int.reduceEq, true_and, and_true, not_true_eq_false, not_false_eq_true]; omega)) ?_) | (refine And.intro (fun hc => ?_) (fun hc => ?_) <;> (try (simp (disch := decide) only [up_n, up_s, cp_n, rw_n, rw_s, up1_, if_true, if_false, ite_true, ite_false, reduceIte, eq_self, Int.reduceEq, true_and, and_true, not_true_eq_false, not_false_eq_true] at hc)) <;> (try (exfalso; omega))) | (refine fun (hc : ¬ _) => ?_; try (simp (disch := decide) only [up_n, up_s, cp_n, rw_n, rw_s, up1_, if_true, if_false, ite_true, ite_false, reduceIte, eq_self, Int.reduceEq, true_and, and_true, not_true_eq_false, not_false_eq_true] at hc)) | (refine fun (hc : _ = _) => ?_; try (simp (disch := decide) only [up_n, up_s, cp_n, rw_n, rw_s, up1_, if_true, if_false, ite_true, ite_false, reduceIte, eq_self, Int.reduceEq, true_and, and_true, not_true_eq_false, not_false_eq_true] at hc)))
          all_goals first | (exfalso; omega) | skip
          refine hsu _ ?_
          repeat' (first | (refine And.intro (by first | omega | (simp (disch := decide) only [up_n, up_s, cp_n, rw_n, rw_s, up1_, if_true, if_false, ite_true, ite_false, reduceIte, eq_self, Int.reduceEq, true_and, and_true, not_true_eq_false, not_false_eq_true]; omega)) ?_) | (refine And.intro (fun hc => ?_) (fun hc => ?_) <;> (try (simp (disch := decide) only [up_n, up_s, cp_n, rw_n, rw_s, up1_, if_true, if_false, ite_true, ite_false, reduceIte, eq_self, Int.reduceEq, true_and, and_true, not_true_eq_false, not_false_eq_true] at hc)) <;> (try (exfalso; omega))) | (refine fun (hc : ¬ _) => ?_; try (simp (disch := decide) only [up_n, up_s, cp_n, rw_n, rw_s, up1_, if_true, if_false, ite_true, ite_false, reduceIte, eq_self, Int.reduceEq, true_and, and_true, not_true_eq_false, not_false_eq_true] at hc)) | (refine fun (hc : _ = _) => ?_; try (simp (disch := decide) only [up_n, up_s, cp_n, rw_n, rw_s, up1_, if_true, if_false, ite_true, ite_false, reduceIte, eq_self, Int.reduceEq, true_and, and_true, not_true_eq_false, not_false_eq_true] at hc)))
          all_goals first | (exfalso; omega) | exact hh _
        · rw [if_neg (fun q => c4 q.2.2)] at hh
          generalize stg s.1 pl S k = G at *
          generalize fnb W r G.1 = F at *
          refine fr_go k171 [81, 122] 400 rfl ?_
          repeat' (first | (refine And.intro (by first | omega | (simp (disch := decide) only [up_n, up_s, cp_n, rw_n, rw_s, up1_, if_true, if_false, ite_true, ite_false, reduceIte, eq_self, Int.reduceEq, true_and, and_true, not_true_eq_false, not_false_eq_true]; omega)) ?_) | (refine And.intro (fun hc => ?_) (fun hc => ?_) <;> (try (simp (disch := decide) only [up_n, up_s, cp_n, rw_n, rw_s, up1_, if_true, if_false, ite_true, ite_false, reduceIte, eq_self, Int.reduceEq, true_and, and_true, not_true_eq_false, not_false_eq_true] at hc)) <;> (try (exfalso; omega))) | (refine fun (hc : ¬ _) => ?_; try (simp (disch := decide) only [up_n, up_s, cp_n, rw_n, rw_s, up1_, if_true, if_false, ite_true, ite_false, reduceIte, eq_self, Int.reduceEq, true_and, and_true, not_true_eq_false, not_false_eq_true] at hc)) | (refine fun (hc : _ = _) => ?_; try (simp (disch := decide) only [up_n, up_s, cp_n, rw_n, rw_s, up1_, if_true, if_false, ite_true, ite_false, reduceIte, eq_self, Int.reduceEq, true_and, and_true, not_true_eq_false, not_false_eq_true] at hc)))
          all_goals first | (exfalso; omega) | skip
          refine hsu _ ?_
          repeat' (first | (refine And.intro (by first | omega | (simp (disch := decide) only [up_n, up_s, cp_n, rw_n, rw_s, up1_, if_true, if_false, ite_true, ite_false, reduceIte, eq_self, Int.reduceEq, true_and, and_true, not_true_eq_false, not_false_eq_true]; omega)) ?_) | (refine And.intro (fun hc => ?_) (fun hc => ?_) <;> (try (simp (disch := decide) only [up_n, up_s, cp_n, rw_n, rw_s, up1_, if_true, if_false, ite_true, ite_false, reduceIte, eq_self, Int.reduceEq, true_and, and_true, not_true_eq_false, not_false_eq_true] at hc)) <;> (try (exfalso; omega))) | (refine fun (hc : ¬ _) => ?_; try (simp (disch := decide) only [up_n, up_s, cp_n, rw_n, rw_s, up1_, if_true, if_false, ite_true, ite_false, reduceIte, eq_self, Int.reduceEq, true_and, and_true, not_true_eq_false, not_false_eq_true] at hc)) | (refine fun (hc : _ = _) => ?_; try (simp (disch := decide) only [up_n, up_s, cp_n, rw_n, rw_s, up1_, if_true, if_false, ite_true, ite_false, reduceIte, eq_self, Int.reduceEq, true_and, and_true, not_true_eq_false, not_false_eq_true] at hc)))
          all_goals first | (exfalso; omega) | exact hh _
      · rw [if_neg c2] at h3
        have c3 : s.1 (k : Int) ≠ (k : Int) := fun q => c2 (hfp.mp q)
        have hpb : 0 ≤ s.2.2.1 (k : Int) ∧ s.2.2.1 (k : Int) < n := by
          rcases hpr with q | q
          · exact absurd q c2
          · exact ⟨q.1, q.2.1⟩
        have hb2 := hR.bl hpb
        rw [if_neg (fun q => c3 q.1)] at hh
        clear ih h h95 h93 hJ hp01 hS hSk hpr hfp
        refine fr_go k171 [81, 122] 400 rfl ?_
        repeat' (first | (refine And.intro (by first | omega | (simp (disch := decide) only [up_n, up_s, cp_n, rw_n, rw_s, up1_, if_true, if_false, ite_true, ite_false, reduceIte, eq_self, Int.reduceEq, true_and, and_true, not_true_eq_false, not_false_eq_true]; omega)) ?_) | (refine And.intro (fun hc => ?_) (fun hc => ?_) <;> (try (simp (disch := decide) only [up_n, up_s, cp_n, rw_n, rw_s, up1_, if_true, if_false, ite_true, ite_false, reduceIte, eq_self, Int.reduceEq, true_and, and_true, not_true_eq_false, not_false_eq_true] at hc)) <;> (try (exfalso; omega))) | (refine fun (hc : ¬ _) => ?_; try (simp (disch := decide) only [up_n, up_s, cp_n, rw_n, rw_s, up1_, if_true, if_false, ite_true, ite_false, reduceIte, eq_self, Int.reduceEq, true_and, and_true, not_true_eq_false, not_false_eq_true] at hc)) | (refine fun (hc : _ = _) => ?_; try (simp (disch := decide) only [up_n, up_s, cp_n, rw_n, rw_s, up1_, if_true, if_false, ite_true, ite_false, reduceIte, eq_self, Int.reduceEq, true_and, and_true, not_true_eq_false, not_false_eq_true] at hc)))
        all_goals first | (exfalso; omega) | exact hh _
    · rw [if_neg (fun q => c1 q.2.1)] at hh
      clear ih h h95 h93 hJ hp01 hS hSk hpr hfp h3
      refine fr_go k171 [81, 122] 400 rfl ?_
      repeat' (first | (refine And.intro (by first | omega | (simp (disch := decide) only [up_n, up_s, cp_n, rw_n, rw_s, up1_, if_true, if_false, ite_true, ite_false, reduceIte, eq_self, Int.reduceEq, true_and, and_true, not_true_eq_false, not_false_eq_true]; omega)) ?_) | (refine And.intro (fun hc => ?_) (fun hc => ?_) <;> (try (simp (disch := decide) only [up_n, up_s, cp_n, rw_n, rw_s, up1_, if_true, if_false, ite_true, ite_false, reduceIte, eq_self, Int.reduceEq, true_and, and_true, not_true_eq_false, not_false_eq_true] at hc)) <;> (try (exfalso; omega))) | (refine fun (hc : ¬ _) => ?_; try (simp (disch := decide) only [up_n, up_s, cp_n, rw_n, rw_s, up1_, if_true, if_false, ite_true, ite_false, reduceIte, eq_self, Int.reduceEq, true_and, and_true, not_true_eq_false, not_false_eq_true] at hc)) | (refine fun (hc : _ = _) => ?_; try (simp (disch := decide) only [up_n, up_s, cp_n, rw_n, rw_s, up1_, if_true, if_false, ite_true, ite_false, reduceIte, eq_self, Int.reduceEq, true_and, and_true, not_true_eq_false, not_false_eq_true] at hc)))
      all_goals first | (exfalso; omega) | exact hh _
