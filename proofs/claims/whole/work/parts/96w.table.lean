set_option maxHeartbeats 4000000 in
set_option maxRecDepth 100000 in
theorem m_mt3 {M : fr_M} {r n s l : Int} {g : Int → Int} {Q : Option fr_V → fr_H → fr_M → Prop} (hR : RC M r n) (hs : 0 ≤ s ∧ s < b2 n) (hl : 0 ≤ l ∧ l < n) (hg : LT_ (cf M r) n g s l) (h : ∀ x8, fr_Run 161 none 85 [some (.inr (.inl 75)), some (.inl r), some (.inl n), some (.inl s), some (.inl l), some (.inl (M 77 (9 * r + l))), some (.inl (rf (cf M r) g s l n.toNat)), some (.inl n), x8] [] sh0 (rw_ M 91 g) 0 0 Q) : ∀ (t k : Nat) (x8 : Option fr_V), (k : Int) + t = n → fr_Run 161 none 37 [some (.inr (.inl 75)), some (.inl r), some (.inl n), some (.inl s), some (.inl l), some (.inl (M 77 (9 * r + l))), some (.inl (rf (cf M r) g s l k)), some (.inl (k : Int)), x8] [] sh0 (rw_ M 91 g) 0 0 Q := by
  have hr := hR.1
  have hn9 := hR.2.2.1
  have hbn := (bit_shl (k := n) (by omega)).2
  have hf : ∀ i j, 0 ≤ i → i < n → 0 ≤ cf M r i j ∧ cf M r i j ≤ 6000000 := fun i j a0 a1 => cf_b hR ⟨a0, a1⟩
  have hbl := hR.bl hl
  intro t
  induction t with
  | zero =>
    intro k x8 q0
    have hh := h x8
    rw [show n.toNat = k by omega] at hh
    have e : n = (k : Int) := by omega
    clear h
    subst e
    refine fr_go k161 [37, 85] 400 rfl ?_
    repeat' (first | (refine And.intro (by first | omega | (simp (disch := decide) only [up_n, up_s, cp_n, rw_n, rw_s, up1_, if_true, if_false, ite_true, ite_false, reduceIte, eq_self, Int.reduceEq, true_and, and_true, not_true_eq_false, not_false_eq_true]; omega)) ?_) | (refine And.intro (fun hc => ?_) (fun hc => ?_) <;> (try (simp (disch := decide) only [up_n, up_s, cp_n, rw_n, rw_s, up1_, if_true, if_false, ite_true, ite_false, reduceIte, eq_self, Int.reduceEq, true_and, and_true, not_true_eq_false, not_false_eq_true] at hc)) <;> (try (exfalso; omega))) | (refine fun (hc : ¬ _) => ?_; try (simp (disch := decide) only [up_n, up_s, cp_n, rw_n, rw_s, up1_, if_true, if_false, ite_true, ite_false, reduceIte, eq_self, Int.reduceEq, true_and, and_true, not_true_eq_false, not_false_eq_true] at hc)) | (refine fun (hc : _ = _) => ?_; try (simp (disch := decide) only [up_n, up_s, cp_n, rw_n, rw_s, up1_, if_true, if_false, ite_true, ite_false, reduceIte, eq_self, Int.reduceEq, true_and, and_true, not_true_eq_false, not_false_eq_true] at hc)))
    all_goals first | (exfalso; omega) | exact hh
  | succ t ih =>
    intro k x8 q0
    have hh := fun x8 => ih (k + 1) x8 (by omega)
    have hrb := rf_b (f := cf M r) (L := g) (n := n) (s := s) (l := l) (by omega) hl hf (hg.in_ hn9 hs) k (by omega)
    have hpc := pcn_b (s := s)
    have hsh := bit_shr (s := s) (k := (k : Int)) (by omega) (by omega)
    have h01 := bt_01 (s := s) (k := (k : Int))
    rw [rf, show ((k + 1 : Nat) : Int) = (k : Int) + 1 by omega] at hh
    by_cases e : btt s (k : Int) = 1
    · have hsl := (bit_shl (k := (k : Int)) (by omega))
      have hbo := bit_out (s := s) (k := (k : Int)) (by omega) (by omega) e
      have hbk := hR.bl (k := (k : Int)) (by omega)
      have hLk := hg.in_ hn9 hs (k : Int) (by omega) (by omega) e
      have hfk := hf l (k : Int) hl.1 hl.2
      have h85 := hR.2.2.2.2.2
      have ec : cs (rw_ M 91 g) (M 77 (9 * r + l)) (M 77 (9 * r + (k : Int))) = cf M r l (k : Int) := by
        show cs M (M 77 (9 * r + l)) (M 77 (9 * r + (k : Int))) = _
        unfold cf
        rw [if_neg (by omega)]
      rw [if_pos e] at hh
      have hand : fr_and s (fr_xor (fr_shl 1 (k : Int)) (-1)) = s - b2 (k : Int) := by
        rw [hsl.1]
        exact hbo.1
      rw [← hand] at hLk hh
      clear ih h
      generalize cf M r l (k : Int) = v at hh hfk ec
      refine fr_go k161 [37, 85] 400 rfl ?_
      repeat' (first | (refine And.intro (by first | omega | (simp (disch := decide) only [up_n, up_s, cp_n, rw_n, rw_s, up1_, if_true, if_false, ite_true, ite_false, reduceIte, eq_self, Int.reduceEq, true_and, and_true, not_true_eq_false, not_false_eq_true]; omega)) ?_) | (refine And.intro (fun hc => ?_) (fun hc => ?_) <;> (try (simp (disch := decide) only [up_n, up_s, cp_n, rw_n, rw_s, up1_, if_true, if_false, ite_true, ite_false, reduceIte, eq_self, Int.reduceEq, true_and, and_true, not_true_eq_false, not_false_eq_true] at hc)) <;> (try (exfalso; omega))) | (refine fun (hc : ¬ _) => ?_; try (simp (disch := decide) only [up_n, up_s, cp_n, rw_n, rw_s, up1_, if_true, if_false, ite_true, ite_false, reduceIte, eq_self, Int.reduceEq, true_and, and_true, not_true_eq_false, not_false_eq_true] at hc)) | (refine fun (hc : _ = _) => ?_; try (simp (disch := decide) only [up_n, up_s, cp_n, rw_n, rw_s, up1_, if_true, if_false, ite_true, ite_false, reduceIte, eq_self, Int.reduceEq, true_and, and_true, not_true_eq_false, not_false_eq_true] at hc)))
      all_goals first | (exfalso; omega) | skip
      all_goals (show fr_Call 159 _ sh0 _ _)
      simp (disch := decide) only [up_n, up_s, cp_n, rw_n, rw_s, up1_, if_true, if_false, ite_true, ite_false, reduceIte, eq_self, Int.reduceEq, true_and, and_true, not_true_eq_false, not_false_eq_true]
      refine m_cost hbl.1 hbl.2.1 h85 ?_
      rw [ec]
      repeat' (first | (refine And.intro (by first | omega | (simp (disch := decide) only [up_n, up_s, cp_n, rw_n, rw_s, up1_, if_true, if_false, ite_true, ite_false, reduceIte, eq_self, Int.reduceEq, true_and, and_true, not_true_eq_false, not_false_eq_true]; omega)) ?_) | (refine And.intro (fun hc => ?_) (fun hc => ?_) <;> (try (simp (disch := decide) only [up_n, up_s, cp_n, rw_n, rw_s, up1_, if_true, if_false, ite_true, ite_false, reduceIte, eq_self, Int.reduceEq, true_and, and_true, not_true_eq_false, not_false_eq_true] at hc)) <;> (try (exfalso; omega))) | (refine fun (hc : ¬ _) => ?_; try (simp (disch := decide) only [up_n, up_s, cp_n, rw_n, rw_s, up1_, if_true, if_false, ite_true, ite_false, reduceIte, eq_self, Int.reduceEq, true_and, and_true, not_true_eq_false, not_false_eq_true] at hc)) | (refine fun (hc : _ = _) => ?_; try (simp (disch := decide) only [up_n, up_s, cp_n, rw_n, rw_s, up1_, if_true, if_false, ite_true, ite_false, reduceIte, eq_self, Int.reduceEq, true_and, and_true, not_true_eq_false, not_false_eq_true] at hc)))
      all_goals first | (exfalso; omega) | (exfalso; simp (disch := decide) only [up_n, up_s, cp_n, rw_n, rw_s, up1_, if_true, if_false, ite_true, ite_false, reduceIte, eq_self, Int.reduceEq, true_and, and_true, not_true_eq_false, not_false_eq_true] at *; omega) | skip
      all_goals (simp (disch := decide) only [up_n, up_s, cp_n, rw_n, rw_s, up1_, if_true, if_false, ite_true, ite_false, reduceIte, eq_self, Int.reduceEq, true_and, and_true, not_true_eq_false, not_false_eq_true] at *)
      all_goals first | (rw [if_pos (by omega)] at hh; exact hh _) | (rw [if_neg (by omega)] at hh; exact hh _)
    · rw [if_neg e] at hh
      clear ih h
      refine fr_go k161 [37, 85] 400 rfl ?_
      repeat' (first | (refine And.intro (by first | omega | (simp (disch := decide) only [up_n, up_s, cp_n, rw_n, rw_s, up1_, if_true, if_false, ite_true, ite_false, reduceIte, eq_self, Int.reduceEq, true_and, and_true, not_true_eq_false, not_false_eq_true]; omega)) ?_) | (refine And.intro (fun hc => ?_) (fun hc => ?_) <;> (try (simp (disch := decide) only [up_n, up_s, cp_n, rw_n, rw_s, up1_, if_true, if_false, ite_true, ite_false, reduceIte, eq_self, Int.reduceEq, true_and, and_true, not_true_eq_false, not_false_eq_true] at hc)) <;> (try (exfalso; omega))) | (refine fun (hc : ¬ _) => ?_; try (simp (disch := decide) only [up_n, up_s, cp_n, rw_n, rw_s, up1_, if_true, if_false, ite_true, ite_false, reduceIte, eq_self, Int.reduceEq, true_and, and_true, not_true_eq_false, not_false_eq_true] at hc)) | (refine fun (hc : _ = _) => ?_; try (simp (disch := decide) only [up_n, up_s, cp_n, rw_n, rw_s, up1_, if_true, if_false, ite_true, ite_false, reduceIte, eq_self, Int.reduceEq, true_and, and_true, not_true_eq_false, not_false_eq_true] at hc)))
      all_goals first | (exfalso; omega) | exact hh _
set_option maxHeartbeats 4000000 in
set_option maxRecDepth 100000 in
theorem m_mt2 {M : fr_M} {r n s : Int} {Q : Option fr_V → fr_H → fr_M → Prop} (hR : RC M r n) (hs : 0 ≤ s ∧ s < b2 n) (h : ∀ g x5 x6 x7 x8, LT_ (cf M r) n g (s + 1) 0 → fr_Run 161 none 7 [some (.inr (.inl 75)), some (.inl r), some (.inl n), some (.inl (s + 1)), some (.inl n), x5, x6, x7, x8] [] sh0 (rw_ M 91 g) 0 0 Q) : ∀ (t : Nat) (l : Int) (g : Int → Int) (x5 x6 x7 x8 : Option fr_V), 0 ≤ l → l + t = n → LT_ (cf M r) n g s l → fr_Run 161 none 14 [some (.inr (.inl 75)), some (.inl r), some (.inl n), some (.inl s), some (.inl l), x5, x6, x7, x8] [] sh0 (rw_ M 91 g) 0 0 Q := by
  have hr := hR.1
  have hn9 := hR.2.2.1
  have hbn := (bit_shl (k := n) (by omega)).2
  have hf : ∀ i j, 0 ≤ i → i < n → 0 ≤ cf M r i j ∧ cf M r i j ≤ 6000000 := fun i j a0 a1 => cf_b hR ⟨a0, a1⟩
  intro t
  induction t with
  | zero =>
    intro l g x5 x6 x7 x8 q0 q1 q2
    have e : l = n := by omega
    have hh := h g x5 x6 x7 x8 (fun s' l' a0 a1 c0 c1 hlt => q2 s' l' a0 a1 c0 c1 (by omega))
    clear h
    subst e
    refine fr_go k161 [7, 14] 400 rfl ?_
    repeat' (first | (refine And.intro (by first | omega | (simp (disch := decide) only [up_n, up_s, cp_n, rw_n, rw_s, up1_, if_true, if_false, ite_true, ite_false, reduceIte, eq_self, Int.reduceEq, true_and, and_true, not_true_eq_false, not_false_eq_true]; omega)) ?_) | (refine And.intro (fun hc => ?_) (fun hc => ?_) <;> (try (simp (disch := decide) only [up_n, up_s, cp_n, rw_n, rw_s, up1_, if_true, if_false, ite_true, ite_false, reduceIte, eq_self, Int.reduceEq, true_and, and_true, not_true_eq_false, not_false_eq_true] at hc)) <;> (try (exfalso; omega))) | (refine fun (hc : ¬ _) => ?_; try (simp (disch := decide) only [up_n, up_s, cp_n, rw_n, rw_s, up1_, if_true, if_false, ite_true, ite_false, reduceIte, eq_self, Int.reduceEq, true_and, and_true, not_true_eq_false, not_false_eq_true] at hc)) | (refine fun (hc : _ = _) => ?_; try (simp (disch := decide) only [up_n, up_s, cp_n, rw_n, rw_s, up1_, if_true, if_false, ite_true, ite_false, reduceIte, eq_self, Int.reduceEq, true_and, and_true, not_true_eq_false, not_false_eq_true] at hc)))
    all_goals first | (exfalso; omega) | exact hh
  | succ t ih =>
    intro l g x5 x6 x7 x8 q0 q1 q2
    have hl : 0 ≤ l ∧ l < n := by omega
    have hst := q2.step hn9 hs hl hf
    have hfin := q2.fin hn9 hs hl hf
    have hpc := pcn_b (s := s)
    have hbl := hR.bl hl
    have h85 := hR.2.2.2.2.2
    have hh := fun x5 x6 x7 x8 => ih (l + 1) _ x5 x6 x7 x8 (by omega) (by omega) hst
    have h3 := m_mt3 (Q := Q) hR hs hl q2 (fun x8 => by
      clear ih h q2 hst
      refine fr_go k161 [14] 400 rfl ?_
      repeat' (first | (refine And.intro (by first | omega | (simp (disch := decide) only [up_n, up_s, cp_n, rw_n, rw_s, up1_, if_true, if_false, ite_true, ite_false, reduceIte, eq_self, Int.reduceEq, true_and, and_true, not_true_eq_false, not_false_eq_true]; omega)) ?_) | (refine And.intro (fun hc => ?_) (fun hc => ?_) <;> (try (simp (disch := decide) only [up_n, up_s, cp_n, rw_n, rw_s, up1_, if_true, if_false, ite_true, ite_false, reduceIte, eq_self, Int.reduceEq, true_and, and_true, not_true_eq_false, not_false_eq_true] at hc)) <;> (try (exfalso; omega))) | (refine fun (hc : ¬ _) => ?_; try (simp (disch := decide) only [up_n, up_s, cp_n, rw_n, rw_s, up1_, if_true, if_false, ite_true, ite_false, reduceIte, eq_self, Int.reduceEq, true_and, and_true, not_true_eq_false, not_false_eq_true] at hc)) | (refine fun (hc : _ = _) => ?_; try (simp (disch := decide) only [up_n, up_s, cp_n, rw_n, rw_s, up1_, if_true, if_false, ite_true, ite_false, reduceIte, eq_self, Int.reduceEq, true_and, and_true, not_true_eq_false, not_false_eq_true] at hc)))
      all_goals first | (exfalso; omega) | skip
      simp (disch := decide) only [up_rw, rw_u, up_up, rw_rw, rw_cm]
      exact hh _ _ _ _) n.toNat 0 x8 (by omega)
    have ec : cs (rw_ M 91 g) (M 77 (9 * r + l)) (-9) = cf M r l 9 := by
      show cs M (M 77 (9 * r + l)) (-9) = _
      unfold cf
      rw [if_pos rfl]
    rw [rf] at h3
    clear ih h hh q2 hst
    by_cases e : s = 0
    · rw [if_pos e] at h3
      refine fr_go k161 [37] 400 rfl ?_
      repeat' (first | (refine And.intro (by first | omega | (simp (disch := decide) only [up_n, up_s, cp_n, rw_n, rw_s, up1_, if_true, if_false, ite_true, ite_false, reduceIte, eq_self, Int.reduceEq, true_and, and_true, not_true_eq_false, not_false_eq_true]; omega)) ?_) | (refine And.intro (fun hc => ?_) (fun hc => ?_) <;> (try (simp (disch := decide) only [up_n, up_s, cp_n, rw_n, rw_s, up1_, if_true, if_false, ite_true, ite_false, reduceIte, eq_self, Int.reduceEq, true_and, and_true, not_true_eq_false, not_false_eq_true] at hc)) <;> (try (exfalso; omega))) | (refine fun (hc : ¬ _) => ?_; try (simp (disch := decide) only [up_n, up_s, cp_n, rw_n, rw_s, up1_, if_true, if_false, ite_true, ite_false, reduceIte, eq_self, Int.reduceEq, true_and, and_true, not_true_eq_false, not_false_eq_true] at hc)) | (refine fun (hc : _ = _) => ?_; try (simp (disch := decide) only [up_n, up_s, cp_n, rw_n, rw_s, up1_, if_true, if_false, ite_true, ite_false, reduceIte, eq_self, Int.reduceEq, true_and, and_true, not_true_eq_false, not_false_eq_true] at hc)))
      all_goals first | (exfalso; omega) | skip
      all_goals (show fr_Call 159 _ sh0 _ _)
      simp (disch := decide) only [up_n, up_s, cp_n, rw_n, rw_s, up1_, if_true, if_false, ite_true, ite_false, reduceIte, eq_self, Int.reduceEq, true_and, and_true, not_true_eq_false, not_false_eq_true]
      refine m_cost hbl.1 hbl.2.1 h85 ?_
      rw [ec]
      repeat' (first | (refine And.intro (by first | omega | (simp (disch := decide) only [up_n, up_s, cp_n, rw_n, rw_s, up1_, if_true, if_false, ite_true, ite_false, reduceIte, eq_self, Int.reduceEq, true_and, and_true, not_true_eq_false, not_false_eq_true]; omega)) ?_) | (refine And.intro (fun hc => ?_) (fun hc => ?_) <;> (try (simp (disch := decide) only [up_n, up_s, cp_n, rw_n, rw_s, up1_, if_true, if_false, ite_true, ite_false, reduceIte, eq_self, Int.reduceEq, true_and, and_true, not_true_eq_false, not_false_eq_true] at hc)) <;> (try (exfalso; omega))) | (refine fun (hc : ¬ _) => ?_; try (simp (disch := decide) only [up_n, up_s, cp_n, rw_n, rw_s, up1_, if_true, if_false, ite_true, ite_false, reduceIte, eq_self, Int.reduceEq, true_and, and_true, not_true_eq_false, not_false_eq_true] at hc)) | (refine fun (hc : _ = _) => ?_; try (simp (disch := decide) only [up_n, up_s, cp_n, rw_n, rw_s, up1_, if_true, if_false, ite_true, ite_false, reduceIte, eq_self, Int.reduceEq, true_and, and_true, not_true_eq_false, not_false_eq_true] at hc)))
      all_goals first | (exfalso; omega) | exact h3
    · rw [if_neg e] at h3
      refine fr_go k161 [37] 400 rfl ?_
      repeat' (first | (refine And.intro (by first | omega | (simp (disch := decide) only [up_n, up_s, cp_n, rw_n, rw_s, up1_, if_true, if_false, ite_true, ite_false, reduceIte, eq_self, Int.reduceEq, true_and, and_true, not_true_eq_false, not_false_eq_true]; omega)) ?_) | (refine And.intro (fun hc => ?_) (fun hc => ?_) <;> (try (simp (disch := decide) only [up_n, up_s, cp_n, rw_n, rw_s, up1_, if_true, if_false, ite_true, ite_false, reduceIte, eq_self, Int.reduceEq, true_and, and_true, not_true_eq_false, not_false_eq_true] at hc)) <;> (try (exfalso; omega))) | (refine fun (hc : ¬ _) => ?_; try (simp (disch := decide) only [up_n, up_s, cp_n, rw_n, rw_s, up1_, if_true, if_false, ite_true, ite_false, reduceIte, eq_self, Int.reduceEq, true_and, and_true, not_true_eq_false, not_false_eq_true] at hc)) | (refine fun (hc : _ = _) => ?_; try (simp (disch := decide) only [up_n, up_s, cp_n, rw_n, rw_s, up1_, if_true, if_false, ite_true, ite_false, reduceIte, eq_self, Int.reduceEq, true_and, and_true, not_true_eq_false, not_false_eq_true] at hc)))
      all_goals first | (exfalso; omega) | exact h3
set_option maxHeartbeats 4000000 in
set_option maxRecDepth 100000 in
theorem m_mt1 {M : fr_M} {r n : Int} {Q : Option fr_V → fr_H → fr_M → Prop} (hR : RC M r n) (h : ∀ g, LT_ (cf M r) n g (b2 n) 0 → Q none sh0 (rw_ M 91 g)) : ∀ (t : Nat) (s : Int) (g : Int → Int) (x4 x5 x6 x7 x8 : Option fr_V), 0 ≤ s → s + t = b2 n → LT_ (cf M r) n g s 0 → fr_Run 161 none 7 [some (.inr (.inl 75)), some (.inl r), some (.inl n), some (.inl s), x4, x5, x6, x7, x8] [] sh0 (rw_ M 91 g) 0 0 Q := by
  have hr := hR.1
  have hn9 := hR.2.2.1
  have hbn := bit_shl (k := n) (by omega)
  intro t
  induction t with
  | zero =>
    intro s g x4 x5 x6 x7 x8 q0 q1 q2
    have e : s = b2 n := by omega
    rw [← e] at h
    have hh := h g q2
    clear h
    refine fr_go k161 [7] 400 rfl ?_
    repeat' (first | (refine And.intro (by first | omega | (simp (disch := decide) only [up_n, up_s, cp_n, rw_n, rw_s, up1_, if_true, if_false, ite_true, ite_false, reduceIte, eq_self, Int.reduceEq, true_and, and_true, not_true_eq_false, not_false_eq_true]; omega)) ?_) | (refine And.intro (fun hc => ?_) (fun hc => ?_) <;> (try (simp (disch := decide) only [up_n, up_s, cp_n, rw_n, rw_s, up1_, if_true, if_false, ite_true, ite_false, reduceIte, eq_self, Int.reduceEq, true_and, and_true, not_true_eq_false, not_false_eq_true] at hc)) <;> (try (exfalso; omega))) | (refine fun (hc : ¬ _) => ?_; try (simp (disch := decide) only [up_n, up_s, cp_n, rw_n, rw_s, up1_, if_true, if_false, ite_true, ite_false, reduceIte, eq_self, Int.reduceEq, true_and, and_true, not_true_eq_false, not_false_eq_true] at hc)) | (refine fun (hc : _ = _) => ?_; try (simp (disch := decide) only [up_n, up_s, cp_n, rw_n, rw_s, up1_, if_true, if_false, ite_true, ite_false, reduceIte, eq_self, Int.reduceEq, true_and, and_true, not_true_eq_false, not_false_eq_true] at hc)))
    all_goals first | (exfalso; omega) | exact hh
  | succ t ih =>
    intro s g x4 x5 x6 x7 x8 q0 q1 q2
    have h2 := m_mt2 (Q := Q) hR (s := s) (by omega) (fun g x5 x6 x7 x8 hg => ih (s + 1) g _ x5 x6 x7 x8 (by omega) (by omega) hg) n.toNat 0 g x5 x6 x7 x8 (by omega) (by omega) q2
    clear ih h
    refine fr_go k161 [7, 14] 400 rfl ?_
    repeat' (first | (refine And.intro (by first | omega | (simp (disch := decide) only [up_n, up_s, cp_n, rw_n, rw_s, up1_, if_true, if_false, ite_true, ite_false, reduceIte, eq_self, Int.reduceEq, true_and, and_true, not_true_eq_false, not_false_eq_true]; omega)) ?_) | (refine And.intro (fun hc => ?_) (fun hc => ?_) <;> (try (simp (disch := decide) only [up_n, up_s, cp_n, rw_n, rw_s, up1_, if_true, if_false, ite_true, ite_false, reduceIte, eq_self, Int.reduceEq, true_and, and_true, not_true_eq_false, not_false_eq_true] at hc)) <;> (try (exfalso; omega))) | (refine fun (hc : ¬ _) => ?_; try (simp (disch := decide) only [up_n, up_s, cp_n, rw_n, rw_s, up1_, if_true, if_false, ite_true, ite_false, reduceIte, eq_self, Int.reduceEq, true_and, and_true, not_true_eq_false, not_false_eq_true] at hc)) | (refine fun (hc : _ = _) => ?_; try (simp (disch := decide) only [up_n, up_s, cp_n, rw_n, rw_s, up1_, if_true, if_false, ite_true, ite_false, reduceIte, eq_self, Int.reduceEq, true_and, and_true, not_true_eq_false, not_false_eq_true] at hc)))
    all_goals first | (exfalso; omega) | exact h2
set_option maxHeartbeats 4000000 in
set_option maxRecDepth 100000 in
theorem m_makeTable {M : fr_M} {r n : Int} {Q : Option fr_V → fr_H → fr_M → Prop} (hR : RC M r n) (h : ∀ g, LT_ (cf M r) n g (b2 n) 0 → Q none sh0 (rw_ M 91 g)) : fr_Call 161 [.inr (.inl 75), .inl r] sh0 M Q := by
  have hr := hR.1
  have hn := hR.2.1
  have hbn := bit_shl (k := n) (by have := hR.2.2.1; omega)
  refine fr_cgo k161 [some (.inr (.inl 75)), some (.inl r), none, none, none, none, none, none, none] 0 0 [7] 400 rfl rfl rfl rfl ?_
  repeat' (first | (refine And.intro (by first | omega | (simp (disch := decide) only [up_n, up_s, cp_n, rw_n, rw_s, up1_, if_true, if_false, ite_true, ite_false, reduceIte, eq_self, Int.reduceEq, true_and, and_true, not_true_eq_false, not_false_eq_true]; omega)) ?_) | (refine And.intro (fun hc => ?_) (fun hc => ?_) <;> (try (simp (disch := decide) only [up_n, up_s, cp_n, rw_n, rw_s, up1_, if_true, if_false, ite_true, ite_false, reduceIte, eq_self, Int.reduceEq, true_and, and_true, not_true_eq_false, not_false_eq_true] at hc)) <;> (try (exfalso; omega))) | (refine fun (hc : ¬ _) => ?_; try (simp (disch := decide) only [up_n, up_s, cp_n, rw_n, rw_s, up1_, if_true, if_false, ite_true, ite_false, reduceIte, eq_self, Int.reduceEq, true_and, and_true, not_true_eq_false, not_false_eq_true] at hc)) | (refine fun (hc : _ = _) => ?_; try (simp (disch := decide) only [up_n, up_s, cp_n, rw_n, rw_s, up1_, if_true, if_false, ite_true, ite_false, reduceIte, eq_self, Int.reduceEq, true_and, and_true, not_true_eq_false, not_false_eq_true] at hc)))
  all_goals first | (exfalso; omega) | skip
  rw [hn]
  exact q_run (m_mt1 hR h (b2 n).toNat 0 (M 91) none none none none none (by omega) (by omega) (fun s' l' a0 a1 c0 c1 hlt => by omega)) rw_id
