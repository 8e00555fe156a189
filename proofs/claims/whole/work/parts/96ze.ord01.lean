set_option maxHeartbeats 4000000 in
set_option maxRecDepth 100000 in
theorem c_o0_l {M : fr_M} {r m : Int} {Q : Option fr_V → fr_H → fr_M → Prop} (hm : M 18 2 = m ∧ 0 ≤ m ∧ m ≤ 9) (h : ∀ g x3, (∀ j, 0 ≤ j → j < m → g j = j) → fr_Run 119 none 68 [some (.inr (.inl 0)), some (.inl r), some (.inl 0), x3] [] sh0 (rw_ M 74 g) 0 0 Q) : ∀ (t : Nat) (i : Int) (g : Int → Int), 0 ≤ i → i + t = m → (∀ j, 0 ≤ j → j < i → g j = j) → fr_Run 119 none 30 [some (.inr (.inl 0)), some (.inl r), some (.inl 0), some (.inl i)] [] sh0 (rw_ M 74 g) 0 0 Q := by
  intro t
  induction t with
  | zero =>
    intro i g q0 q1 q2
    have e : i = m := by omega
    subst e
    have hh := h g (some (.inl i)) q2
    clear h
    refine fr_go k119 [30, 68] 400 rfl ?_
    repeat' (first | (refine And.intro (by first | omega | (simp (disch := decide) only [up_n, up_s, cp_n, rw_n, rw_s, up1_, if_true, if_false, ite_true, ite_false, reduceIte, eq_self, Int.reduceEq, true_and, and_true, not_true_eq_false, not_false_eq_true]; omega)) ?_) | (refine And.intro (fun hc => ?_) (fun hc => ?_) <;> (try (simp (disch := decide) only [up_n, up_s, cp_n, rw_n, rw_s, up1_, if_true, if_false, ite_true, ite_false, reduceIte, eq_self, Int.reduceEq, true_and, and_true, not_true_eq_false, not_false_eq_true] at hc)) <;> (try (exfalso; omega))) | (refine fun (hc : ¬ _) => ?_; try (simp (disch := decide) only [up_n, up_s, cp_n, rw_n, rw_s, up1_, if_true, if_false, ite_true, ite_false, reduceIte, eq_self, Int.reduceEq, true_and, and_true, not_true_eq_false, not_false_eq_true] at hc)) | (refine fun (hc : _ = _) => ?_; try (simp (disch := decide) only [up_n, up_s, cp_n, rw_n, rw_s, up1_, if_true, if_false, ite_true, ite_false, reduceIte, eq_self, Int.reduceEq, true_and, and_true, not_true_eq_false, not_false_eq_true] at hc)))
    all_goals first | (exfalso; omega) | exact hh
  | succ t ih =>
    intro i g q0 q1 q2
    have hh := ih (i + 1) (up1 g i i) (by omega) (by omega) (fun j a0 a1 => by
      rw [up1_]
      split
      · omega
      · exact q2 j a0 (by omega))
    clear ih h
    refine fr_go k119 [30, 68] 400 rfl ?_
    repeat' (first | (refine And.intro (by first | omega | (simp (disch := decide) only [up_n, up_s, cp_n, rw_n, rw_s, up1_, if_true, if_false, ite_true, ite_false, reduceIte, eq_self, Int.reduceEq, true_and, and_true, not_true_eq_false, not_false_eq_true]; omega)) ?_) | (refine And.intro (fun hc => ?_) (fun hc => ?_) <;> (try (simp (disch := decide) only [up_n, up_s, cp_n, rw_n, rw_s, up1_, if_true, if_false, ite_true, ite_false, reduceIte, eq_self, Int.reduceEq, true_and, and_true, not_true_eq_false, not_false_eq_true] at hc)) <;> (try (exfalso; omega))) | (refine fun (hc : ¬ _) => ?_; try (simp (disch := decide) only [up_n, up_s, cp_n, rw_n, rw_s, up1_, if_true, if_false, ite_true, ite_false, reduceIte, eq_self, Int.reduceEq, true_and, and_true, not_true_eq_false, not_false_eq_true] at hc)) | (refine fun (hc : _ = _) => ?_; try (simp (disch := decide) only [up_n, up_s, cp_n, rw_n, rw_s, up1_, if_true, if_false, ite_true, ite_false, reduceIte, eq_self, Int.reduceEq, true_and, and_true, not_true_eq_false, not_false_eq_true] at hc)))
    all_goals first | (exfalso; omega) | skip
    simp (disch := decide) only [up_rw, rw_u, up_up, rw_rw, rw_cm]
    exact hh
set_option maxHeartbeats 4000000 in
set_option maxRecDepth 100000 in
theorem m_o0_l {M : fr_M} {r m : Int} {Q : Option fr_V → fr_H → fr_M → Prop} (hr : 0 ≤ r ∧ r < 6) (hm : M 76 r = m ∧ 0 ≤ m ∧ m ≤ 9) (h : ∀ g x3, (∀ j, 0 ≤ j → j < m → g (9 * r + j) = M 77 (9 * r + j)) → (∀ j, ¬ (9 * r ≤ j ∧ j < 9 * r + 9) → g j = M 78 j) → fr_Run 172 none 71 [some (.inr (.inl 75)), some (.inl r), some (.inl 0), x3] [] sh0 (rw_ M 78 g) 0 0 Q) : ∀ (t : Nat) (i : Int) (g : Int → Int), 0 ≤ i → i + t = m → (∀ j, 0 ≤ j → j < i → g (9 * r + j) = M 77 (9 * r + j)) → (∀ j, ¬ (9 * r ≤ j ∧ j < 9 * r + 9) → g j = M 78 j) → fr_Run 172 none 23 [some (.inr (.inl 75)), some (.inl r), some (.inl 0), some (.inl i)] [] sh0 (rw_ M 78 g) 0 0 Q := by
  intro t
  induction t with
  | zero =>
    intro i g q0 q1 q2 q3
    have e : i = m := by omega
    subst e
    have hh := h g (some (.inl i)) q2 q3
    clear h
    refine fr_go k172 [23, 71] 400 rfl ?_
    repeat' (first | (refine And.intro (by first | omega | (simp (disch := decide) only [up_n, up_s, cp_n, rw_n, rw_s, up1_, if_true, if_false, ite_true, ite_false, reduceIte, eq_self, Int.reduceEq, true_and, and_true, not_true_eq_false, not_false_eq_true]; omega)) ?_) | (refine And.intro (fun hc => ?_) (fun hc => ?_) <;> (try (simp (disch := decide) only [up_n, up_s, cp_n, rw_n, rw_s, up1_, if_true, if_false, ite_true, ite_false, reduceIte, eq_self, Int.reduceEq, true_and, and_true, not_true_eq_false, not_false_eq_true] at hc)) <;> (try (exfalso; omega))) | (refine fun (hc : ¬ _) => ?_; try (simp (disch := decide) only [up_n, up_s, cp_n, rw_n, rw_s, up1_, if_true, if_false, ite_true, ite_false, reduceIte, eq_self, Int.reduceEq, true_and, and_true, not_true_eq_false, not_false_eq_true] at hc)) | (refine fun (hc : _ = _) => ?_; try (simp (disch := decide) only [up_n, up_s, cp_n, rw_n, rw_s, up1_, if_true, if_false, ite_true, ite_false, reduceIte, eq_self, Int.reduceEq, true_and, and_true, not_true_eq_false, not_false_eq_true] at hc)))
    all_goals first | (exfalso; omega) | exact hh
  | succ t ih =>
    intro i g q0 q1 q2 q3
    have hh := ih (i + 1) (up1 g (9 * r + i) (M 77 (9 * r + i))) (by omega) (by omega) (fun j a0 a1 => by
      rw [up1_]
      by_cases e : j = i
      · rw [if_pos (by omega), e]
      · rw [if_neg (by omega)]
        exact q2 j a0 (by omega)) (fun j hj => by
      rw [up1_, if_neg (by omega)]
      exact q3 j hj)
    clear ih h q2 q3
    refine fr_go k172 [23, 71] 400 rfl ?_
    repeat' (first | (refine And.intro (by first | omega | (simp (disch := decide) only [up_n, up_s, cp_n, rw_n, rw_s, up1_, if_true, if_false, ite_true, ite_false, reduceIte, eq_self, Int.reduceEq, true_and, and_true, not_true_eq_false, not_false_eq_true]; omega)) ?_) | (refine And.intro (fun hc => ?_) (fun hc => ?_) <;> (try (simp (disch := decide) only [up_n, up_s, cp_n, rw_n, rw_s, up1_, if_true, if_false, ite_true, ite_false, reduceIte, eq_self, Int.reduceEq, true_and, and_true, not_true_eq_false, not_false_eq_true] at hc)) <;> (try (exfalso; omega))) | (refine fun (hc : ¬ _) => ?_; try (simp (disch := decide) only [up_n, up_s, cp_n, rw_n, rw_s, up1_, if_true, if_false, ite_true, ite_false, reduceIte, eq_self, Int.reduceEq, true_and, and_true, not_true_eq_false, not_false_eq_true] at hc)) | (refine fun (hc : _ = _) => ?_; try (simp (disch := decide) only [up_n, up_s, cp_n, rw_n, rw_s, up1_, if_true, if_false, ite_true, ite_false, reduceIte, eq_self, Int.reduceEq, true_and, and_true, not_true_eq_false, not_false_eq_true] at hc)))
    all_goals first | (exfalso; omega) | skip
    simp (disch := decide) only [up_n, up_s, cp_n, rw_n, rw_s, up1_, if_true, if_false, ite_true, ite_false, reduceIte, eq_self, Int.reduceEq, true_and, and_true, not_true_eq_false, not_false_eq_true]
    simp (disch := decide) only [up_rw, rw_u, up_up, rw_rw, rw_cm]
    exact hh
set_option maxHeartbeats 4000000 in
set_option maxRecDepth 100000 in
theorem op_ord0 {n : Int} {M : fr_M} (hR : Rel n M) (hn : n ≤ 512) {r : Int} (hr : 0 ≤ r ∧ r < M 75 0) (hm : 0 < M 76 r) : Two 119 172 [.inl r, .inl 0] M (Rel (n + 1)) := by
  have hRC := hR.pc.rc hr hm
  have hn9 := hRC.2.2.1
  have hr6 := hRC.1
  refine ord_fr hR hn hr hm (by omega) (fun rk => ∀ i, 0 ≤ i → i < M 76 r → rk i = i) ?_ ?_
  · intro Z Q hZ h
    have hh := c_o0_l (M := Z) (r := r) (m := M 76 r) (Q := Q) ⟨hZ.1, by omega, by omega⟩ (fun g x3 hg => h (rw_ Z 74 g) x3 (fun k i hk => rw_n (by omega)) ⟨hg 0 (by omega) (by omega), fun i i0 i1 => by rw [rw_at, hg i i0 i1]; exact ⟨i0, i1⟩, fun i j i0 i1 j0 j1 e => by rw [rw_at, hg i i0 i1, hg j j0 j1] at e; exact e⟩ (fun i i0 i1 => by rw [rw_at]; exact hg i i0 i1)) (M 76 r).toNat 0 (Z 74) (by omega) (by omega) (fun j a0 a1 => by omega)
    clear h
    refine fr_go k119 [30] 400 rfl ?_
    repeat' (first | (refine And.intro (by first | omega | (simp (disch := decide) only [up_n, up_s, cp_n, rw_n, rw_s, up1_, if_true, if_false, ite_true, ite_false, reduceIte, eq_self, Int.reduceEq, true_and, and_true, not_true_eq_false, not_false_eq_true]; omega)) ?_) | (refine And.intro (fun hc => ?_) (fun hc => ?_) <;> (try (simp (disch := decide) only [up_n, up_s, cp_n, rw_n, rw_s, up1_, if_true, if_false, ite_true, ite_false, reduceIte, eq_self, Int.reduceEq, true_and, and_true, not_true_eq_false, not_false_eq_true] at hc)) <;> (try (exfalso; omega))) | (refine fun (hc : ¬ _) => ?_; try (simp (disch := decide) only [up_n, up_s, cp_n, rw_n, rw_s, up1_, if_true, if_false, ite_true, ite_false, reduceIte, eq_self, Int.reduceEq, true_and, and_true, not_true_eq_false, not_false_eq_true] at hc)) | (refine fun (hc : _ = _) => ?_; try (simp (disch := decide) only [up_n, up_s, cp_n, rw_n, rw_s, up1_, if_true, if_false, ite_true, ite_false, reduceIte, eq_self, Int.reduceEq, true_and, and_true, not_true_eq_false, not_false_eq_true] at hc)))
    all_goals first | (exfalso; omega) | skip
    exact q_run hh rw_id
  · intro W Q rk hW hP hΦ h
    have hh := m_o0_l (M := W) (r := r) (m := M 76 r) (Q := Q) hr6 ⟨hW 76 r (by omega), by omega, by omega⟩ (fun g x3 g1 g2 => h (rw_ W 78 g) x3 (fun k i hk => rw_n (by omega)) (fun i i0 i1 => by rw [rw_at, g1 i i0 i1, hΦ i i0 i1]; exact hW 77 _ (by omega)) (fun j hj => by rw [rw_at, g2 j hj]; exact hW 78 _ (by omega))) (M 76 r).toNat 0 (W 78) (by omega) (by omega) (fun j a0 a1 => by omega) (fun j hj => rfl)
    clear h
    refine fr_go k172 [23] 400 rfl ?_
    repeat' (first | (refine And.intro (by first | omega | (simp (disch := decide) only [up_n, up_s, cp_n, rw_n, rw_s, up1_, if_true, if_false, ite_true, ite_false, reduceIte, eq_self, Int.reduceEq, true_and, and_true, not_true_eq_false, not_false_eq_true]; omega)) ?_) | (refine And.intro (fun hc => ?_) (fun hc => ?_) <;> (try (simp (disch := decide) only [up_n, up_s, cp_n, rw_n, rw_s, up1_, if_true, if_false, ite_true, ite_false, reduceIte, eq_self, Int.reduceEq, true_and, and_true, not_true_eq_false, not_false_eq_true] at hc)) <;> (try (exfalso; omega))) | (refine fun (hc : ¬ _) => ?_; try (simp (disch := decide) only [up_n, up_s, cp_n, rw_n, rw_s, up1_, if_true, if_false, ite_true, ite_false, reduceIte, eq_self, Int.reduceEq, true_and, and_true, not_true_eq_false, not_false_eq_true] at hc)) | (refine fun (hc : _ = _) => ?_; try (simp (disch := decide) only [up_n, up_s, cp_n, rw_n, rw_s, up1_, if_true, if_false, ite_true, ite_false, reduceIte, eq_self, Int.reduceEq, true_and, and_true, not_true_eq_false, not_false_eq_true] at hc)))
    all_goals first | (exfalso; omega) | skip
    exact q_run hh rw_id
theorem walk_eq {f : Int → Int → Int} {g g' : Int → Int} {n : Int} (hn : 0 < n ∧ n ≤ 9) (hf : ∀ i j, 0 ≤ i → i < n → 0 ≤ f i j ∧ f i j ≤ 6000000) (hC : CT_ f n g (-1) 0) (hL : LT_ f n g' (b2 n) 0) {rk : Int → Int} (w : WLK f g n rk (n - 1).toNat) (k : Nat) (hk : (k : Int) + 1 < n) : (0 ≤ 2 * (b2 (n - 1) - 1 - TS rk k) ∧ 2 * (b2 (n - 1) - 1 - TS rk k) < b2 n) ∧ (0 ≤ rk (k : Int) ∧ rk (k : Int) < n) ∧ (1 ≤ rk ((k : Int) + 1) ∧ rk ((k : Int) + 1) < n) ∧ (btt (2 * (b2 (n - 1) - 1 - TS rk k)) (rk ((k : Int) + 1)) = 1 ∧ f (rk (k : Int)) (rk ((k : Int) + 1)) + g' (9 * (2 * (b2 (n - 1) - 1 - TS rk k) - b2 (rk ((k : Int) + 1))) + rk ((k : Int) + 1)) = g' (9 * (2 * (b2 (n - 1) - 1 - TS rk k)) + rk (k : Int))) ∧ (∀ y, 0 ≤ y → y < rk ((k : Int) + 1) → btt (2 * (b2 (n - 1) - 1 - TS rk k)) y = 1 → f (rk (k : Int)) y + g' (9 * (2 * (b2 (n - 1) - 1 - TS rk k) - b2 y) + y) ≠ g' (9 * (2 * (b2 (n - 1) - 1 - TS rk k)) + rk (k : Int))) ∧ 2 * (b2 (n - 1) - 1 - TS rk (k + 1)) = 2 * (b2 (n - 1) - 1 - TS rk k) - b2 (rk ((k : Int) + 1)) := by
  obtain ⟨i1, i2, i3, i4, -⟩ := WLK.inv hn w k (by omega)
  obtain ⟨f1, f2, f3, f4⟩ := w.2 k (by omega)
  have hs2 := b2_s hn
  have h8 := b2_8 hn
  have e0 := tab_eq hn hf hC hL (b2 (n - 1) - 1 - TS rk k).toNat (TS rk k) (rk (k : Int)) (by omega) i1.1 i4 i2
  have key : ∀ y, 1 ≤ y → y < n → btt (TS rk k) (y - 1) = 0 → g ((TS rk k + b2 (y - 1)) * 9 + y) = g' (9 * (2 * (b2 (n - 1) - 1 - TS rk k) - b2 y) + y) := by
    intro y y0 y1 hb
    have hc := bit_co (n := n) (t := TS rk k) (k := y - 1) (by omega) i1 (by omega)
    have hbk := (bit_shl (k := y - 1) (by omega)).2
    have hlt := hc.2.2.2 hb
    have hbit := ((bit_and (s := TS rk k) (k := y - 1) (by omega) (by omega)).2 hb).2
    have e := tab_eq hn hf hC hL (b2 (n - 1) - 1 - (TS rk k + b2 (y - 1))).toNat (TS rk k + b2 (y - 1)) y (by omega) (by omega) (by omega) (Or.inr ⟨by omega, hbit⟩)
    have e2 := hc.2.2.1
    rw [show y - 1 + 1 = y by omega] at e2
    rw [e, show 2 * (b2 (n - 1) - 1 - (TS rk k + b2 (y - 1))) = 2 * (b2 (n - 1) - 1 - TS rk k) - b2 y by omega]
  have bits : ∀ y, 1 ≤ y → y < n → btt (2 * (b2 (n - 1) - 1 - TS rk k)) y = 1 - btt (TS rk k) (y - 1) := by
    intro y y0 y1
    have hc := (bit_co (n := n) (t := TS rk k) (k := y - 1) (by omega) i1 (by omega)).1
    rw [show y - 1 + 1 = y by omega] at hc
    exact hc
  refine ⟨by omega, i4, f1, ⟨?_, ?_⟩, fun y y0 y1 hb => ?_, ?_⟩
  · rw [bits _ f1.1 f1.2, f2]
    omega
  · rw [← key _ f1.1 f1.2 f2, ← e0]
    exact f3
  · by_cases ey : y = 0
    · exfalso
      subst ey
      have := (bit_co (n := n) (t := TS rk k) (k := 0) (by omega) i1 (by omega)).2.1
      omega
    · have hb' := bits y (by omega) (by omega)
      have hb0 : btt (TS rk k) (y - 1) = 0 := by omega
      rw [← key y (by omega) (by omega) hb0, ← e0]
      exact f4 y (by omega) y1 hb0
  · rw [TS]
    have hc := (bit_co (n := n) (t := TS rk k) (k := rk ((k : Int) + 1) - 1) (by omega) i1 (by omega)).2.2.1
    rw [show rk ((k : Int) + 1) - 1 + 1 = rk ((k : Int) + 1) by omega] at hc
    omega
