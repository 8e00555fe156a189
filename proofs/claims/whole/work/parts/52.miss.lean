def lrun (k : Nat) (pg : Int → Int) : Nat → List Int × Int
  | 0 => ([], 0)
  | m + 1 => (lstep k (lrun k pg m).1 (pg (m : Int)), if pg (m : Int) ∈ (lrun k pg m).1 then (lrun k pg m).2 else (lrun k pg m).2 + 1)
theorem lstep_len {k : Nat} {L : List Int} {p : Int} (h : L.length ≤ k) : (lstep k L p).length ≤ k := by
  unfold lstep
  split
  · next hp =>
    have := List.length_erase_of_mem hp
    have h2 : 0 < L.length := List.length_pos_of_mem hp
    rw [List.length_cons]
    omega
  · rw [List.length_take]
    omega
theorem lrun_len {k : Nat} {pg : Int → Int} : ∀ m, (lrun k pg m).1.length ≤ k
  | 0 => Nat.zero_le _
  | m + 1 => lstep_len (lrun_len m)
theorem lrun_cnt {k : Nat} {pg : Int → Int} : ∀ m : Nat, 0 ≤ (lrun k pg m).2 ∧ (lrun k pg m).2 ≤ (m : Int)
  | 0 => ⟨Int.le_refl 0, Int.le_refl 0⟩
  | m + 1 => by
    have h := lrun_cnt (k := k) (pg := pg) m
    simp only [lrun]
    split <;> omega
/-- of the row that holds a list: where a page stands -/
theorem hd_find {f : Int → Int} {L : List Int} {p : Int} {i : Int} (h : hd_ f L) (h0 : 0 ≤ i) (h1 : i < L.length) (h2 : f i = p) (h3 : ∀ j, 0 ≤ j → j < i → f j ≠ p) : ∃ n : Nat, i = (n : Int) ∧ n < L.length ∧ p ∈ L ∧ L.erase p = L.eraseIdx n := by
  obtain ⟨n, rfl⟩ : ∃ n : Nat, i = (n : Int) := ⟨i.toNat, by omega⟩
  have hn : n < L.length := by omega
  have e : L[n]? = some L[n] := List.getElem?_eq_getElem hn
  have e2 : L[n] = p := by rw [← h2]; exact (h n _ e).symm
  refine ⟨n, rfl, hn, by rw [← e2]; exact List.getElem_mem hn, erase_at (by rw [e, e2]) (fun j hj hq => ?_)⟩
  exact h3 (j : Int) (by omega) (by omega) (h j p hq)
theorem hd_none {f : Int → Int} {L : List Int} {p : Int} (h : hd_ f L) (h3 : ∀ j, 0 ≤ j → j < (L.length : Int) → f j ≠ p) : p ∉ L := by
  intro hp
  obtain ⟨n, hn⟩ := List.getElem?_of_mem hp
  exact h3 (n : Int) (by omega) (by have := (List.getElem?_eq_some_iff.mp hn).1; omega) (h n p hn)
theorem rw_rw {M : fr_M} {k : Nat} {g g' : Int → Int} : rw_ (rw_ M k g) k g' = rw_ M k g' := by
  funext k' j
  unfold rw_
  split <;> rfl
theorem rw_at {M : fr_M} {k : Nat} {g : Int → Int} : rw_ M k g k = g := by
  funext j
  unfold rw_
  rw [if_pos rfl]
set_option maxHeartbeats 4000000 in
set_option maxRecDepth 100000 in
theorem c_missed_l {M : fr_M} {k : Nat} {Q : Option fr_V → fr_H → fr_M → Prop} (hk : k ≤ 8) (hn : 0 ≤ M 52 2 ∧ M 52 2 ≤ 200) (h : ∀ g, Q (some (.inl (lrun k (M 54) (M 52 2).toNat).2)) sh0 (rw_ M 58 g)) : ∀ (t m : Nat) (g : Int → Int) (x5 : Option fr_V), (m : Int) + t = M 52 2 → hd_ g (lrun k (M 54) m).1 → fr_Run 104 none 6 [some (.inr (.inl 52)), some (.inl (k : Int)), some (.inl ((lrun k (M 54) m).1.length : Int)), some (.inl (lrun k (M 54) m).2), some (.inl (m : Int)), x5] [] sh0 (rw_ M 58 g) 0 0 Q := by
  intro t
  induction t with
  | zero =>
    intro m g x5 h0 h1
    have e : (M 52 2).toNat = m := by omega
    rw [e] at h
    have e2 : rw_ M 58 g 52 2 = M 52 2 := rfl
    refine fr_go k104 [6] 400 rfl ?_
    repeat' (first | (refine And.intro (by first | omega | (simp (disch := decide) only [up_n, up_s, cp_n, if_true, if_false, ite_true, ite_false, reduceIte, not_true_eq_false, not_false_eq_true]; omega)) ?_) | (refine And.intro (fun hc => ?_) (fun hc => ?_) <;> (try (simp (disch := decide) only [up_n, up_s, cp_n, if_true, if_false, ite_true, ite_false, reduceIte, not_true_eq_false, not_false_eq_true] at hc)) <;> (try (exfalso; omega))) | (refine fun (hc : ¬ _) => ?_; try (simp (disch := decide) only [up_n, up_s, cp_n, if_true, if_false, ite_true, ite_false, reduceIte, not_true_eq_false, not_false_eq_true] at hc)) | (refine fun (hc : _ = _) => ?_; try (simp (disch := decide) only [up_n, up_s, cp_n, if_true, if_false, ite_true, ite_false, reduceIte, not_true_eq_false, not_false_eq_true] at hc)))
    all_goals first | exact h g | (exfalso; omega)
  | succ t ih =>
    intro m g x5 h0 h1
    have hc1 := lrun_cnt (k := k) (pg := M 54) m
    have hl1 := lrun_len (k := k) (pg := M 54) m
    have e2 : rw_ M 58 g 52 2 = M 52 2 := rfl
    refine fr_go k104 [6] 400 rfl ?_
    repeat' (first | (refine And.intro (by first | omega | (simp (disch := decide) only [up_n, up_s, cp_n, if_true, if_false, ite_true, ite_false, reduceIte, not_true_eq_false, not_false_eq_true]; omega)) ?_) | (refine And.intro (fun hc => ?_) (fun hc => ?_) <;> (try (simp (disch := decide) only [up_n, up_s, cp_n, if_true, if_false, ite_true, ite_false, reduceIte, not_true_eq_false, not_false_eq_true] at hc)) <;> (try (exfalso; omega))) | (refine fun (hc : ¬ _) => ?_; try (simp (disch := decide) only [up_n, up_s, cp_n, if_true, if_false, ite_true, ite_false, reduceIte, not_true_eq_false, not_false_eq_true] at hc)) | (refine fun (hc : _ = _) => ?_; try (simp (disch := decide) only [up_n, up_s, cp_n, if_true, if_false, ite_true, ite_false, reduceIte, not_true_eq_false, not_false_eq_true] at hc)))
    all_goals first | (exfalso; omega) | skip
    refine c_heldPlace (p := M 54 (m : Int)) (by omega) (fun i q0 q1 q2 q3 => ?_) (fun q => ?_)
    · have q2 : g i = M 54 (m : Int) := q2
      have q3 : ∀ j, 0 ≤ j → j < i → g j ≠ M 54 (m : Int) := q3
      obtain ⟨a, ea, ha, hmem, her⟩ := hd_find h1 q0 q1 q2 q3
      repeat' (first | (refine And.intro (by first | omega | (simp (disch := decide) only [up_n, up_s, cp_n, if_true, if_false, ite_true, ite_false, reduceIte, not_true_eq_false, not_false_eq_true]; omega)) ?_) | (refine And.intro (fun hc => ?_) (fun hc => ?_) <;> (try (simp (disch := decide) only [up_n, up_s, cp_n, if_true, if_false, ite_true, ite_false, reduceIte, not_true_eq_false, not_false_eq_true] at hc)) <;> (try (exfalso; omega))) | (refine fun (hc : ¬ _) => ?_; try (simp (disch := decide) only [up_n, up_s, cp_n, if_true, if_false, ite_true, ite_false, reduceIte, not_true_eq_false, not_false_eq_true] at hc)) | (refine fun (hc : _ = _) => ?_; try (simp (disch := decide) only [up_n, up_s, cp_n, if_true, if_false, ite_true, ite_false, reduceIte, not_true_eq_false, not_false_eq_true] at hc)))
      all_goals first | (exfalso; omega) | skip
      refine c_holdFirst (by omega) ?_
      rw [rw_rw, rw_at]
      repeat' (first | (refine And.intro (by first | omega | (simp (disch := decide) only [up_n, up_s, cp_n, if_true, if_false, ite_true, ite_false, reduceIte, not_true_eq_false, not_false_eq_true]; omega)) ?_) | (refine And.intro (fun hc => ?_) (fun hc => ?_) <;> (try (simp (disch := decide) only [up_n, up_s, cp_n, if_true, if_false, ite_true, ite_false, reduceIte, not_true_eq_false, not_false_eq_true] at hc)) <;> (try (exfalso; omega))) | (refine fun (hc : ¬ _) => ?_; try (simp (disch := decide) only [up_n, up_s, cp_n, if_true, if_false, ite_true, ite_false, reduceIte, not_true_eq_false, not_false_eq_true] at hc)) | (refine fun (hc : _ = _) => ?_; try (simp (disch := decide) only [up_n, up_s, cp_n, if_true, if_false, ite_true, ite_false, reduceIte, not_true_eq_false, not_false_eq_true] at hc)))
      all_goals first | (exfalso; omega) | skip
      have el : (lrun k (M 54) (m + 1)).1 = M 54 (m : Int) :: (lrun k (M 54) m).1.eraseIdx a := by
        show lstep k _ _ = _
        unfold lstep
        rw [if_pos hmem, her]
      have ec : (lrun k (M 54) (m + 1)).2 = (lrun k (M 54) m).2 := by
        show (if _ ∈ _ then _ else _) = _
        rw [if_pos hmem]
      have hh := ih (m + 1) (hf g i (M 54 (m : Int))) (some (.inl i)) (by omega) (by rw [el, ea]; exact hd_hit h1 ha)
      have en : (((lrun k (M 54) (m + 1)).1.length : Nat) : Int) = ((lrun k (M 54) m).1.length : Int) := by
        rw [el, List.length_cons, List.length_eraseIdx, if_pos ha]
        omega
      rw [en, ec] at hh
      exact hh
    · have q : ∀ j, 0 ≤ j → j < ((lrun k (M 54) m).1.length : Int) → g j ≠ M 54 (m : Int) := q
      have hmem := hd_none h1 q
      repeat' (first | (refine And.intro (by first | omega | (simp (disch := decide) only [up_n, up_s, cp_n, if_true, if_false, ite_true, ite_false, reduceIte, not_true_eq_false, not_false_eq_true]; omega)) ?_) | (refine And.intro (fun hc => ?_) (fun hc => ?_) <;> (try (simp (disch := decide) only [up_n, up_s, cp_n, if_true, if_false, ite_true, ite_false, reduceIte, not_true_eq_false, not_false_eq_true] at hc)) <;> (try (exfalso; omega))) | (refine fun (hc : ¬ _) => ?_; try (simp (disch := decide) only [up_n, up_s, cp_n, if_true, if_false, ite_true, ite_false, reduceIte, not_true_eq_false, not_false_eq_true] at hc)) | (refine fun (hc : _ = _) => ?_; try (simp (disch := decide) only [up_n, up_s, cp_n, if_true, if_false, ite_true, ite_false, reduceIte, not_true_eq_false, not_false_eq_true] at hc)))
      all_goals first | (exfalso; omega) | skip
      refine c_holdFirst (by omega) ?_
      rw [rw_rw, rw_at]
      repeat' (first | (refine And.intro (by first | omega | (simp (disch := decide) only [up_n, up_s, cp_n, if_true, if_false, ite_true, ite_false, reduceIte, not_true_eq_false, not_false_eq_true]; omega)) ?_) | (refine And.intro (fun hc => ?_) (fun hc => ?_) <;> (try (simp (disch := decide) only [up_n, up_s, cp_n, if_true, if_false, ite_true, ite_false, reduceIte, not_true_eq_false, not_false_eq_true] at hc)) <;> (try (exfalso; omega))) | (refine fun (hc : ¬ _) => ?_; try (simp (disch := decide) only [up_n, up_s, cp_n, if_true, if_false, ite_true, ite_false, reduceIte, not_true_eq_false, not_false_eq_true] at hc)) | (refine fun (hc : _ = _) => ?_; try (simp (disch := decide) only [up_n, up_s, cp_n, if_true, if_false, ite_true, ite_false, reduceIte, not_true_eq_false, not_false_eq_true] at hc)))
      all_goals first | (exfalso; omega) | skip
      have el : (lrun k (M 54) (m + 1)).1 = (M 54 (m : Int) :: (lrun k (M 54) m).1).take k := by
        show lstep k _ _ = _
        unfold lstep
        rw [if_neg hmem]
      have ec : (lrun k (M 54) (m + 1)).2 = (lrun k (M 54) m).2 + 1 := by
        show (if _ ∈ _ then _ else _) = _
        rw [if_neg hmem]
      have hh := ih (m + 1) (hf g (min (((lrun k (M 54) m).1.length : Int) + 1) (k : Int) - 1) (M 54 (m : Int))) (some (.inl (min (((lrun k (M 54) m).1.length : Int) + 1) (k : Int) - 1))) (by omega) (by rw [el]; exact hd_miss h1)
      have en : (((lrun k (M 54) (m + 1)).1.length : Nat) : Int) = min (((lrun k (M 54) m).1.length : Int) + 1) (k : Int) := by
        rw [el, List.length_take, List.length_cons]
        omega
      rw [en, ec] at hh
      exact hh
set_option maxHeartbeats 4000000 in
set_option maxRecDepth 100000 in
theorem c_missedWith {M : fr_M} {k : Int} {Q : Option fr_V → fr_H → fr_M → Prop} (hk : 0 ≤ k ∧ k ≤ 8) (hn : 0 ≤ M 52 2 ∧ M 52 2 ≤ 200) (h : ∀ g, Q (some (.inl (lrun k.toNat (M 54) (M 52 2).toNat).2)) sh0 (rw_ M 58 g)) : fr_Call 104 [.inr (.inl 52), .inl k] sh0 M Q := by
  obtain ⟨a, rfl⟩ : ∃ a : Nat, k = (a : Int) := ⟨k.toNat, by omega⟩
  rw [Int.toNat_natCast] at h
  have hh := c_missed_l (M := M) (k := a) (Q := Q) (by omega) hn h (M 52 2).toNat 0 (M 58) none (by omega) (fun j x hx => by cases j <;> cases hx)
  rw [rw_id] at hh
  refine fr_cgo k104 [some (.inr (.inl 52)), some (.inl (a : Int)), none, none, none, none] 0 0 [6] 400 rfl rfl rfl rfl ?_
  repeat' (first | (refine And.intro (by first | omega | (simp (disch := decide) only [up_n, up_s, cp_n, if_true, if_false, ite_true, ite_false, reduceIte, not_true_eq_false, not_false_eq_true]; omega)) ?_) | (refine And.intro (fun hc => ?_) (fun hc => ?_) <;> (try (simp (disch := decide) only [up_n, up_s, cp_n, if_true, if_false, ite_true, ite_false, reduceIte, not_true_eq_false, not_false_eq_true] at hc)) <;> (try (exfalso; omega))) | (refine fun (hc : ¬ _) => ?_; try (simp (disch := decide) only [up_n, up_s, cp_n, if_true, if_false, ite_true, ite_false, reduceIte, not_true_eq_false, not_false_eq_true] at hc)) | (refine fun (hc : _ = _) => ?_; try (simp (disch := decide) only [up_n, up_s, cp_n, if_true, if_false, ite_true, ite_false, reduceIte, not_true_eq_false, not_false_eq_true] at hc)))
  exact hh
