theorem gsf_step {M : fr_M} {r : Nat} {f : Int → Int} {p i : Int} (h : 0 < i ∧ i ≤ p) : fr_up (rw_ M r (sf f p i)) r i (rw_ M r (sf f p i) r (i - 1)) = rw_ M r (sf f p (i - 1)) := by
  rw [rw_up]
  congr 1
  funext j
  have e : rw_ M r (sf f p i) r (i - 1) = f (i - 1) := by
    rw [rw_at]
    unfold sf
    rw [if_neg (by omega)]
  rw [e]
  unfold sf
  by_cases hj : j = i
  · rw [if_pos hj, if_pos (by omega), hj]
  · rw [if_neg hj]
    by_cases h2 : i < j ∧ j ≤ p
    · rw [if_pos h2, if_pos (by omega)]
    · rw [if_neg h2, if_neg (by omega)]
theorem gsf_end {M : fr_M} {r : Nat} {f : Int → Int} {p v : Int} (h : 0 ≤ p) : fr_up (rw_ M r (sf f p 0)) r 0 v = rw_ M r (hf f p v) := by
  rw [rw_up]
  congr 1
  funext j
  unfold sf hf
  by_cases hj : j = 0
  · rw [if_pos hj, if_neg (by omega), if_pos (by omega)]
  · rw [if_neg hj]
    by_cases h2 : 0 < j ∧ j ≤ p
    · rw [if_pos h2, if_pos h2]
    · rw [if_neg h2, if_neg h2, if_neg (by omega)]
theorem sf_0 {f : Int → Int} {p : Int} : sf f p p = f := by
  funext j
  unfold sf
  rw [if_neg (by omega)]
set_option maxHeartbeats 4000000 in
set_option maxRecDepth 100000 in
theorem m_misses_2 {M : fr_M} {f : Int → Int} {p k at_ z : Int} {Q : Option fr_V → fr_H → fr_M → Prop} (hz : z = 0 ∨ z = 1) (hk : 0 < k ∧ k ≤ 8) (hp : 0 ≤ at_ ∧ at_ < 8) (h : Q (some (.inl z)) sh0 (rw_ M 114 (hf f at_ p))) : ∀ (t : Nat) (i : Int), i = t → i ≤ at_ → fr_Run 193 none 44 [some (.inr (.inl 75)), some (.inl p), some (.inl k), some (.inl at_), some (.inl z), some (.inl i)] [] sh0 (rw_ M 114 (sf f at_ i)) 0 0 Q := by
  intro t
  induction t with
  | zero =>
    intro i q0 q1
    have e : i = 0 := by omega
    subst e
    rw [← gsf_end hp.1] at h
    refine fr_go k193 [44] 400 rfl ?_
    repeat' (first | (refine And.intro (by first | omega | (simp (disch := decide) only [up_n, up_s, cp_n, rw_n, rw_s, up1_, if_true, if_false, ite_true, ite_false, reduceIte, not_true_eq_false, not_false_eq_true]; omega)) ?_) | (refine And.intro (fun hc => ?_) (fun hc => ?_) <;> (try (simp (disch := decide) only [up_n, up_s, cp_n, rw_n, rw_s, up1_, if_true, if_false, ite_true, ite_false, reduceIte, not_true_eq_false, not_false_eq_true] at hc)) <;> (try (exfalso; omega))) | (refine fun (hc : ¬ _) => ?_; try (simp (disch := decide) only [up_n, up_s, cp_n, rw_n, rw_s, up1_, if_true, if_false, ite_true, ite_false, reduceIte, not_true_eq_false, not_false_eq_true] at hc)) | (refine fun (hc : _ = _) => ?_; try (simp (disch := decide) only [up_n, up_s, cp_n, rw_n, rw_s, up1_, if_true, if_false, ite_true, ite_false, reduceIte, not_true_eq_false, not_false_eq_true] at hc)))
    all_goals first | (exfalso; omega) | exact h
  | succ t ih =>
    intro i q0 q1
    have hs := gsf_step (M := M) (r := 114) (f := f) (p := at_) (i := i) (by omega)
    refine fr_go k193 [44] 400 rfl ?_
    repeat' (first | (refine And.intro (by first | omega | (simp (disch := decide) only [up_n, up_s, cp_n, rw_n, rw_s, up1_, if_true, if_false, ite_true, ite_false, reduceIte, not_true_eq_false, not_false_eq_true]; omega)) ?_) | (refine And.intro (fun hc => ?_) (fun hc => ?_) <;> (try (simp (disch := decide) only [up_n, up_s, cp_n, rw_n, rw_s, up1_, if_true, if_false, ite_true, ite_false, reduceIte, not_true_eq_false, not_false_eq_true] at hc)) <;> (try (exfalso; omega))) | (refine fun (hc : ¬ _) => ?_; try (simp (disch := decide) only [up_n, up_s, cp_n, rw_n, rw_s, up1_, if_true, if_false, ite_true, ite_false, reduceIte, not_true_eq_false, not_false_eq_true] at hc)) | (refine fun (hc : _ = _) => ?_; try (simp (disch := decide) only [up_n, up_s, cp_n, rw_n, rw_s, up1_, if_true, if_false, ite_true, ite_false, reduceIte, not_true_eq_false, not_false_eq_true] at hc)))
    all_goals first | (exfalso; omega) | skip
    rw [hs]
    have e : i + -1 = i - 1 := by omega
    rw [e]
    exact ih (i - 1) (by omega) (by omega)
set_option maxHeartbeats 4000000 in
set_option maxRecDepth 100000 in
theorem m_misses_1 {M : fr_M} {p k : Int} {L : List Int} {Q : Option fr_V → fr_H → fr_M → Prop} (hk : 0 ≤ k ∧ k ≤ 8) (hl : M 75 52 = (L.length : Int)) (hL : (L.length : Int) ≤ k) (hd : hd_ (M 114) L) (h : ∀ g, hd_ g (lstep k.toNat L p) → Q (some (.inl (if p ∈ L then 0 else 1))) sh0 (rw_ (fr_up M 75 52 ((lstep k.toNat L p).length : Int)) 114 g)) : ∀ (t : Nat) (i : Int), 0 ≤ i → i + t = L.length → (∀ j, 0 ≤ j → j < i → M 114 j ≠ p) → fr_Run 193 none 2 [some (.inr (.inl 75)), some (.inl p), some (.inl k), some (.inl i), none, none] [] sh0 M 0 0 Q := by
  intro t
  induction t with
  | zero =>
    intro i q0 q1 q2
    have hm : p ∉ L := hd_none hd (fun j r0 r1 => q2 j r0 (by omega))
    have e0 : lstep k.toNat L p = (p :: L).take k.toNat := by
      unfold lstep
      rw [if_neg hm]
    have el : ((lstep k.toNat L p).length : Int) = min ((L.length : Int) + 1) k := by
      rw [e0, List.length_take, List.length_cons]
      omega
    have hmm := hd_miss (k := k.toNat) (p := p) hd
    rw [← e0, show ((k.toNat : Nat) : Int) = k by omega, ← el] at hmm
    have hh := h _ hmm
    rw [if_neg hm] at hh
    refine fr_go k193 [2, 44] 400 rfl ?_
    repeat' (first | (refine And.intro (by first | omega | (simp (disch := decide) only [up_n, up_s, cp_n, rw_n, rw_s, up1_, if_true, if_false, ite_true, ite_false, reduceIte, not_true_eq_false, not_false_eq_true]; omega)) ?_) | (refine And.intro (fun hc => ?_) (fun hc => ?_) <;> (try (simp (disch := decide) only [up_n, up_s, cp_n, rw_n, rw_s, up1_, if_true, if_false, ite_true, ite_false, reduceIte, not_true_eq_false, not_false_eq_true] at hc)) <;> (try (exfalso; omega))) | (refine fun (hc : ¬ _) => ?_; try (simp (disch := decide) only [up_n, up_s, cp_n, rw_n, rw_s, up1_, if_true, if_false, ite_true, ite_false, reduceIte, not_true_eq_false, not_false_eq_true] at hc)) | (refine fun (hc : _ = _) => ?_; try (simp (disch := decide) only [up_n, up_s, cp_n, rw_n, rw_s, up1_, if_true, if_false, ite_true, ite_false, reduceIte, not_true_eq_false, not_false_eq_true] at hc)))
    all_goals first | (exfalso; omega) | skip
    · by_cases hk0 : 0 < k
      · have e1 : ((lstep k.toNat L p).length : Int) = M 75 52 := by omega
        rw [e1] at hh
        have := m_misses_2 (M := fr_up M 75 52 (M 75 52)) (f := M 114) (Or.inr rfl) ⟨hk0, hk.2⟩ (by omega) hh (M 75 52 - 1).toNat (M 75 52 - 1) (by omega) (by omega)
        simp (disch := decide) only [up_n, up_s, cp_n, rw_n, rw_s, up1_, if_true, if_false, ite_true, ite_false, reduceIte, not_true_eq_false, not_false_eq_true]
        refine q_run this ?_
        rw [sf_0]
        exact rw_id
      · have e1 : ((lstep k.toNat L p).length : Int) = 0 := by omega
        have e2 : M 75 52 = 0 := by omega
        refine fr_go k193 [] 400 rfl ?_
        rw [e1] at hh
        have e3 : rw_ (fr_up M 75 52 0) 114 (hf (M 114) (0 - 1) p) = fr_up M 75 52 (M 75 52) := by
          have e4 : hf (M 114) (0 - 1) p = M 114 := by
            funext j
            unfold hf
            rw [if_neg (by omega), if_neg (by omega)]
          rw [e4, e2]
          exact rw_id (M := fr_up M 75 52 0) (k := 114)
        rw [e3] at hh
        simp (disch := decide) only [up_n, up_s, cp_n, rw_n, rw_s, up1_, if_true, if_false, ite_true, ite_false, reduceIte, not_true_eq_false, not_false_eq_true]
        repeat' (first | (refine And.intro (by first | omega | (simp (disch := decide) only [up_n, up_s, cp_n, rw_n, rw_s, up1_, if_true, if_false, ite_true, ite_false, reduceIte, not_true_eq_false, not_false_eq_true]; omega)) ?_) | (refine And.intro (fun hc => ?_) (fun hc => ?_) <;> (try (simp (disch := decide) only [up_n, up_s, cp_n, rw_n, rw_s, up1_, if_true, if_false, ite_true, ite_false, reduceIte, not_true_eq_false, not_false_eq_true] at hc)) <;> (try (exfalso; omega))) | (refine fun (hc : ¬ _) => ?_; try (simp (disch := decide) only [up_n, up_s, cp_n, rw_n, rw_s, up1_, if_true, if_false, ite_true, ite_false, reduceIte, not_true_eq_false, not_false_eq_true] at hc)) | (refine fun (hc : _ = _) => ?_; try (simp (disch := decide) only [up_n, up_s, cp_n, rw_n, rw_s, up1_, if_true, if_false, ite_true, ite_false, reduceIte, not_true_eq_false, not_false_eq_true] at hc)))
        all_goals first | (exfalso; omega) | exact hh
    · have e1 : ((lstep k.toNat L p).length : Int) = M 75 52 + 1 := by omega
      rw [e1] at hh
      have := m_misses_2 (M := fr_up M 75 52 (M 75 52 + 1)) (f := M 114) (k := k) (at_ := M 75 52 + 1 - 1) (Or.inr rfl) (by omega) (by omega) hh (M 75 52).toNat (M 75 52 + 1 - 1) (by omega) (by omega)
      simp (disch := decide) only [up_n, up_s, cp_n, rw_n, rw_s, up1_, if_true, if_false, ite_true, ite_false, reduceIte, not_true_eq_false, not_false_eq_true]
      refine q_run this ?_
      rw [sf_0]
      exact rw_id
  | succ t ih =>
    intro i q0 q1 q2
    refine fr_go k193 [2, 44] 400 rfl ?_
    repeat' (first | (refine And.intro (by first | omega | (simp (disch := decide) only [up_n, up_s, cp_n, rw_n, rw_s, up1_, if_true, if_false, ite_true, ite_false, reduceIte, not_true_eq_false, not_false_eq_true]; omega)) ?_) | (refine And.intro (fun hc => ?_) (fun hc => ?_) <;> (try (simp (disch := decide) only [up_n, up_s, cp_n, rw_n, rw_s, up1_, if_true, if_false, ite_true, ite_false, reduceIte, not_true_eq_false, not_false_eq_true] at hc)) <;> (try (exfalso; omega))) | (refine fun (hc : ¬ _) => ?_; try (simp (disch := decide) only [up_n, up_s, cp_n, rw_n, rw_s, up1_, if_true, if_false, ite_true, ite_false, reduceIte, not_true_eq_false, not_false_eq_true] at hc)) | (refine fun (hc : _ = _) => ?_; try (simp (disch := decide) only [up_n, up_s, cp_n, rw_n, rw_s, up1_, if_true, if_false, ite_true, ite_false, reduceIte, not_true_eq_false, not_false_eq_true] at hc)))
    all_goals first | (exfalso; omega) | skip
    · have hc : M 114 i = p := by assumption
      obtain ⟨a, ea, ha, hmem, her⟩ := hd_find hd q0 (by omega) hc q2
      have e0 : lstep k.toNat L p = p :: L.eraseIdx a := by
        unfold lstep
        rw [if_pos hmem, her]
      have el : ((lstep k.toNat L p).length : Int) = M 75 52 := by
        rw [e0, List.length_cons, List.length_eraseIdx, if_pos ha]
        omega
      have hh := h (hf (M 114) i p) (by rw [e0, ea]; exact hd_hit hd ha)
      rw [if_pos hmem, el, up_id rfl] at hh
      refine q_run (m_misses_2 (M := M) (f := M 114) (Or.inl rfl) (by omega) (by omega) hh i.toNat i (by omega) (by omega)) ?_
      rw [sf_0]
      exact rw_id
    · refine ih (i + 1) (by omega) (by omega) (fun j r0 r1 => ?_)
      by_cases e : j = i
      · subst e; assumption
      · exact q2 j r0 (by omega)
set_option maxHeartbeats 4000000 in
set_option maxRecDepth 100000 in
theorem m_misses {M : fr_M} {p k : Int} {L : List Int} {Q : Option fr_V → fr_H → fr_M → Prop} (hk : 0 ≤ k ∧ k ≤ 8) (hl : M 75 52 = (L.length : Int)) (hL : (L.length : Int) ≤ k) (hd : hd_ (M 114) L) (h : ∀ g, hd_ g (lstep k.toNat L p) → Q (some (.inl (if p ∈ L then 0 else 1))) sh0 (rw_ (fr_up M 75 52 ((lstep k.toNat L p).length : Int)) 114 g)) : fr_Call 193 [.inr (.inl 75), .inl p, .inl k] sh0 M Q := by
  refine fr_cgo k193 [some (.inr (.inl 75)), some (.inl p), some (.inl k), none, none, none] 0 0 [2] 400 rfl rfl rfl rfl ?_
  repeat' (first | (refine And.intro (by first | omega | (simp (disch := decide) only [up_n, up_s, cp_n, rw_n, rw_s, up1_, if_true, if_false, ite_true, ite_false, reduceIte, not_true_eq_false, not_false_eq_true]; omega)) ?_) | (refine And.intro (fun hc => ?_) (fun hc => ?_) <;> (try (simp (disch := decide) only [up_n, up_s, cp_n, rw_n, rw_s, up1_, if_true, if_false, ite_true, ite_false, reduceIte, not_true_eq_false, not_false_eq_true] at hc)) <;> (try (exfalso; omega))) | (refine fun (hc : ¬ _) => ?_; try (simp (disch := decide) only [up_n, up_s, cp_n, rw_n, rw_s, up1_, if_true, if_false, ite_true, ite_false, reduceIte, not_true_eq_false, not_false_eq_true] at hc)) | (refine fun (hc : _ = _) => ?_; try (simp (disch := decide) only [up_n, up_s, cp_n, rw_n, rw_s, up1_, if_true, if_false, ite_true, ite_false, reduceIte, not_true_eq_false, not_false_eq_true] at hc)))
  exact m_misses_1 hk hl hL hd h L.length 0 (by omega) (by omega) (fun j r0 r1 => absurd r1 (by omega))
theorem lrun_cg {k : Nat} {f g : Int → Int} : ∀ m : Nat, (∀ i, 0 ≤ i → i < (m : Int) → f i = g i) → lrun k f m = lrun k g m
  | 0, _ => rfl
  | m + 1, h => by
    have e := lrun_cg (k := k) (f := f) (g := g) m (fun i q0 q1 => h i q0 (by omega))
    simp only [lrun]
    rw [e, h (m : Int) (by omega) (by omega)]
set_option maxHeartbeats 4000000 in
set_option maxRecDepth 100000 in
theorem m_pages_l {M : fr_M} {k : Nat} {Q : Option fr_V → fr_H → fr_M → Prop} (hk : k ≤ 8) (hn : 0 ≤ M 107 10 ∧ M 107 10 ≤ 200) (h : ∀ g v, Q (some (.inl (lrun k (M 110) (M 107 10).toNat).2)) sh0 (rw_ (fr_up M 75 52 v) 114 g)) : ∀ (t m : Nat) (g : Int → Int), (m : Int) + t = M 107 10 → hd_ g (lrun k (M 110) m).1 → fr_Run 203 none 21 [some (.inr (.inl 75)), some (.inl (k : Int)), some (.inl (lrun k (M 110) m).2), some (.inl (m : Int))] [] sh0 (rw_ (fr_up M 75 52 ((lrun k (M 110) m).1.length : Int)) 114 g) 0 0 Q := by
  intro t
  induction t with
  | zero =>
    intro m g h0 h1
    have e : (M 107 10).toNat = m := by omega
    rw [e] at h
    refine fr_go k203 [21] 400 rfl ?_
    repeat' (first | (refine And.intro (by first | omega | (simp (disch := decide) only [up_n, up_s, cp_n, rw_n, rw_s, up1_, if_true, if_false, ite_true, ite_false, reduceIte, not_true_eq_false, not_false_eq_true]; omega)) ?_) | (refine And.intro (fun hc => ?_) (fun hc => ?_) <;> (try (simp (disch := decide) only [up_n, up_s, cp_n, rw_n, rw_s, up1_, if_true, if_false, ite_true, ite_false, reduceIte, not_true_eq_false, not_false_eq_true] at hc)) <;> (try (exfalso; omega))) | (refine fun (hc : ¬ _) => ?_; try (simp (disch := decide) only [up_n, up_s, cp_n, rw_n, rw_s, up1_, if_true, if_false, ite_true, ite_false, reduceIte, not_true_eq_false, not_false_eq_true] at hc)) | (refine fun (hc : _ = _) => ?_; try (simp (disch := decide) only [up_n, up_s, cp_n, rw_n, rw_s, up1_, if_true, if_false, ite_true, ite_false, reduceIte, not_true_eq_false, not_false_eq_true] at hc)))
    all_goals first | exact h g _ | (exfalso; omega)
  | succ t ih =>
    intro m g h0 h1
    have hc1 := lrun_cnt (k := k) (pg := M 110) m
    have hl1 := lrun_len (k := k) (pg := M 110) m
    refine fr_go k203 [21] 400 rfl ?_
    repeat' (first | (refine And.intro (by first | omega | (simp (disch := decide) only [up_n, up_s, cp_n, rw_n, rw_s, up1_, if_true, if_false, ite_true, ite_false, reduceIte, not_true_eq_false, not_false_eq_true]; omega)) ?_) | (refine And.intro (fun hc => ?_) (fun hc => ?_) <;> (try (simp (disch := decide) only [up_n, up_s, cp_n, rw_n, rw_s, up1_, if_true, if_false, ite_true, ite_false, reduceIte, not_true_eq_false, not_false_eq_true] at hc)) <;> (try (exfalso; omega))) | (refine fun (hc : ¬ _) => ?_; try (simp (disch := decide) only [up_n, up_s, cp_n, rw_n, rw_s, up1_, if_true, if_false, ite_true, ite_false, reduceIte, not_true_eq_false, not_false_eq_true] at hc)) | (refine fun (hc : _ = _) => ?_; try (simp (disch := decide) only [up_n, up_s, cp_n, rw_n, rw_s, up1_, if_true, if_false, ite_true, ite_false, reduceIte, not_true_eq_false, not_false_eq_true] at hc)))
    all_goals first | (exfalso; omega) | skip
    simp (disch := decide) only [up_n, up_s, cp_n, rw_n, rw_s, up1_, if_true, if_false, ite_true, ite_false, reduceIte, not_true_eq_false, not_false_eq_true]
    refine m_misses (L := (lrun k (M 110) m).1) (by omega) (by simp (disch := decide) only [up_n, up_s, cp_n, rw_n, rw_s, up1_, if_true, if_false, ite_true, ite_false, reduceIte, not_true_eq_false, not_false_eq_true]) (by omega) (by rw [rw_at]; exact h1) (fun g' hg' => ?_)
    rw [Int.toNat_natCast] at hg' ⊢
    have hh := ih (m + 1) g' (by omega) hg'
    have ec : (lrun k (M 110) (m + 1)).2 = (lrun k (M 110) m).2 + (if M 110 (m : Int) ∈ (lrun k (M 110) m).1 then 0 else 1) := by
      show (if _ ∈ _ then _ else _) = _
      split <;> omega
    rw [ec] at hh
    simp (disch := decide) only [up_rw, rw_u, up_up, rw_rw, rw_cm]
    by_cases hm : M 110 (m : Int) ∈ (lrun k (M 110) m).1
    · rw [if_pos hm] at hh ⊢
      repeat' (first | (refine And.intro (by first | omega | (simp (disch := decide) only [up_n, up_s, cp_n, rw_n, rw_s, up1_, if_true, if_false, ite_true, ite_false, reduceIte, not_true_eq_false, not_false_eq_true]; omega)) ?_) | (refine And.intro (fun hc => ?_) (fun hc => ?_) <;> (try (simp (disch := decide) only [up_n, up_s, cp_n, rw_n, rw_s, up1_, if_true, if_false, ite_true, ite_false, reduceIte, not_true_eq_false, not_false_eq_true] at hc)) <;> (try (exfalso; omega))) | (refine fun (hc : ¬ _) => ?_; try (simp (disch := decide) only [up_n, up_s, cp_n, rw_n, rw_s, up1_, if_true, if_false, ite_true, ite_false, reduceIte, not_true_eq_false, not_false_eq_true] at hc)) | (refine fun (hc : _ = _) => ?_; try (simp (disch := decide) only [up_n, up_s, cp_n, rw_n, rw_s, up1_, if_true, if_false, ite_true, ite_false, reduceIte, not_true_eq_false, not_false_eq_true] at hc)))
      all_goals first | (exfalso; omega) | exact hh
    · rw [if_neg hm] at hh ⊢
      repeat' (first | (refine And.intro (by first | omega | (simp (disch := decide) only [up_n, up_s, cp_n, rw_n, rw_s, up1_, if_true, if_false, ite_true, ite_false, reduceIte, not_true_eq_false, not_false_eq_true]; omega)) ?_) | (refine And.intro (fun hc => ?_) (fun hc => ?_) <;> (try (simp (disch := decide) only [up_n, up_s, cp_n, rw_n, rw_s, up1_, if_true, if_false, ite_true, ite_false, reduceIte, not_true_eq_false, not_false_eq_true] at hc)) <;> (try (exfalso; omega))) | (refine fun (hc : ¬ _) => ?_; try (simp (disch := decide) only [up_n, up_s, cp_n, rw_n, rw_s, up1_, if_true, if_false, ite_true, ite_false, reduceIte, not_true_eq_false, not_false_eq_true] at hc)) | (refine fun (hc : _ = _) => ?_; try (simp (disch := decide) only [up_n, up_s, cp_n, rw_n, rw_s, up1_, if_true, if_false, ite_true, ite_false, reduceIte, not_true_eq_false, not_false_eq_true] at hc)))
      all_goals first | (exfalso; omega) | exact hh
set_option maxHeartbeats 4000000 in
set_option maxRecDepth 100000 in
theorem op_pages {n : Int} {M : fr_M} (hR : Rel n M) (hn : n ≤ 512) (a0 : Int) (g0 : fr_in a0) : Two 136 203 [.inl a0] M (Rel (n + 1)) := by
  obtain ⟨h0, h1, h2, h3, h4, h5, h6, h7, h8, o1, o2, o3, k1, k2, k3, k4, k5, t1, t2, s1, r1, r1', r2, r2', r3, r4, l⟩ := id hR
  have hN := hR.next
  obtain ⟨x1, x2, x3, x4, x5, x6⟩ := id r1'
  refine Two.of ?_
  by_cases hs : (0 ≤ a0 ∧ a0 ≤ 8) ∧ M 106 1 = 1
  · obtain ⟨hk, hm⟩ := hs
    have x7 := (x6 hm).2.1
    clear x5 x6
    have e10 : M 107 10 = M 52 2 := x7
    refine fr_cgo k136 [some (.inr (.inl 0)), some (.inl a0)] 0 0 [] 400 rfl rfl rfl rfl ?_
    repeat' (first | (refine And.intro (by first | omega | (simp (disch := decide) only [up_n, up_s, cp_n, rw_n, rw_s, up1_, if_true, if_false, ite_true, ite_false, reduceIte, not_true_eq_false, not_false_eq_true]; omega)) ?_) | (refine c_missedWith hk (by omega) (fun g => ?_)) | (refine And.intro (fun hc => ?_) (fun hc => ?_) <;> (try (simp (disch := decide) only [up_n, up_s, cp_n, rw_n, rw_s, up1_, if_true, if_false, ite_true, ite_false, reduceIte, not_true_eq_false, not_false_eq_true] at hc)) <;> (try (exfalso; omega))) | (refine fun (hc : ¬ _) => ?_; try (simp (disch := decide) only [up_n, up_s, cp_n, rw_n, rw_s, up1_, if_true, if_false, ite_true, ite_false, reduceIte, not_true_eq_false, not_false_eq_true] at hc)) | (refine fun (hc : _ = _) => ?_; try (simp (disch := decide) only [up_n, up_s, cp_n, rw_n, rw_s, up1_, if_true, if_false, ite_true, ite_false, reduceIte, not_true_eq_false, not_false_eq_true] at hc)))
    all_goals first | (exfalso; omega) | refine ⟨rfl, _, rfl, ?_⟩
    obtain ⟨k, ek⟩ : ∃ k : Nat, a0 = (k : Int) := ⟨a0.toNat, by omega⟩
    refine fr_cgo k203 [some (.inr (.inl 75)), some (.inl a0), none, none] 0 0 [21] 400 rfl rfl rfl rfl ?_
    repeat' (first | (refine And.intro (by first | omega | (simp (disch := decide) only [up_n, up_s, cp_n, rw_n, rw_s, up1_, if_true, if_false, ite_true, ite_false, reduceIte, not_true_eq_false, not_false_eq_true]; omega)) ?_) | (refine m_in (fun hc => ?_) (fun hc => ?_) <;> (try (simp (disch := decide) only [up_n, up_s, cp_n, rw_n, rw_s, up1_, if_true, if_false, ite_true, ite_false, reduceIte, not_true_eq_false, not_false_eq_true] at hc))) | (refine And.intro (fun hc => ?_) (fun hc => ?_) <;> (try (simp (disch := decide) only [up_n, up_s, cp_n, rw_n, rw_s, up1_, if_true, if_false, ite_true, ite_false, reduceIte, not_true_eq_false, not_false_eq_true] at hc)) <;> (try (exfalso; omega))) | (refine fun (hc : ¬ _) => ?_; try (simp (disch := decide) only [up_n, up_s, cp_n, rw_n, rw_s, up1_, if_true, if_false, ite_true, ite_false, reduceIte, not_true_eq_false, not_false_eq_true] at hc)) | (refine fun (hc : _ = _) => ?_; try (simp (disch := decide) only [up_n, up_s, cp_n, rw_n, rw_s, up1_, if_true, if_false, ite_true, ite_false, reduceIte, not_true_eq_false, not_false_eq_true] at hc)))
    all_goals first | (exfalso; omega) | (exfalso; simp (disch := decide) only [up_n, up_s, cp_n, rw_n, rw_s, up1_, if_true, if_false, ite_true, ite_false, reduceIte, not_true_eq_false, not_false_eq_true] at *; omega) | skip
    subst ek
    rw [Int.toNat_natCast]
    have hh := fun q => m_pages_l (M := rw_ M 58 g) (k := k) (Q := fun r2 sh2 M2 => sh2 = sh0 ∧ r2 = some (.inl (lrun k (M 54) (M 52 2).toNat).2) ∧ Rel (n + 1) M2) (by omega) (by simp (disch := decide) only [up_n, up_s, cp_n, rw_n, rw_s, up1_, if_true, if_false, ite_true, ite_false, reduceIte, not_true_eq_false, not_false_eq_true]; omega) q (M 52 2).toNat 0 (M 114) (by simp (disch := decide) only [up_n, up_s, cp_n, rw_n, rw_s, up1_, if_true, if_false, ite_true, ite_false, reduceIte, not_true_eq_false, not_false_eq_true]; omega) (fun j x hx => by cases j <;> cases hx)
    refine q_run (hh ?_) rw_id
    intro g' v
    refine ⟨rfl, sv ?_, by omega, h1, h2, h3, h4, h5, h6, h7, h8, o1, o2, o3, k1, k2, k3, k4, k5, t1, t2, s1, r1, r1', r2, r2', r3, r4, l.keep (kp_w (kp_u (kp_w kp_r (fun _ => rfl)) rfl) (fun _ => rfl))⟩
    rw [show rw_ M 58 g 107 10 = M 107 10 from rfl, show rw_ M 58 g 110 = M 110 from rfl, e10]
    rw [lrun_cg (M 52 2).toNat (fun i q0 q1 => r4 i q0 (by omega))]
  · by_cases ha : 0 ≤ a0 ∧ a0 ≤ 8
    · refine fr_cgo k136 [some (.inr (.inl 0)), some (.inl a0)] 0 0 [] 400 rfl rfl rfl rfl ?_
      repeat' (first | (refine And.intro (by first | omega | (simp (disch := decide) only [up_n, up_s, cp_n, rw_n, rw_s, up1_, if_true, if_false, ite_true, ite_false, reduceIte, not_true_eq_false, not_false_eq_true]; omega)) ?_) | (refine And.intro (fun hc => ?_) (fun hc => ?_) <;> (try (simp (disch := decide) only [up_n, up_s, cp_n, rw_n, rw_s, up1_, if_true, if_false, ite_true, ite_false, reduceIte, not_true_eq_false, not_false_eq_true] at hc)) <;> (try (exfalso; omega))) | (refine fun (hc : ¬ _) => ?_; try (simp (disch := decide) only [up_n, up_s, cp_n, rw_n, rw_s, up1_, if_true, if_false, ite_true, ite_false, reduceIte, not_true_eq_false, not_false_eq_true] at hc)) | (refine fun (hc : _ = _) => ?_; try (simp (disch := decide) only [up_n, up_s, cp_n, rw_n, rw_s, up1_, if_true, if_false, ite_true, ite_false, reduceIte, not_true_eq_false, not_false_eq_true] at hc)))
      all_goals first | (exfalso; omega) | refine ⟨rfl, _, rfl, ?_⟩
      all_goals (refine fr_cgo k203 [some (.inr (.inl 75)), some (.inl a0), none, none] 0 0 [] 400 rfl rfl rfl rfl ?_)
      all_goals (repeat' (first | (refine And.intro (by first | omega | (simp (disch := decide) only [up_n, up_s, cp_n, rw_n, rw_s, up1_, if_true, if_false, ite_true, ite_false, reduceIte, not_true_eq_false, not_false_eq_true]; omega)) ?_) | (refine m_in (fun hc => ?_) (fun hc => ?_) <;> (try (simp (disch := decide) only [up_n, up_s, cp_n, rw_n, rw_s, up1_, if_true, if_false, ite_true, ite_false, reduceIte, not_true_eq_false, not_false_eq_true] at hc))) | (refine And.intro (fun hc => ?_) (fun hc => ?_) <;> (try (simp (disch := decide) only [up_n, up_s, cp_n, rw_n, rw_s, up1_, if_true, if_false, ite_true, ite_false, reduceIte, not_true_eq_false, not_false_eq_true] at hc)) <;> (try (exfalso; omega))) | (refine fun (hc : ¬ _) => ?_; try (simp (disch := decide) only [up_n, up_s, cp_n, rw_n, rw_s, up1_, if_true, if_false, ite_true, ite_false, reduceIte, not_true_eq_false, not_false_eq_true] at hc)) | (refine fun (hc : _ = _) => ?_; try (simp (disch := decide) only [up_n, up_s, cp_n, rw_n, rw_s, up1_, if_true, if_false, ite_true, ite_false, reduceIte, not_true_eq_false, not_false_eq_true] at hc))))
      all_goals first | (exfalso; omega) | exact ⟨rfl, rfl, hN⟩
    · refine fr_cgo k136 [some (.inr (.inl 0)), some (.inl a0)] 0 0 [] 400 rfl rfl rfl rfl ?_
      repeat' (first | (refine And.intro (by first | omega | (simp (disch := decide) only [up_n, up_s, cp_n, rw_n, rw_s, up1_, if_true, if_false, ite_true, ite_false, reduceIte, not_true_eq_false, not_false_eq_true]; omega)) ?_) | (refine And.intro (fun hc => ?_) (fun hc => ?_) <;> (try (simp (disch := decide) only [up_n, up_s, cp_n, rw_n, rw_s, up1_, if_true, if_false, ite_true, ite_false, reduceIte, not_true_eq_false, not_false_eq_true] at hc)) <;> (try (exfalso; omega))) | (refine fun (hc : ¬ _) => ?_; try (simp (disch := decide) only [up_n, up_s, cp_n, rw_n, rw_s, up1_, if_true, if_false, ite_true, ite_false, reduceIte, not_true_eq_false, not_false_eq_true] at hc)) | (refine fun (hc : _ = _) => ?_; try (simp (disch := decide) only [up_n, up_s, cp_n, rw_n, rw_s, up1_, if_true, if_false, ite_true, ite_false, reduceIte, not_true_eq_false, not_false_eq_true] at hc)))
      all_goals first | (exfalso; omega) | refine ⟨rfl, _, rfl, ?_⟩
      all_goals (refine fr_cgo k203 [some (.inr (.inl 75)), some (.inl a0), none, none] 0 0 [] 400 rfl rfl rfl rfl ?_)
      all_goals (repeat' (first | (refine And.intro (by first | omega | (simp (disch := decide) only [up_n, up_s, cp_n, rw_n, rw_s, up1_, if_true, if_false, ite_true, ite_false, reduceIte, not_true_eq_false, not_false_eq_true]; omega)) ?_) | (refine m_in (fun hc => ?_) (fun hc => ?_) <;> (try (simp (disch := decide) only [up_n, up_s, cp_n, rw_n, rw_s, up1_, if_true, if_false, ite_true, ite_false, reduceIte, not_true_eq_false, not_false_eq_true] at hc))) | (refine And.intro (fun hc => ?_) (fun hc => ?_) <;> (try (simp (disch := decide) only [up_n, up_s, cp_n, rw_n, rw_s, up1_, if_true, if_false, ite_true, ite_false, reduceIte, not_true_eq_false, not_false_eq_true] at hc)) <;> (try (exfalso; omega))) | (refine fun (hc : ¬ _) => ?_; try (simp (disch := decide) only [up_n, up_s, cp_n, rw_n, rw_s, up1_, if_true, if_false, ite_true, ite_false, reduceIte, not_true_eq_false, not_false_eq_true] at hc)) | (refine fun (hc : _ = _) => ?_; try (simp (disch := decide) only [up_n, up_s, cp_n, rw_n, rw_s, up1_, if_true, if_false, ite_true, ite_false, reduceIte, not_true_eq_false, not_false_eq_true] at hc))))
      all_goals first | (exfalso; omega) | exact ⟨rfl, rfl, hN⟩
