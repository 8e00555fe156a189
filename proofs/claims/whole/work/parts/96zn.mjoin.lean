set_option maxHeartbeats 4000000 in
set_option maxRecDepth 100000 in
theorem m_chainsBy {W : fr_M} {r n e b w : Int} {Q : Option fr_V → fr_H → fr_M → Prop} (hR : RC W r n) (he : 0 ≤ e ∧ e < 2 * n) (eb : W 77 (9 * r + e / 2) = b) (ew : e % 2 = w) (h1 : 0 < pul W r e → Q (some (.inl 1)) sh0 W) (h0 : ¬ 0 < pul W r e → Q (some (.inl 0)) sh0 W) : fr_Call 168 [.inr (.inl 75), .inl b, .inl w] sh0 W Q := by
  obtain ⟨b1, b2, b3, b4, b5, -⟩ := hR.2.2.2.1 (e / 2) (by omega) (by omega)
  unfold pul at h1 h0
  have hw01 : 0 ≤ w ∧ w ≤ 1 := by omega
  rw [eb] at *
  rw [ew] at *
  have c := hR.2.2.2.2.2 (4 * b + w) (by omega) (by omega)
  clear hR
  by_cases q : W 82 b = 3 ∨ (w = 0 ∧ (W 82 b = 2 ∨ W 82 b = 5 ∨ W 82 b = 6))
  · rw [if_pos q] at h1 h0
    by_cases cp : 0 < W 85 (4 * b + w)
    · have h1 := h1 cp
      clear h0
      refine fr_cgo k168 [some (.inr (.inl 75)), some (.inl b), some (.inl w), none] 0 0 [] 400 rfl rfl rfl rfl ?_
      repeat' (first | (refine And.intro (by first | omega | (simp (disch := decide) only [up_n, up_s, cp_n, rw_n, rw_s, up1_, if_true, if_false, ite_true, ite_false, reduceIte, eq_self, Int.reduceEq, true_and, and_true, not_true_eq_false, not_false_eq_true]; omega)) ?_) | (refine And.intro (fun hc => ?_) (fun hc => ?_) <;> (try (simp (disch := decide) only [up_n, up_s, cp_n, rw_n, rw_s, up1_, if_true, if_false, ite_true, ite_false, reduceIte, eq_self, Int.reduceEq, true_and, and_true, not_true_eq_false, not_false_eq_true] at hc)) <;> (try (exfalso; omega))) | (refine fun (hc : ¬ _) => ?_; try (simp (disch := decide) only [up_n, up_s, cp_n, rw_n, rw_s, up1_, if_true, if_false, ite_true, ite_false, reduceIte, eq_self, Int.reduceEq, true_and, and_true, not_true_eq_false, not_false_eq_true] at hc)) | (refine fun (hc : _ = _) => ?_; try (simp (disch := decide) only [up_n, up_s, cp_n, rw_n, rw_s, up1_, if_true, if_false, ite_true, ite_false, reduceIte, eq_self, Int.reduceEq, true_and, and_true, not_true_eq_false, not_false_eq_true] at hc)))
      all_goals first | (exfalso; omega) | exact h1
    · have h0 := h0 cp
      clear h1
      refine fr_cgo k168 [some (.inr (.inl 75)), some (.inl b), some (.inl w), none] 0 0 [] 400 rfl rfl rfl rfl ?_
      repeat' (first | (refine And.intro (by first | omega | (simp (disch := decide) only [up_n, up_s, cp_n, rw_n, rw_s, up1_, if_true, if_false, ite_true, ite_false, reduceIte, eq_self, Int.reduceEq, true_and, and_true, not_true_eq_false, not_false_eq_true]; omega)) ?_) | (refine And.intro (fun hc => ?_) (fun hc => ?_) <;> (try (simp (disch := decide) only [up_n, up_s, cp_n, rw_n, rw_s, up1_, if_true, if_false, ite_true, ite_false, reduceIte, eq_self, Int.reduceEq, true_and, and_true, not_true_eq_false, not_false_eq_true] at hc)) <;> (try (exfalso; omega))) | (refine fun (hc : ¬ _) => ?_; try (simp (disch := decide) only [up_n, up_s, cp_n, rw_n, rw_s, up1_, if_true, if_false, ite_true, ite_false, reduceIte, eq_self, Int.reduceEq, true_and, and_true, not_true_eq_false, not_false_eq_true] at hc)) | (refine fun (hc : _ = _) => ?_; try (simp (disch := decide) only [up_n, up_s, cp_n, rw_n, rw_s, up1_, if_true, if_false, ite_true, ite_false, reduceIte, eq_self, Int.reduceEq, true_and, and_true, not_true_eq_false, not_false_eq_true] at hc)))
      all_goals first | (exfalso; omega) | exact h0
  · rw [if_neg q] at h0
    have h0 := h0 (by omega)
    clear h1
    refine fr_cgo k168 [some (.inr (.inl 75)), some (.inl b), some (.inl w), none] 0 0 [] 400 rfl rfl rfl rfl ?_
    repeat' (first | (refine And.intro (by first | omega | (simp (disch := decide) only [up_n, up_s, cp_n, rw_n, rw_s, up1_, if_true, if_false, ite_true, ite_false, reduceIte, eq_self, Int.reduceEq, true_and, and_true, not_true_eq_false, not_false_eq_true]; omega)) ?_) | (refine And.intro (fun hc => ?_) (fun hc => ?_) <;> (try (simp (disch := decide) only [up_n, up_s, cp_n, rw_n, rw_s, up1_, if_true, if_false, ite_true, ite_false, reduceIte, eq_self, Int.reduceEq, true_and, and_true, not_true_eq_false, not_false_eq_true] at hc)) <;> (try (exfalso; omega))) | (refine fun (hc : ¬ _) => ?_; try (simp (disch := decide) only [up_n, up_s, cp_n, rw_n, rw_s, up1_, if_true, if_false, ite_true, ite_false, reduceIte, eq_self, Int.reduceEq, true_and, and_true, not_true_eq_false, not_false_eq_true] at hc)) | (refine fun (hc : _ = _) => ?_; try (simp (disch := decide) only [up_n, up_s, cp_n, rw_n, rw_s, up1_, if_true, if_false, ite_true, ite_false, reduceIte, eq_self, Int.reduceEq, true_and, and_true, not_true_eq_false, not_false_eq_true] at hc)))
    all_goals first | (exfalso; omega) | exact h0
set_option maxHeartbeats 4000000 in
set_option maxRecDepth 100000 in
theorem m_hd_l {W : fr_M} {r n : Int} {fi fo pr : Int → Int} {y : Int} {Q : Option fr_V → fr_H → fr_M → Prop} (hR : RC W r n) (hJ : JI n fi fo pr) (h93 : ∀ i, 0 ≤ i → i < n → W 93 (W 77 (9 * r + i)) = if pr i = -1 then -9 else W 77 (9 * r + pr i)) (dp : Int → Nat) (hd : ∀ j, 0 ≤ j → j < n → (pr j = -1 → dp j = 0) ∧ (pr j ≠ -1 → dp j = dp (pr j) + 1)) : ∀ (d : Nat) (i : Int), 0 ≤ i → i < n → dp i = d → Q (some (.inl (W 77 (9 * r + fi i)))) sh0 W → fr_Run 167 none 2 [some (.inr (.inl 75)), some (.inl y), some (.inl (W 77 (9 * r + i)))] [] sh0 W 0 0 Q := by
  intro d
  induction d with
  | zero =>
    intro i i0 i1 hdi h
    have hp : pr i = -1 := by
      apply Classical.byContradiction
      intro q
      have := (hd i i0 i1).2 q
      omega
    have hf := (hJ.2.2.2.1 i i0 i1).mpr hp
    have a := h93 i i0 i1
    have b := hR.bl (k := i) ⟨i0, i1⟩
    rw [if_pos hp] at a
    rw [hf] at h
    clear h93 hd hJ
    generalize W 77 (9 * r + i) = x at *
    refine fr_go k167 [2] 400 rfl ?_
    repeat' (first | (refine And.intro (by first | omega | (simp (disch := decide) only [up_n, up_s, cp_n, rw_n, rw_s, up1_, if_true, if_false, ite_true, ite_false, reduceIte, eq_self, Int.reduceEq, true_and, and_true, not_true_eq_false, not_false_eq_true]; omega)) ?_) | (refine And.intro (fun hc => ?_) (fun hc => ?_) <;> (try (simp (disch := decide) only [up_n, up_s, cp_n, rw_n, rw_s, up1_, if_true, if_false, ite_true, ite_false, reduceIte, eq_self, Int.reduceEq, true_and, and_true, not_true_eq_false, not_false_eq_true] at hc)) <;> (try (exfalso; omega))) | (refine fun (hc : ¬ _) => ?_; try (simp (disch := decide) only [up_n, up_s, cp_n, rw_n, rw_s, up1_, if_true, if_false, ite_true, ite_false, reduceIte, eq_self, Int.reduceEq, true_and, and_true, not_true_eq_false, not_false_eq_true] at hc)) | (refine fun (hc : _ = _) => ?_; try (simp (disch := decide) only [up_n, up_s, cp_n, rw_n, rw_s, up1_, if_true, if_false, ite_true, ite_false, reduceIte, eq_self, Int.reduceEq, true_and, and_true, not_true_eq_false, not_false_eq_true] at hc)))
    all_goals first | (exfalso; omega) | exact h
  | succ d ih =>
    intro i i0 i1 hdi h
    have hp : pr i ≠ -1 := by
      intro q
      have := (hd i i0 i1).1 q
      omega
    have a := h93 i i0 i1
    rw [if_neg hp] at a
    have c := hJ.2.2.1 i i0 i1
    have c : 0 ≤ pr i ∧ pr i < n ∧ fo (pr i) = i ∧ fi i = fi (pr i) := by
      rcases c with c | c
      · exact absurd c hp
      · exact c
    have b := hR.bl (k := i) ⟨i0, i1⟩
    have b2 := hR.bl (k := pr i) ⟨c.1, c.2.1⟩
    have hh := ih (pr i) c.1 c.2.1 (by have := (hd i i0 i1).2 hp; omega) (by rw [← c.2.2.2]; exact h)
    rw [← a] at hh b2
    clear ih h h93 hd hJ
    generalize W 77 (9 * r + i) = x at *
    refine fr_go k167 [2] 400 rfl ?_
    repeat' (first | (refine And.intro (by first | omega | (simp (disch := decide) only [up_n, up_s, cp_n, rw_n, rw_s, up1_, if_true, if_false, ite_true, ite_false, reduceIte, eq_self, Int.reduceEq, true_and, and_true, not_true_eq_false, not_false_eq_true]; omega)) ?_) | (refine And.intro (fun hc => ?_) (fun hc => ?_) <;> (try (simp (disch := decide) only [up_n, up_s, cp_n, rw_n, rw_s, up1_, if_true, if_false, ite_true, ite_false, reduceIte, eq_self, Int.reduceEq, true_and, and_true, not_true_eq_false, not_false_eq_true] at hc)) <;> (try (exfalso; omega))) | (refine fun (hc : ¬ _) => ?_; try (simp (disch := decide) only [up_n, up_s, cp_n, rw_n, rw_s, up1_, if_true, if_false, ite_true, ite_false, reduceIte, eq_self, Int.reduceEq, true_and, and_true, not_true_eq_false, not_false_eq_true] at hc)) | (refine fun (hc : _ = _) => ?_; try (simp (disch := decide) only [up_n, up_s, cp_n, rw_n, rw_s, up1_, if_true, if_false, ite_true, ite_false, reduceIte, eq_self, Int.reduceEq, true_and, and_true, not_true_eq_false, not_false_eq_true] at hc)))
    all_goals first | (exfalso; omega) | exact hh
set_option maxHeartbeats 4000000 in
set_option maxRecDepth 100000 in
theorem m_headOf {W : fr_M} {r n i x : Int} {fi fo pr : Int → Int} {Q : Option fr_V → fr_H → fr_M → Prop} (hR : RC W r n) (hJ : JI n fi fo pr) (h93 : ∀ i, 0 ≤ i → i < n → W 93 (W 77 (9 * r + i)) = if pr i = -1 then -9 else W 77 (9 * r + pr i)) (hi : 0 ≤ i ∧ i < n) (ex : W 77 (9 * r + i) = x) (h : Q (some (.inl (W 77 (9 * r + fi i)))) sh0 W) : fr_Call 167 [.inr (.inl 75), .inl x] sh0 W Q := by
  obtain ⟨dp, hd⟩ := hJ.2.2.2.2.2
  have hh := m_hd_l (y := x) hR hJ h93 dp hd (dp i) i hi.1 hi.2 rfl h
  rw [ex] at hh
  clear h
  refine fr_cgo k167 [some (.inr (.inl 75)), some (.inl x), none] 0 0 [2] 400 rfl rfl rfl rfl ?_
  repeat' (first | (refine And.intro (by first | omega | (simp (disch := decide) only [up_n, up_s, cp_n, rw_n, rw_s, up1_, if_true, if_false, ite_true, ite_false, reduceIte, eq_self, Int.reduceEq, true_and, and_true, not_true_eq_false, not_false_eq_true]; omega)) ?_) | (refine And.intro (fun hc => ?_) (fun hc => ?_) <;> (try (simp (disch := decide) only [up_n, up_s, cp_n, rw_n, rw_s, up1_, if_true, if_false, ite_true, ite_false, reduceIte, eq_self, Int.reduceEq, true_and, and_true, not_true_eq_false, not_false_eq_true] at hc)) <;> (try (exfalso; omega))) | (refine fun (hc : ¬ _) => ?_; try (simp (disch := decide) only [up_n, up_s, cp_n, rw_n, rw_s, up1_, if_true, if_false, ite_true, ite_false, reduceIte, eq_self, Int.reduceEq, true_and, and_true, not_true_eq_false, not_false_eq_true] at hc)) | (refine fun (hc : _ = _) => ?_; try (simp (disch := decide) only [up_n, up_s, cp_n, rw_n, rw_s, up1_, if_true, if_false, ite_true, ite_false, reduceIte, eq_self, Int.reduceEq, true_and, and_true, not_true_eq_false, not_false_eq_true] at hc)))
  exact hh
/-- the reference's rows of chains -/
def MJR (n r : Int) (s : JS) (W : fr_M) : Prop := (∀ i, 0 ≤ i → i < n → W 92 (W 77 (9 * r + i)) = (if s.2.1 i = -1 then -9 else W 77 (9 * r + s.2.1 i)) ∧ W 93 (W 77 (9 * r + i)) = (if s.2.2.1 i = -1 then -9 else W 77 (9 * r + s.2.2.1 i))) ∧ (∀ e, 0 ≤ e → e < 2 * n → W 94 (4 * W 77 (9 * r + e / 2) + e % 2) = s.2.2.2 e)
/-- how the reference names an edge -/
def fnd (W : fr_M) (r e : Int) : Int := if e = -1 then -9 else 4 * W 77 (9 * r + e / 2) + e % 2
set_option maxHeartbeats 4000000 in
set_option maxRecDepth 100000 in
theorem m_gj2 {W : fr_M} {r n i : Int} {us : Int → Int} {Q : Option fr_V → fr_H → fr_M → Prop} (hR : RC W r n) (hu : ∀ e, 0 ≤ e → e < 2 * n → W 94 (4 * W 77 (9 * r + e / 2) + e % 2) = us e) (hi : 0 ≤ i ∧ i < n) (h : ∀ x7, fr_Run 169 none 23 [some (.inr (.inl 75)), some (.inl r), some (.inr (.inl 94)), some (.inl (fnd W r (grt (pul W r) us (2 * (i + 1)).toNat).1)), some (.inl (i + 1)), some (.inl (W 77 (9 * r + i))), some (.inl 2), x7] [] sh0 W 0 0 Q) : ∀ (t w : Nat) (x7 : Option fr_V), w + t = 2 → fr_Run 169 none 40 [some (.inr (.inl 75)), some (.inl r), some (.inr (.inl 94)), some (.inl (fnd W r (grt (pul W r) us (2 * i.toNat + w)).1)), some (.inl i), some (.inl (W 77 (9 * r + i))), some (.inl (w : Int)), x7] [] sh0 W 0 0 Q := by
  have hr := hR.1
  have hn9 := hR.2.2.1
  intro t
  induction t with
  | zero =>
    intro w x7 q0
    have e : w = 2 := by omega
    subst e
    have hh := h x7
    rw [show (2 * (i + 1)).toNat = 2 * i.toNat + 2 by omega] at hh
    clear h
    refine fr_go k169 [23, 40] 400 rfl ?_
    repeat' (first | (refine And.intro (by first | omega | (simp (disch := decide) only [up_n, up_s, cp_n, rw_n, rw_s, up1_, if_true, if_false, ite_true, ite_false, reduceIte, eq_self, Int.reduceEq, true_and, and_true, not_true_eq_false, not_false_eq_true]; omega)) ?_) | (refine And.intro (fun hc => ?_) (fun hc => ?_) <;> (try (simp (disch := decide) only [up_n, up_s, cp_n, rw_n, rw_s, up1_, if_true, if_false, ite_true, ite_false, reduceIte, eq_self, Int.reduceEq, true_and, and_true, not_true_eq_false, not_false_eq_true] at hc)) <;> (try (exfalso; omega))) | (refine fun (hc : ¬ _) => ?_; try (simp (disch := decide) only [up_n, up_s, cp_n, rw_n, rw_s, up1_, if_true, if_false, ite_true, ite_false, reduceIte, eq_self, Int.reduceEq, true_and, and_true, not_true_eq_false, not_false_eq_true] at hc)) | (refine fun (hc : _ = _) => ?_; try (simp (disch := decide) only [up_n, up_s, cp_n, rw_n, rw_s, up1_, if_true, if_false, ite_true, ite_false, reduceIte, eq_self, Int.reduceEq, true_and, and_true, not_true_eq_false, not_false_eq_true] at hc)))
    all_goals first | (exfalso; omega) | exact hh
  | succ t ih =>
    intro w x7 q0
    have hh := fun x7 => ih (w + 1) x7 (by omega)
    rw [show 2 * i.toNat + (w + 1) = 2 * i.toNat + w + 1 by omega, grt, show ((w + 1 : Nat) : Int) = (w : Int) + 1 by omega] at hh
    have ek : ((2 * i.toNat + w : Nat) : Int) = 2 * i + (w : Int) := by omega
    rw [ek] at hh
    have hu1 := hu (2 * i + (w : Int)) (by omega) (by omega)
    rw [show (2 * i + (w : Int)) / 2 = i by omega, show (2 * i + (w : Int)) % 2 = (w : Int) by omega] at hu1
    have hbl := hR.bl (k := i) hi
    have hgb := grt_b (pu := pul W r) (us := us) (2 * i.toNat + w)
    have hpb := pul_b hR (e := 2 * i + (w : Int)) (by omega)
    have h85 := hR.2.2.2.2.2
    have hpw := pul_w hR (e := 2 * i + (w : Int)) (by omega)
    rw [show (2 * i + (w : Int)) / 2 = i by omega, show (2 * i + (w : Int)) % 2 = (w : Int) by omega] at hpw
    have hfnd : (grt (pul W r) us (2 * i.toNat + w)).1 ≠ -1 → 0 ≤ fnd W r (grt (pul W r) us (2 * i.toNat + w)).1 ∧ fnd W r (grt (pul W r) us (2 * i.toNat + w)).1 < 160 ∧ W 85 (fnd W r (grt (pul W r) us (2 * i.toNat + w)).1) = (grt (pul W r) us (2 * i.toNat + w)).2 := fun q => by
      rcases hgb with c | c
      · exact absurd c.1 q
      · have d := hR.bl (k := (grt (pul W r) us (2 * i.toNat + w)).1 / 2) (by omega)
        have p := pul_w hR (e := (grt (pul W r) us (2 * i.toNat + w)).1) (by omega) (by omega)
        unfold fnd
        rw [if_neg q]
        refine ⟨by omega, by omega, ?_⟩
        rw [p.2.1]
        exact c.2.2.1
    have hf9 : (grt (pul W r) us (2 * i.toNat + w)).1 = -1 → fnd W r (grt (pul W r) us (2 * i.toNat + w)).1 = -9 := fun q => by
      unfold fnd
      rw [if_pos q]
    have hnew : fnd W r (2 * i + (w : Int)) = 4 * W 77 (9 * r + i) + (w : Int) := by
      unfold fnd
      rw [if_neg (by omega), show (2 * i + (w : Int)) / 2 = i by omega, show (2 * i + (w : Int)) % 2 = (w : Int) by omega]
    have hsz : siz (pul W r) us (2 * i + (w : Int)) = if us (2 * i + (w : Int)) ≠ 0 then 0 else pul W r (2 * i + (w : Int)) := rfl
    have hgb' : ((grt (pul W r) us (2 * i.toNat + w)).1 = -1 ∧ (grt (pul W r) us (2 * i.toNat + w)).2 = 0) ∨ (0 ≤ (grt (pul W r) us (2 * i.toNat + w)).1 ∧ 0 < (grt (pul W r) us (2 * i.toNat + w)).2) := by
      rcases hgb with c | c
      · exact Or.inl ⟨c.1, c.2.1⟩
      · exact Or.inr ⟨c.1.1, c.2.2.2⟩
    clear ih h hu hgb
    refine fr_go k169 [23, 40] 400 rfl ?_
    repeat' (first | (refine And.intro (by first | omega | (simp (disch := decide) only [up_n, up_s, cp_n, rw_n, rw_s, up1_, if_true, if_false, ite_true, ite_false, reduceIte, eq_self, Int.reduceEq, true_and, and_true, not_true_eq_false, not_false_eq_true]; omega)) ?_) | (refine And.intro (fun hc => ?_) (fun hc => ?_) <;> (try (simp (disch := decide) only [up_n, up_s, cp_n, rw_n, rw_s, up1_, if_true, if_false, ite_true, ite_false, reduceIte, eq_self, Int.reduceEq, true_and, and_true, not_true_eq_false, not_false_eq_true] at hc)) <;> (try (exfalso; omega))) | (refine fun (hc : ¬ _) => ?_; try (simp (disch := decide) only [up_n, up_s, cp_n, rw_n, rw_s, up1_, if_true, if_false, ite_true, ite_false, reduceIte, eq_self, Int.reduceEq, true_and, and_true, not_true_eq_false, not_false_eq_true] at hc)) | (refine fun (hc : _ = _) => ?_; try (simp (disch := decide) only [up_n, up_s, cp_n, rw_n, rw_s, up1_, if_true, if_false, ite_true, ite_false, reduceIte, eq_self, Int.reduceEq, true_and, and_true, not_true_eq_false, not_false_eq_true] at hc)))
    all_goals first | (exfalso; omega) | skip
    refine m_chainsBy (r := r) (n := n) (e := 2 * i + (w : Int)) hR (by omega) (by rw [show (2 * i + (w : Int)) / 2 = i by omega]) (by omega) (fun hc => ?_) (fun hc => ?_)
    · have hpw := (hpw hc).2.1
      generalize (grt (pul W r) us (2 * i.toNat + w)) = G at *
      generalize pul W r (2 * i + (w : Int)) = v at *
      generalize us (2 * i + (w : Int)) = u at *
      by_cases eu : u ≠ 0
      · rw [if_pos eu] at hsz
        rw [hsz, if_neg (by omega)] at hh
        generalize fnd W r G.1 = F at *
        clear hnew hfnd hf9
        repeat' (first | (refine And.intro (by first | omega | (simp (disch := decide) only [up_n, up_s, cp_n, rw_n, rw_s, up1_, if_true, if_false, ite_true, ite_false, reduceIte, eq_self, Int.reduceEq, true_and, and_true, not_true_eq_false, not_false_eq_true]; omega)) ?_) | (refine And.intro (fun hc => ?_) (fun hc => ?_) <;> (try (simp (disch := decide) only [up_n, up_s, cp_n, rw_n, rw_s, up1_, if_true, if_false, ite_true, ite_false, reduceIte, eq_self, Int.reduceEq, true_and, and_true, not_true_eq_false, not_false_eq_true] at hc)) <;> (try (exfalso; omega))) | (refine fun (hc : ¬ _) => ?_; try (simp (disch := decide) only [up_n, up_s, cp_n, rw_n, rw_s, up1_, if_true, if_false, ite_true, ite_false, reduceIte, eq_self, Int.reduceEq, true_and, and_true, not_true_eq_false, not_false_eq_true] at hc)) | (refine fun (hc : _ = _) => ?_; try (simp (disch := decide) only [up_n, up_s, cp_n, rw_n, rw_s, up1_, if_true, if_false, ite_true, ite_false, reduceIte, eq_self, Int.reduceEq, true_and, and_true, not_true_eq_false, not_false_eq_true] at hc)))
        all_goals first | (exfalso; omega) | exact hh _
      · rw [if_neg eu] at hsz
        rw [hsz] at hh
        by_cases ec : v > G.2
        · rw [if_pos ec] at hh
          rw [hnew] at hh
          generalize fnd W r G.1 = F at *
          by_cases eF : G.1 = -1
          · have hf9 := hf9 eF
            clear hfnd
            repeat' (first | (refine And.intro (by first | omega | (simp (disch := decide) only [up_n, up_s, cp_n, rw_n, rw_s, up1_, if_true, if_false, ite_true, ite_false, reduceIte, eq_self, Int.reduceEq, true_and, and_true, not_true_eq_false, not_false_eq_true]; omega)) ?_) | (refine And.intro (fun hc => ?_) (fun hc => ?_) <;> (try (simp (disch := decide) only [up_n, up_s, cp_n, rw_n, rw_s, up1_, if_true, if_false, ite_true, ite_false, reduceIte, eq_self, Int.reduceEq, true_and, and_true, not_true_eq_false, not_false_eq_true] at hc)) <;> (try (exfalso; omega))) | (refine fun (hc : ¬ _) => ?_; try (simp (disch := decide) only [up_n, up_s, cp_n, rw_n, rw_s, up1_, if_true, if_false, ite_true, ite_false, reduceIte, eq_self, Int.reduceEq, true_and, and_true, not_true_eq_false, not_false_eq_true] at hc)) | (refine fun (hc : _ = _) => ?_; try (simp (disch := decide) only [up_n, up_s, cp_n, rw_n, rw_s, up1_, if_true, if_false, ite_true, ite_false, reduceIte, eq_self, Int.reduceEq, true_and, and_true, not_true_eq_false, not_false_eq_true] at hc)))
            all_goals first | (exfalso; omega) | exact hh _
          · have hfnd := hfnd eF
            clear hf9
            repeat' (first | (refine And.intro (by first | omega | (simp (disch := decide) only [up_n, up_s, cp_n, rw_n, rw_s, up1_, if_true, if_false, ite_true, ite_false, reduceIte, eq_self, Int.reduceEq, true_and, and_true, not_true_eq_false, not_false_eq_true]; omega)) ?_) | (refine And.intro (fun hc => ?_) (fun hc => ?_) <;> (try (simp (disch := decide) only [up_n, up_s, cp_n, rw_n, rw_s, up1_, if_true, if_false, ite_true, ite_false, reduceIte, eq_self, Int.reduceEq, true_and, and_true, not_true_eq_false, not_false_eq_true] at hc)) <;> (try (exfalso; omega))) | (refine fun (hc : ¬ _) => ?_; try (simp (disch := decide) only [up_n, up_s, cp_n, rw_n, rw_s, up1_, if_true, if_false, ite_true, ite_false, reduceIte, eq_self, Int.reduceEq, true_and, and_true, not_true_eq_false, not_false_eq_true] at hc)) | (refine fun (hc : _ = _) => ?_; try (simp (disch := decide) only [up_n, up_s, cp_n, rw_n, rw_s, up1_, if_true, if_false, ite_true, ite_false, reduceIte, eq_self, Int.reduceEq, true_and, and_true, not_true_eq_false, not_false_eq_true] at hc)))
            all_goals first | (exfalso; omega) | exact hh _
        · rw [if_neg ec] at hh
          generalize fnd W r G.1 = F at *
          have hfnd := hfnd (by omega)
          clear hf9 hnew
          repeat' (first | (refine And.intro (by first | omega | (simp (disch := decide) only [up_n, up_s, cp_n, rw_n, rw_s, up1_, if_true, if_false, ite_true, ite_false, reduceIte, eq_self, Int.reduceEq, true_and, and_true, not_true_eq_false, not_false_eq_true]; omega)) ?_) | (refine And.intro (fun hc => ?_) (fun hc => ?_) <;> (try (simp (disch := decide) only [up_n, up_s, cp_n, rw_n, rw_s, up1_, if_true, if_false, ite_true, ite_false, reduceIte, eq_self, Int.reduceEq, true_and, and_true, not_true_eq_false, not_false_eq_true] at hc)) <;> (try (exfalso; omega))) | (refine fun (hc : ¬ _) => ?_; try (simp (disch := decide) only [up_n, up_s, cp_n, rw_n, rw_s, up1_, if_true, if_false, ite_true, ite_false, reduceIte, eq_self, Int.reduceEq, true_and, and_true, not_true_eq_false, not_false_eq_true] at hc)) | (refine fun (hc : _ = _) => ?_; try (simp (disch := decide) only [up_n, up_s, cp_n, rw_n, rw_s, up1_, if_true, if_false, ite_true, ite_false, reduceIte, eq_self, Int.reduceEq, true_and, and_true, not_true_eq_false, not_false_eq_true] at hc)))
          all_goals first | (exfalso; omega) | exact hh _
    · have hs0 : siz (pul W r) us (2 * i + (w : Int)) = 0 := by
        rw [hsz]
        split <;> omega
      rw [hs0, if_neg (by omega)] at hh
      generalize (grt (pul W r) us (2 * i.toNat + w)) = G at *
      generalize fnd W r G.1 = F at *
      clear hnew hfnd hf9
      repeat' (first | (refine And.intro (by first | omega | (simp (disch := decide) only [up_n, up_s, cp_n, rw_n, rw_s, up1_, if_true, if_false, ite_true, ite_false, reduceIte, eq_self, Int.reduceEq, true_and, and_true, not_true_eq_false, not_false_eq_true]; omega)) ?_) | (refine And.intro (fun hc => ?_) (fun hc => ?_) <;> (try (simp (disch := decide) only [up_n, up_s, cp_n, rw_n, rw_s, up1_, if_true, if_false, ite_true, ite_false, reduceIte, eq_self, Int.reduceEq, true_and, and_true, not_true_eq_false, not_false_eq_true] at hc)) <;> (try (exfalso; omega))) | (refine fun (hc : ¬ _) => ?_; try (simp (disch := decide) only [up_n, up_s, cp_n, rw_n, rw_s, up1_, if_true, if_false, ite_true, ite_false, reduceIte, eq_self, Int.reduceEq, true_and, and_true, not_true_eq_false, not_false_eq_true] at hc)) | (refine fun (hc : _ = _) => ?_; try (simp (disch := decide) only [up_n, up_s, cp_n, rw_n, rw_s, up1_, if_true, if_false, ite_true, ite_false, reduceIte, eq_self, Int.reduceEq, true_and, and_true, not_true_eq_false, not_false_eq_true] at hc)))
      all_goals first | (exfalso; omega) | exact hh _
set_option maxHeartbeats 4000000 in
set_option maxRecDepth 100000 in
theorem m_gj1 {W : fr_M} {r n : Int} {us : Int → Int} {Q : Option fr_V → fr_H → fr_M → Prop} (hR : RC W r n) (hu : ∀ e, 0 ≤ e → e < 2 * n → W 94 (4 * W 77 (9 * r + e / 2) + e % 2) = us e) (h : ∀ x5 x6 x7, fr_Run 169 none 90 [some (.inr (.inl 75)), some (.inl r), some (.inr (.inl 94)), some (.inl (fnd W r (grt (pul W r) us (2 * n).toNat).1)), some (.inl n), x5, x6, x7] [] sh0 W 0 0 Q) : ∀ (t : Nat) (i : Int) (x5 x6 x7 : Option fr_V), 0 ≤ i → i + t = n → fr_Run 169 none 23 [some (.inr (.inl 75)), some (.inl r), some (.inr (.inl 94)), some (.inl (fnd W r (grt (pul W r) us (2 * i).toNat).1)), some (.inl i), x5, x6, x7] [] sh0 W 0 0 Q := by
  have hr := hR.1
  have hm := hR.2.1
  have hn9 := hR.2.2.1
  intro t
  induction t with
  | zero =>
    intro i x5 x6 x7 q0 q1
    have e : i = n := by omega
    have hh := h x5 x6 x7
    clear h
    rw [e]
    refine fr_go k169 [23, 90] 400 rfl ?_
    repeat' (first | (refine And.intro (by first | omega | (simp (disch := decide) only [up_n, up_s, cp_n, rw_n, rw_s, up1_, if_true, if_false, ite_true, ite_false, reduceIte, eq_self, Int.reduceEq, true_and, and_true, not_true_eq_false, not_false_eq_true]; omega)) ?_) | (refine And.intro (fun hc => ?_) (fun hc => ?_) <;> (try (simp (disch := decide) only [up_n, up_s, cp_n, rw_n, rw_s, up1_, if_true, if_false, ite_true, ite_false, reduceIte, eq_self, Int.reduceEq, true_and, and_true, not_true_eq_false, not_false_eq_true] at hc)) <;> (try (exfalso; omega))) | (refine fun (hc : ¬ _) => ?_; try (simp (disch := decide) only [up_n, up_s, cp_n, rw_n, rw_s, up1_, if_true, if_false, ite_true, ite_false, reduceIte, eq_self, Int.reduceEq, true_and, and_true, not_true_eq_false, not_false_eq_true] at hc)) | (refine fun (hc : _ = _) => ?_; try (simp (disch := decide) only [up_n, up_s, cp_n, rw_n, rw_s, up1_, if_true, if_false, ite_true, ite_false, reduceIte, eq_self, Int.reduceEq, true_and, and_true, not_true_eq_false, not_false_eq_true] at hc)))
    all_goals first | (exfalso; omega) | exact hh
  | succ t ih =>
    intro i x5 x6 x7 q0 q1
    have hbl := hR.bl (k := i) (by omega)
    have hh := m_gj2 (Q := Q) hR hu (i := i) (by omega) (fun x7 => ih (i + 1) _ _ x7 (by omega) (by omega)) 2 0 x7 (by omega)
    rw [show 2 * i.toNat + 0 = (2 * i).toNat by omega] at hh
    clear ih h hu
    refine fr_go k169 [23, 40] 400 rfl ?_
    repeat' (first | (refine And.intro (by first | omega | (simp (disch := decide) only [up_n, up_s, cp_n, rw_n, rw_s, up1_, if_true, if_false, ite_true, ite_false, reduceIte, eq_self, Int.reduceEq, true_and, and_true, not_true_eq_false, not_false_eq_true]; omega)) ?_) | (refine And.intro (fun hc => ?_) (fun hc => ?_) <;> (try (simp (disch := decide) only [up_n, up_s, cp_n, rw_n, rw_s, up1_, if_true, if_false, ite_true, ite_false, reduceIte, eq_self, Int.reduceEq, true_and, and_true, not_true_eq_false, not_false_eq_true] at hc)) <;> (try (exfalso; omega))) | (refine fun (hc : ¬ _) => ?_; try (simp (disch := decide) only [up_n, up_s, cp_n, rw_n, rw_s, up1_, if_true, if_false, ite_true, ite_false, reduceIte, eq_self, Int.reduceEq, true_and, and_true, not_true_eq_false, not_false_eq_true] at hc)) | (refine fun (hc : _ = _) => ?_; try (simp (disch := decide) only [up_n, up_s, cp_n, rw_n, rw_s, up1_, if_true, if_false, ite_true, ite_false, reduceIte, eq_self, Int.reduceEq, true_and, and_true, not_true_eq_false, not_false_eq_true] at hc)))
    all_goals first | (exfalso; omega) | exact hh
