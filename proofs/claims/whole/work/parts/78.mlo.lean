set_option maxHeartbeats 4000000 in
set_option maxRecDepth 100000 in
theorem m_lo_j {M p : fr_M} {lg : Int → Int} {b x i : Int} {g : Int → Int} {Q : Option fr_V → fr_H → fr_M → Prop} (hb : 0 ≤ b ∧ b < 40) (hx : 0 ≤ x ∧ x ≤ 20000) (ek : p 82 b = M 82 b) (ht0 : M 101 (2 * b) = nn (tg0 p b)) (ht1 : M 101 (2 * b + 1) = nn (tg1 p b)) (hr0 : tg0 p b = -1 ∨ 0 ≤ tg0 p b) (hr1 : tg1 p b = -1 ∨ 0 ≤ tg1 p b) (hl0 : M 102 (2 * b) = lg (2 * b)) (hl1 : M 102 (2 * b + 1) = lg (2 * b + 1)) (hg0 : lg (2 * b) = 0 ∨ lg (2 * b) = 1) (hg1 : lg (2 * b + 1) = 0 ∨ lg (2 * b + 1) = 1) (h : ∀ g', EG p lg b x g g' → fr_Run 180 none 147 [some (.inr (.inl 75)), some (.inl (x + c5 p b + s0 p lg b + s1 p lg b)), some (.inl i), some (.inl b)] [] sh0 (rw_ M 104 g') 0 0 Q) : fr_Run 180 none 73 [some (.inr (.inl 75)), some (.inl x), some (.inl i), some (.inl b)] [] sh0 (rw_ M 104 g) 0 0 Q := by
  have k0 : (M 101 (2 * b) = -9 ↔ tg0 p b = -1) := by
    rw [ht0]
    unfold nn
    split <;> omega
  have k1 : (M 101 (2 * b + 1) = -9 ↔ tg1 p b = -1) := by
    rw [ht1]
    unfold nn
    split <;> omega
  have hs0 : s0 p lg b = if tg0 p b = -1 then 0 else if lg (2 * b) = 1 then 6 else 2 := rfl
  have hs1 : s1 p lg b = if tg1 p b = -1 then 0 else if lg (2 * b + 1) = 1 then 5 else 2 := rfl
  have h5 : c5 p b = if M 82 b = 5 then 5 else 0 := by
    unfold c5
    rw [ek]
  have b0 := (s0_b (p := p) (lg := lg) (b := b)).1
  have b5 : c5 p b = 0 ∨ c5 p b = 5 := by
    rw [h5]
    split <;> omega
  -- the first slot
  have part2 : ∀ g1 : Int → Int, (tg0 p b ≠ -1 → g1 (2 * b) = x + c5 p b + s0 p lg b) → (∀ s, s ≠ 2 * b → g1 s = g s) → fr_Run 180 none 113 [some (.inr (.inl 75)), some (.inl (x + c5 p b + s0 p lg b)), some (.inl i), some (.inl b)] [] sh0 (rw_ M 104 g1) 0 0 Q := by
    intro g1 y1 y2
    by_cases e1 : tg1 p b = -1
    · have e2 : s1 p lg b = 0 := by rw [hs1, if_pos e1]
      have hh := h g1 ⟨y1, fun q => absurd e1 q, fun s z1 z2 => y2 s z1⟩
      rw [e2, show x + c5 p b + s0 p lg b + 0 = x + c5 p b + s0 p lg b by omega] at hh
      clear h y1 y2
      refine fr_go k180 [147] 400 rfl ?_
      repeat' (first | (refine And.intro (by first | omega | (simp (disch := decide) only [up_n, up_s, cp_n, rw_n, rw_s, up1_, if_true, if_false, ite_true, ite_false, reduceIte, eq_self, Int.reduceEq, true_and, and_true, not_true_eq_false, not_false_eq_true]; omega)) ?_) | (refine And.intro (fun hc => ?_) (fun hc => ?_) <;> (try (simp (disch := decide) only [up_n, up_s, cp_n, rw_n, rw_s, up1_, if_true, if_false, ite_true, ite_false, reduceIte, eq_self, Int.reduceEq, true_and, and_true, not_true_eq_false, not_false_eq_true] at hc)) <;> (try (exfalso; omega))) | (refine fun (hc : ¬ _) => ?_; try (simp (disch := decide) only [up_n, up_s, cp_n, rw_n, rw_s, up1_, if_true, if_false, ite_true, ite_false, reduceIte, eq_self, Int.reduceEq, true_and, and_true, not_true_eq_false, not_false_eq_true] at hc)) | (refine fun (hc : _ = _) => ?_; try (simp (disch := decide) only [up_n, up_s, cp_n, rw_n, rw_s, up1_, if_true, if_false, ite_true, ite_false, reduceIte, eq_self, Int.reduceEq, true_and, and_true, not_true_eq_false, not_false_eq_true] at hc)))
      all_goals first | (exfalso; omega) | exact hh
    · have hh := h (up1 g1 (2 * b + 1) (x + c5 p b + s0 p lg b + s1 p lg b)) ⟨fun q => by rw [up1_, if_neg (by omega)]; exact y1 q, fun q => by rw [up1_, if_pos rfl], fun s z1 z2 => by rw [up1_, if_neg z2]; exact y2 s z1⟩
      clear h y1 y2
      rcases hg1 with e3 | e3
      · have e2 : s1 p lg b = 2 := by rw [hs1, if_neg e1, if_neg (by omega)]
        rw [e2] at hh
        refine fr_go k180 [147] 400 rfl ?_
        repeat' (first | (refine And.intro (by first | omega | (simp (disch := decide) only [up_n, up_s, cp_n, rw_n, rw_s, up1_, if_true, if_false, ite_true, ite_false, reduceIte, eq_self, Int.reduceEq, true_and, and_true, not_true_eq_false, not_false_eq_true]; omega)) ?_) | (refine And.intro (fun hc => ?_) (fun hc => ?_) <;> (try (simp (disch := decide) only [up_n, up_s, cp_n, rw_n, rw_s, up1_, if_true, if_false, ite_true, ite_false, reduceIte, eq_self, Int.reduceEq, true_and, and_true, not_true_eq_false, not_false_eq_true] at hc)) <;> (try (exfalso; omega))) | (refine fun (hc : ¬ _) => ?_; try (simp (disch := decide) only [up_n, up_s, cp_n, rw_n, rw_s, up1_, if_true, if_false, ite_true, ite_false, reduceIte, eq_self, Int.reduceEq, true_and, and_true, not_true_eq_false, not_false_eq_true] at hc)) | (refine fun (hc : _ = _) => ?_; try (simp (disch := decide) only [up_n, up_s, cp_n, rw_n, rw_s, up1_, if_true, if_false, ite_true, ite_false, reduceIte, eq_self, Int.reduceEq, true_and, and_true, not_true_eq_false, not_false_eq_true] at hc)))
        all_goals first | (exfalso; omega) | skip
        simp (disch := decide) only [up_rw, rw_u, up_up, rw_rw, rw_cm]
        exact hh
      · have e2 : s1 p lg b = 5 := by rw [hs1, if_neg e1, if_pos e3]
        rw [e2] at hh
        refine fr_go k180 [147] 400 rfl ?_
        repeat' (first | (refine And.intro (by first | omega | (simp (disch := decide) only [up_n, up_s, cp_n, rw_n, rw_s, up1_, if_true, if_false, ite_true, ite_false, reduceIte, eq_self, Int.reduceEq, true_and, and_true, not_true_eq_false, not_false_eq_true]; omega)) ?_) | (refine And.intro (fun hc => ?_) (fun hc => ?_) <;> (try (simp (disch := decide) only [up_n, up_s, cp_n, rw_n, rw_s, up1_, if_true, if_false, ite_true, ite_false, reduceIte, eq_self, Int.reduceEq, true_and, and_true, not_true_eq_false, not_false_eq_true] at hc)) <;> (try (exfalso; omega))) | (refine fun (hc : ¬ _) => ?_; try (simp (disch := decide) only [up_n, up_s, cp_n, rw_n, rw_s, up1_, if_true, if_false, ite_true, ite_false, reduceIte, eq_self, Int.reduceEq, true_and, and_true, not_true_eq_false, not_false_eq_true] at hc)) | (refine fun (hc : _ = _) => ?_; try (simp (disch := decide) only [up_n, up_s, cp_n, rw_n, rw_s, up1_, if_true, if_false, ite_true, ite_false, reduceIte, eq_self, Int.reduceEq, true_and, and_true, not_true_eq_false, not_false_eq_true] at hc)))
        all_goals first | (exfalso; omega) | skip
        simp (disch := decide) only [up_rw, rw_u, up_up, rw_rw, rw_cm]
        exact hh
  have part1 : fr_Run 180 none 85 [some (.inr (.inl 75)), some (.inl (x + c5 p b)), some (.inl i), some (.inl b)] [] sh0 (rw_ M 104 g) 0 0 Q := by
    by_cases e1 : tg0 p b = -1
    · have e2 : s0 p lg b = 0 := by rw [hs0, if_pos e1]
      have hh := part2 g (fun q => absurd e1 q) (fun s z1 => rfl)
      rw [e2, show x + c5 p b + 0 = x + c5 p b by omega] at hh
      clear part2 h
      refine fr_go k180 [113] 400 rfl ?_
      repeat' (first | (refine And.intro (by first | omega | (simp (disch := decide) only [up_n, up_s, cp_n, rw_n, rw_s, up1_, if_true, if_false, ite_true, ite_false, reduceIte, eq_self, Int.reduceEq, true_and, and_true, not_true_eq_false, not_false_eq_true]; omega)) ?_) | (refine And.intro (fun hc => ?_) (fun hc => ?_) <;> (try (simp (disch := decide) only [up_n, up_s, cp_n, rw_n, rw_s, up1_, if_true, if_false, ite_true, ite_false, reduceIte, eq_self, Int.reduceEq, true_and, and_true, not_true_eq_false, not_false_eq_true] at hc)) <;> (try (exfalso; omega))) | (refine fun (hc : ¬ _) => ?_; try (simp (disch := decide) only [up_n, up_s, cp_n, rw_n, rw_s, up1_, if_true, if_false, ite_true, ite_false, reduceIte, eq_self, Int.reduceEq, true_and, and_true, not_true_eq_false, not_false_eq_true] at hc)) | (refine fun (hc : _ = _) => ?_; try (simp (disch := decide) only [up_n, up_s, cp_n, rw_n, rw_s, up1_, if_true, if_false, ite_true, ite_false, reduceIte, eq_self, Int.reduceEq, true_and, and_true, not_true_eq_false, not_false_eq_true] at hc)))
      all_goals first | (exfalso; omega) | exact hh
    · have hh := part2 (up1 g (2 * b) (x + c5 p b + s0 p lg b)) (fun q => by rw [up1_, if_pos rfl]) (fun s z1 => by rw [up1_, if_neg z1])
      clear part2 h
      rcases hg0 with e3 | e3
      · have e2 : s0 p lg b = 2 := by rw [hs0, if_neg e1, if_neg (by omega)]
        rw [e2] at hh
        refine fr_go k180 [113] 400 rfl ?_
        repeat' (first | (refine And.intro (by first | omega | (simp (disch := decide) only [up_n, up_s, cp_n, rw_n, rw_s, up1_, if_true, if_false, ite_true, ite_false, reduceIte, eq_self, Int.reduceEq, true_and, and_true, not_true_eq_false, not_false_eq_true]; omega)) ?_) | (refine And.intro (fun hc => ?_) (fun hc => ?_) <;> (try (simp (disch := decide) only [up_n, up_s, cp_n, rw_n, rw_s, up1_, if_true, if_false, ite_true, ite_false, reduceIte, eq_self, Int.reduceEq, true_and, and_true, not_true_eq_false, not_false_eq_true] at hc)) <;> (try (exfalso; omega))) | (refine fun (hc : ¬ _) => ?_; try (simp (disch := decide) only [up_n, up_s, cp_n, rw_n, rw_s, up1_, if_true, if_false, ite_true, ite_false, reduceIte, eq_self, Int.reduceEq, true_and, and_true, not_true_eq_false, not_false_eq_true] at hc)) | (refine fun (hc : _ = _) => ?_; try (simp (disch := decide) only [up_n, up_s, cp_n, rw_n, rw_s, up1_, if_true, if_false, ite_true, ite_false, reduceIte, eq_self, Int.reduceEq, true_and, and_true, not_true_eq_false, not_false_eq_true] at hc)))
        all_goals first | (exfalso; omega) | skip
        simp (disch := decide) only [up_rw, rw_u, up_up, rw_rw, rw_cm]
        exact hh
      · have e2 : s0 p lg b = 6 := by rw [hs0, if_neg e1, if_pos e3]
        rw [e2] at hh
        refine fr_go k180 [113] 400 rfl ?_
        repeat' (first | (refine And.intro (by first | omega | (simp (disch := decide) only [up_n, up_s, cp_n, rw_n, rw_s, up1_, if_true, if_false, ite_true, ite_false, reduceIte, eq_self, Int.reduceEq, true_and, and_true, not_true_eq_false, not_false_eq_true]; omega)) ?_) | (refine And.intro (fun hc => ?_) (fun hc => ?_) <;> (try (simp (disch := decide) only [up_n, up_s, cp_n, rw_n, rw_s, up1_, if_true, if_false, ite_true, ite_false, reduceIte, eq_self, Int.reduceEq, true_and, and_true, not_true_eq_false, not_false_eq_true] at hc)) <;> (try (exfalso; omega))) | (refine fun (hc : ¬ _) => ?_; try (simp (disch := decide) only [up_n, up_s, cp_n, rw_n, rw_s, up1_, if_true, if_false, ite_true, ite_false, reduceIte, eq_self, Int.reduceEq, true_and, and_true, not_true_eq_false, not_false_eq_true] at hc)) | (refine fun (hc : _ = _) => ?_; try (simp (disch := decide) only [up_n, up_s, cp_n, rw_n, rw_s, up1_, if_true, if_false, ite_true, ite_false, reduceIte, eq_self, Int.reduceEq, true_and, and_true, not_true_eq_false, not_false_eq_true] at hc)))
        all_goals first | (exfalso; omega) | skip
        simp (disch := decide) only [up_rw, rw_u, up_up, rw_rw, rw_cm]
        exact hh
  clear part2 h
  by_cases e5 : M 82 b = 5
  · rw [h5, if_pos e5] at part1
    refine fr_go k180 [85] 400 rfl ?_
    repeat' (first | (refine And.intro (by first | omega | (simp (disch := decide) only [up_n, up_s, cp_n, rw_n, rw_s, up1_, if_true, if_false, ite_true, ite_false, reduceIte, eq_self, Int.reduceEq, true_and, and_true, not_true_eq_false, not_false_eq_true]; omega)) ?_) | (refine And.intro (fun hc => ?_) (fun hc => ?_) <;> (try (simp (disch := decide) only [up_n, up_s, cp_n, rw_n, rw_s, up1_, if_true, if_false, ite_true, ite_false, reduceIte, eq_self, Int.reduceEq, true_and, and_true, not_true_eq_false, not_false_eq_true] at hc)) <;> (try (exfalso; omega))) | (refine fun (hc : ¬ _) => ?_; try (simp (disch := decide) only [up_n, up_s, cp_n, rw_n, rw_s, up1_, if_true, if_false, ite_true, ite_false, reduceIte, eq_self, Int.reduceEq, true_and, and_true, not_true_eq_false, not_false_eq_true] at hc)) | (refine fun (hc : _ = _) => ?_; try (simp (disch := decide) only [up_n, up_s, cp_n, rw_n, rw_s, up1_, if_true, if_false, ite_true, ite_false, reduceIte, eq_self, Int.reduceEq, true_and, and_true, not_true_eq_false, not_false_eq_true] at hc)))
    all_goals first | (exfalso; omega) | exact part1
  · rw [h5, if_neg e5] at part1
    refine fr_go k180 [85] 400 rfl ?_
    repeat' (first | (refine And.intro (by first | omega | (simp (disch := decide) only [up_n, up_s, cp_n, rw_n, rw_s, up1_, if_true, if_false, ite_true, ite_false, reduceIte, eq_self, Int.reduceEq, true_and, and_true, not_true_eq_false, not_false_eq_true]; omega)) ?_) | (refine And.intro (fun hc => ?_) (fun hc => ?_) <;> (try (simp (disch := decide) only [up_n, up_s, cp_n, rw_n, rw_s, up1_, if_true, if_false, ite_true, ite_false, reduceIte, eq_self, Int.reduceEq, true_and, and_true, not_true_eq_false, not_false_eq_true] at hc)) <;> (try (exfalso; omega))) | (refine fun (hc : ¬ _) => ?_; try (simp (disch := decide) only [up_n, up_s, cp_n, rw_n, rw_s, up1_, if_true, if_false, ite_true, ite_false, reduceIte, eq_self, Int.reduceEq, true_and, and_true, not_true_eq_false, not_false_eq_true] at hc)) | (refine fun (hc : _ = _) => ?_; try (simp (disch := decide) only [up_n, up_s, cp_n, rw_n, rw_s, up1_, if_true, if_false, ite_true, ite_false, reduceIte, eq_self, Int.reduceEq, true_and, and_true, not_true_eq_false, not_false_eq_true] at hc)))
    all_goals first | (exfalso; omega) | exact part1
/-- what laysOut leaves for the first k of THE ROW -/
def MI (p : fr_M) (lg : Int → Int) (k : Nat) (g98 g99 g100 g104 : Int → Int) : Prop := ∀ j : Nat, j < k → g98 (ln p j) = ad p lg (ln p j) ∧ g99 (ln p j) = ea p lg (ln p j) ∧ g100 (ln p j) = be p lg (ln p j) ∧ (tg0 p (ln p j) ≠ -1 → g104 (2 * ln p j) = jb0 p lg (ln p j)) ∧ (tg1 p (ln p j) ≠ -1 → g104 (2 * ln p j + 1) = jb1 p lg (ln p j))
theorem MI.step {p : fr_M} (hw : WF p) {lg : Int → Int} {k : Nat} {g98 g99 g100 g104 g' : Int → Int} (hk : k < cN p) (h : MI p lg k g98 g99 g100 g104) (he : EG p lg (ln p k) (al p (pos p lg k) + p 80 (ln p k)) g104 g') : MI p lg (k + 1) (up1 g98 (ln p k) (al p (pos p lg k))) (up1 g99 (ln p k) (al p (pos p lg k) + p 80 (ln p k))) (up1 g100 (ln p k) (ed p lg (ln p k) (al p (pos p lg k) + p 80 (ln p k)))) g' := by
  intro j hj
  have ea' : ea p lg (ln p k) = al p (pos p lg k) + p 80 (ln p k) := by
    unfold ea
    rw [ad_ln hw hk]
  by_cases e : j = k
  · subst e
    rw [up1_, if_pos rfl, up1_, if_pos rfl, up1_, if_pos rfl, ad_ln hw hk]
    refine ⟨rfl, ea'.symm, ?_, fun q => ?_, fun q => ?_⟩
    · unfold be
      rw [ea']
    · rw [he.1 q]
      unfold jb0
      rw [ea']
    · rw [he.2.1 q]
      unfold jb1
      rw [ea']
  · have hne : ln p j ≠ ln p k := fun q => e (ln_inj hw (by omega) hk q)
    have := h j (by omega)
    rw [up1_, if_neg hne, up1_, if_neg hne, up1_, if_neg hne, he.2.2 _ (by omega) (by omega), he.2.2 _ (by omega) (by omega)]
    exact this
theorem MI.all {p : fr_M} (hw : WF p) {lg : Int → Int} {g98 g99 g100 g104 : Int → Int} (h : MI p lg (cN p) g98 g99 g100 g104) : (∀ b, 0 ≤ b → b < p 75 4 → g98 b = ad p lg b ∧ g99 b = ea p lg b ∧ g100 b = be p lg b) ∧ (∀ s, 0 ≤ s → s < 2 * p 75 4 → tg p s ≠ -1 → g104 s = jb p lg s) := by
  have hl : LI p lg (cN p) g98 g100 g104 := fun j hj => ⟨(h j hj).1, (h j hj).2.2.1, (h j hj).2.2.2.1, (h j hj).2.2.2.2⟩
  have := hl.all hw
  refine ⟨fun b q0 q1 => ⟨(this.1 b q0 q1).1, ?_, (this.1 b q0 q1).2⟩, this.2⟩
  have hq := (h (ix p b) (ix_lt hw ⟨q0, q1⟩)).2.1
  rw [ln_ix hw ⟨q0, q1⟩] at hq
  exact hq
def MC (p : fr_M) (lg : Int → Int) (M : fr_M) : Prop := M 75 28 = p 75 4 ∧ (∀ k : Nat, (k : Int) < p 75 4 → M 96 (k : Int) = ln p k) ∧ (∀ s, 0 ≤ s → s < 2 * p 75 4 → M 101 s = nn (tg p s) ∧ M 102 s = lg s ∧ (lg s = 0 ∨ lg s = 1))
set_option maxHeartbeats 4000000 in
set_option maxRecDepth 100000 in
theorem m_lo_l {M p : fr_M} {lg : Int → Int} {Q : Option fr_V → fr_H → fr_M → Prop} (hp : pg M = p) (hw : WF p) (hl : MC p lg M) (h : ∀ g98 g99 g100 g104, MI p lg (cN p) g98 g99 g100 g104 → Q none sh0 (rw_ (rw_ (rw_ (rw_ (fr_up M 75 38 (pos p lg (cN p))) 98 g98) 99 g99) 100 g100) 104 g104)) : ∀ (t k : Nat) (g98 g99 g100 g104 : Int → Int) (x3 : Option fr_V), k + t = cN p → MI p lg k g98 g99 g100 g104 → fr_Run 180 none 4 [some (.inr (.inl 75)), some (.inl (pos p lg k)), some (.inl (k : Int)), x3] [] sh0 (rw_ (rw_ (rw_ (rw_ M 98 g98) 99 g99) 100 g100) 104 g104) 0 0 Q := by
  have hcN := cN_40 hw
  obtain ⟨l1, l2, l3⟩ := hl
  intro t
  induction t with
  | zero =>
    intro k g98 g99 g100 g104 x3 q0 q1
    have e : k = cN p := by omega
    subst e
    have hh := h g98 g99 g100 g104 q1
    clear h l2 l3
    refine fr_go k180 [4] 400 rfl ?_
    repeat' (first | (refine And.intro (by first | omega | (simp (disch := decide) only [up_n, up_s, cp_n, rw_n, rw_s, up1_, if_true, if_false, ite_true, ite_false, reduceIte, eq_self, Int.reduceEq, true_and, and_true, not_true_eq_false, not_false_eq_true]; omega)) ?_) | (refine And.intro (fun hc => ?_) (fun hc => ?_) <;> (try (simp (disch := decide) only [up_n, up_s, cp_n, rw_n, rw_s, up1_, if_true, if_false, ite_true, ite_false, reduceIte, eq_self, Int.reduceEq, true_and, and_true, not_true_eq_false, not_false_eq_true] at hc)) <;> (try (exfalso; omega))) | (refine fun (hc : ¬ _) => ?_; try (simp (disch := decide) only [up_n, up_s, cp_n, rw_n, rw_s, up1_, if_true, if_false, ite_true, ite_false, reduceIte, eq_self, Int.reduceEq, true_and, and_true, not_true_eq_false, not_false_eq_true] at hc)) | (refine fun (hc : _ = _) => ?_; try (simp (disch := decide) only [up_n, up_s, cp_n, rw_n, rw_s, up1_, if_true, if_false, ite_true, ite_false, reduceIte, eq_self, Int.reduceEq, true_and, and_true, not_true_eq_false, not_false_eq_true] at hc)))
    all_goals first | (exfalso; omega) | skip
    show Q none sh0 _
    simp (disch := decide) only [up_rw, rw_u, up_up, rw_rw, rw_cm]
    exact hh
  | succ t ih =>
    intro k g98 g99 g100 g104 x3 q0 q1
    have hk : k < cN p := by omega
    have hr := ln_rng hw hk
    have e1 := l2 k (by omega)
    have b1 := pos_b hw (lg := lg) (k := k) (by omega)
    have b4 := al_b hw (pos p lg k)
    have hA := hw.1.2.2
    have hsz2 := hw.2.2.2.2.2.1 _ hr.1 hr.2
    have hwsz : p 80 (ln p k) = M 80 (ln p k) := by rw [← hp]; rfl
    have ek : p 82 (ln p k) = M 82 (ln p k) := by rw [← hp]; rfl
    have en : p 83 (ln p k) = M 83 (ln p k) := by rw [← hp]; rfl
    have ea14 : p 75 14 = M 75 14 := by rw [← hp]; rfl
    have he := ed_b hw (lg := lg) (b := ln p k) (x := al p (pos p lg k) + p 80 (ln p k)) hr
    have ha2 : (pos p lg k + M 75 14 - 1) / M 75 14 * M 75 14 = al p (pos p lg k) := by
      unfold al
      rw [ea14]
    have hdv : fr_in ((pos p lg k + M 75 14 - 1) / M 75 14 * M 75 14) := by
      rw [ha2]
      omega
    have hs0 := l3 (2 * ln p k) (by omega) (by omega)
    have hs1 := l3 (2 * ln p k + 1) (by omega) (by omega)
    rw [tg_even] at hs0
    rw [tg_odd] at hs1
    rw [ek, en] at hsz2
    have hfin := fun g' hg => ih (k + 1) _ _ _ g' (some (.inl (ln p k))) (by omega) (q1.step hw hk hg)
    rw [show pos p lg (k + 1) = ed p lg (ln p k) (al p (pos p lg k) + p 80 (ln p k)) from rfl] at hfin
    clear ih h
    have h147 : ∀ g', EG p lg (ln p k) (al p (pos p lg k) + p 80 (ln p k)) g104 g' → fr_Run 180 none 147 [some (.inr (.inl 75)), some (.inl (ed p lg (ln p k) (al p (pos p lg k) + p 80 (ln p k)))), some (.inl (k : Int)), some (.inl (ln p k))] [] sh0 (rw_ (rw_ (rw_ (rw_ M 98 (up1 g98 (ln p k) (al p (pos p lg k)))) 99 (up1 g99 (ln p k) (al p (pos p lg k) + p 80 (ln p k)))) 100 g100) 104 g') 0 0 Q := by
      intro g' hg
      have hh := hfin g' hg
      clear hfin
      refine fr_go k180 [4] 400 rfl ?_
      repeat' (first | (refine And.intro (by first | omega | (simp (disch := decide) only [up_n, up_s, cp_n, rw_n, rw_s, up1_, if_true, if_false, ite_true, ite_false, reduceIte, eq_self, Int.reduceEq, true_and, and_true, not_true_eq_false, not_false_eq_true]; omega)) ?_) | (refine And.intro (fun hc => ?_) (fun hc => ?_) <;> (try (simp (disch := decide) only [up_n, up_s, cp_n, rw_n, rw_s, up1_, if_true, if_false, ite_true, ite_false, reduceIte, eq_self, Int.reduceEq, true_and, and_true, not_true_eq_false, not_false_eq_true] at hc)) <;> (try (exfalso; omega))) | (refine fun (hc : ¬ _) => ?_; try (simp (disch := decide) only [up_n, up_s, cp_n, rw_n, rw_s, up1_, if_true, if_false, ite_true, ite_false, reduceIte, eq_self, Int.reduceEq, true_and, and_true, not_true_eq_false, not_false_eq_true] at hc)) | (refine fun (hc : _ = _) => ?_; try (simp (disch := decide) only [up_n, up_s, cp_n, rw_n, rw_s, up1_, if_true, if_false, ite_true, ite_false, reduceIte, eq_self, Int.reduceEq, true_and, and_true, not_true_eq_false, not_false_eq_true] at hc)))
      all_goals first | (exfalso; omega) | skip
      simp (disch := decide) only [up_rw, rw_u, up_up, rw_rw, rw_cm]
      exact hh
    clear hfin
    refine fr_go k180 [25] 400 rfl ?_
    repeat' (first | (refine And.intro (by first | omega | (simp (disch := decide) only [up_n, up_s, cp_n, rw_n, rw_s, up1_, if_true, if_false, ite_true, ite_false, reduceIte, eq_self, Int.reduceEq, true_and, and_true, not_true_eq_false, not_false_eq_true]; omega)) ?_) | (refine And.intro (fun hc => ?_) (fun hc => ?_) <;> (try (simp (disch := decide) only [up_n, up_s, cp_n, rw_n, rw_s, up1_, if_true, if_false, ite_true, ite_false, reduceIte, eq_self, Int.reduceEq, true_and, and_true, not_true_eq_false, not_false_eq_true] at hc)) <;> (try (exfalso; omega))) | (refine fun (hc : ¬ _) => ?_; try (simp (disch := decide) only [up_n, up_s, cp_n, rw_n, rw_s, up1_, if_true, if_false, ite_true, ite_false, reduceIte, eq_self, Int.reduceEq, true_and, and_true, not_true_eq_false, not_false_eq_true] at hc)) | (refine fun (hc : _ = _) => ?_; try (simp (disch := decide) only [up_n, up_s, cp_n, rw_n, rw_s, up1_, if_true, if_false, ite_true, ite_false, reduceIte, eq_self, Int.reduceEq, true_and, and_true, not_true_eq_false, not_false_eq_true] at hc)))
    all_goals first | (exfalso; omega) | skip
    all_goals (show fr_Run 180 none 25 _ _ _ _ 0 0 Q)
    simp (disch := decide) only [up_n, up_s, cp_n, rw_n, rw_s, up1_, if_true, if_false, ite_true, ite_false, reduceIte, eq_self, Int.reduceEq, true_and, and_true, not_true_eq_false, not_false_eq_true]
    rw [e1, ha2]
    refine fr_go k180 [43] 400 rfl ?_
    repeat' (first | (refine And.intro (by first | omega | (simp (disch := decide) only [up_n, up_s, cp_n, rw_n, rw_s, up1_, if_true, if_false, ite_true, ite_false, reduceIte, eq_self, Int.reduceEq, true_and, and_true, not_true_eq_false, not_false_eq_true]; omega)) ?_) | (refine And.intro (fun hc => ?_) (fun hc => ?_) <;> (try (simp (disch := decide) only [up_n, up_s, cp_n, rw_n, rw_s, up1_, if_true, if_false, ite_true, ite_false, reduceIte, eq_self, Int.reduceEq, true_and, and_true, not_true_eq_false, not_false_eq_true] at hc)) <;> (try (exfalso; omega))) | (refine fun (hc : ¬ _) => ?_; try (simp (disch := decide) only [up_n, up_s, cp_n, rw_n, rw_s, up1_, if_true, if_false, ite_true, ite_false, reduceIte, eq_self, Int.reduceEq, true_and, and_true, not_true_eq_false, not_false_eq_true] at hc)) | (refine fun (hc : _ = _) => ?_; try (simp (disch := decide) only [up_n, up_s, cp_n, rw_n, rw_s, up1_, if_true, if_false, ite_true, ite_false, reduceIte, eq_self, Int.reduceEq, true_and, and_true, not_true_eq_false, not_false_eq_true] at hc)))
    all_goals (show fr_Run 180 none 43 _ _ _ _ 0 0 Q)
    simp (disch := decide) only [up_n, up_s, cp_n, rw_n, rw_s, up1_, if_true, if_false, ite_true, ite_false, reduceIte, eq_self, Int.reduceEq, true_and, and_true, not_true_eq_false, not_false_eq_true]
    rw [← hwsz]
    simp (disch := decide) only [up_rw, rw_u, up_up, rw_rw, rw_cm]
    by_cases h01 : M 82 (ln p k) ≤ 1
    · have ee : ed p lg (ln p k) (al p (pos p lg k) + p 80 (ln p k)) = al p (pos p lg k) + p 80 (ln p k) + 1 := by
        unfold ed
        rw [ek, if_pos h01]
      have hh := h147 g104 ⟨fun q => absurd (tg0_k q) (by omega), fun q => absurd (tg1_k q) (by omega), fun s _ _ => rfl⟩
      rw [ee] at hh
      clear h147
      refine fr_go k180 [147] 400 rfl ?_
      repeat' (first | (refine And.intro (by first | omega | (simp (disch := decide) only [up_n, up_s, cp_n, rw_n, rw_s, up1_, if_true, if_false, ite_true, ite_false, reduceIte, eq_self, Int.reduceEq, true_and, and_true, not_true_eq_false, not_false_eq_true]; omega)) ?_) | (refine And.intro (fun hc => ?_) (fun hc => ?_) <;> (try (simp (disch := decide) only [up_n, up_s, cp_n, rw_n, rw_s, up1_, if_true, if_false, ite_true, ite_false, reduceIte, eq_self, Int.reduceEq, true_and, and_true, not_true_eq_false, not_false_eq_true] at hc)) <;> (try (exfalso; omega))) | (refine fun (hc : ¬ _) => ?_; try (simp (disch := decide) only [up_n, up_s, cp_n, rw_n, rw_s, up1_, if_true, if_false, ite_true, ite_false, reduceIte, eq_self, Int.reduceEq, true_and, and_true, not_true_eq_false, not_false_eq_true] at hc)) | (refine fun (hc : _ = _) => ?_; try (simp (disch := decide) only [up_n, up_s, cp_n, rw_n, rw_s, up1_, if_true, if_false, ite_true, ite_false, reduceIte, eq_self, Int.reduceEq, true_and, and_true, not_true_eq_false, not_false_eq_true] at hc)))
      all_goals first | (exfalso; omega) | exact hh
    · by_cases h4 : M 82 (ln p k) = 4
      · have ee : ed p lg (ln p k) (al p (pos p lg k) + p 80 (ln p k)) = (al p (pos p lg k) + p 80 (ln p k) + 5) / 4 * 4 + 4 * M 83 (ln p k) := by
          unfold ed
          rw [ek, if_neg h01, if_pos h4, en]
        have hh := h147 g104 ⟨fun q => absurd (tg0_k q) (by omega), fun q => absurd (tg1_k q) (by omega), fun s _ _ => rfl⟩
        rw [ee] at hh
        clear h147
        refine fr_go k180 [147] 400 rfl ?_
        repeat' (first | (refine And.intro (by first | omega | (simp (disch := decide) only [up_n, up_s, cp_n, rw_n, rw_s, up1_, if_true, if_false, ite_true, ite_false, reduceIte, eq_self, Int.reduceEq, true_and, and_true, not_true_eq_false, not_false_eq_true]; omega)) ?_) | (refine And.intro (fun hc => ?_) (fun hc => ?_) <;> (try (simp (disch := decide) only [up_n, up_s, cp_n, rw_n, rw_s, up1_, if_true, if_false, ite_true, ite_false, reduceIte, eq_self, Int.reduceEq, true_and, and_true, not_true_eq_false, not_false_eq_true] at hc)) <;> (try (exfalso; omega))) | (refine fun (hc : ¬ _) => ?_; try (simp (disch := decide) only [up_n, up_s, cp_n, rw_n, rw_s, up1_, if_true, if_false, ite_true, ite_false, reduceIte, eq_self, Int.reduceEq, true_and, and_true, not_true_eq_false, not_false_eq_true] at hc)) | (refine fun (hc : _ = _) => ?_; try (simp (disch := decide) only [up_n, up_s, cp_n, rw_n, rw_s, up1_, if_true, if_false, ite_true, ite_false, reduceIte, eq_self, Int.reduceEq, true_and, and_true, not_true_eq_false, not_false_eq_true] at hc)))
        all_goals first | (exfalso; omega) | exact hh
      · have ee : ed p lg (ln p k) (al p (pos p lg k) + p 80 (ln p k)) = al p (pos p lg k) + p 80 (ln p k) + c5 p (ln p k) + s0 p lg (ln p k) + s1 p lg (ln p k) := by
          unfold ed
          rw [ek, if_neg h01, if_neg h4]
        rw [ee] at h147
        have hj := m_lo_j (M := rw_ (rw_ (rw_ M 98 (up1 g98 (ln p k) (al p (pos p lg k)))) 99 (up1 g99 (ln p k) (al p (pos p lg k) + p 80 (ln p k)))) 100 g100) (p := p) (lg := lg) (b := ln p k) (x := al p (pos p lg k) + p 80 (ln p k)) (i := (k : Int)) (g := g104) (Q := Q) (by omega) (by omega) ek hs0.1 hs1.1 (by have := tg0_rng hw hr; omega) (by have := tg1_rng hw hr; omega) hs0.2.1 hs1.2.1 hs0.2.2 hs1.2.2 h147
        clear h147
        refine fr_go k180 [73] 400 rfl ?_
        repeat' (first | (refine And.intro (by first | omega | (simp (disch := decide) only [up_n, up_s, cp_n, rw_n, rw_s, up1_, if_true, if_false, ite_true, ite_false, reduceIte, eq_self, Int.reduceEq, true_and, and_true, not_true_eq_false, not_false_eq_true]; omega)) ?_) | (refine And.intro (fun hc => ?_) (fun hc => ?_) <;> (try (simp (disch := decide) only [up_n, up_s, cp_n, rw_n, rw_s, up1_, if_true, if_false, ite_true, ite_false, reduceIte, eq_self, Int.reduceEq, true_and, and_true, not_true_eq_false, not_false_eq_true] at hc)) <;> (try (exfalso; omega))) | (refine fun (hc : ¬ _) => ?_; try (simp (disch := decide) only [up_n, up_s, cp_n, rw_n, rw_s, up1_, if_true, if_false, ite_true, ite_false, reduceIte, eq_self, Int.reduceEq, true_and, and_true, not_true_eq_false, not_false_eq_true] at hc)) | (refine fun (hc : _ = _) => ?_; try (simp (disch := decide) only [up_n, up_s, cp_n, rw_n, rw_s, up1_, if_true, if_false, ite_true, ite_false, reduceIte, eq_self, Int.reduceEq, true_and, and_true, not_true_eq_false, not_false_eq_true] at hc)))
        all_goals first | (exfalso; omega) | exact hj
set_option maxHeartbeats 4000000 in
set_option maxRecDepth 100000 in
theorem m_laysOut {M p : fr_M} {lg : Int → Int} {Q : Option fr_V → fr_H → fr_M → Prop} (hp : pg M = p) (hw : WF p) (hl : MC p lg M) (h : ∀ g98 g99 g100 g104, MI p lg (cN p) g98 g99 g100 g104 → Q none sh0 (rw_ (rw_ (rw_ (rw_ (fr_up M 75 38 (pos p lg (cN p))) 98 g98) 99 g99) 100 g100) 104 g104)) : fr_Call 180 [.inr (.inl 75)] sh0 M Q := by
  have hh := m_lo_l (lg := lg) hp hw hl h (cN p) 0 (M 98) (M 99) (M 100) (M 104) none (by omega) (fun j hj => absurd hj (by omega))
  rw [rw_id, rw_id, rw_id, rw_id] at hh
  refine fr_cgo k180 [some (.inr (.inl 75)), none, none, none] 0 0 [4] 400 rfl rfl rfl rfl ?_
  repeat' (first | (refine And.intro (by first | omega | (simp (disch := decide) only [up_n, up_s, cp_n, rw_n, rw_s, up1_, if_true, if_false, ite_true, ite_false, reduceIte, eq_self, Int.reduceEq, true_and, and_true, not_true_eq_false, not_false_eq_true]; omega)) ?_) | (refine And.intro (fun hc => ?_) (fun hc => ?_) <;> (try (simp (disch := decide) only [up_n, up_s, cp_n, rw_n, rw_s, up1_, if_true, if_false, ite_true, ite_false, reduceIte, eq_self, Int.reduceEq, true_and, and_true, not_true_eq_false, not_false_eq_true] at hc)) <;> (try (exfalso; omega))) | (refine fun (hc : ¬ _) => ?_; try (simp (disch := decide) only [up_n, up_s, cp_n, rw_n, rw_s, up1_, if_true, if_false, ite_true, ite_false, reduceIte, eq_self, Int.reduceEq, true_and, and_true, not_true_eq_false, not_false_eq_true] at hc)) | (refine fun (hc : _ = _) => ?_; try (simp (disch := decide) only [up_n, up_s, cp_n, rw_n, rw_s, up1_, if_true, if_false, ite_true, ite_false, reduceIte, eq_self, Int.reduceEq, true_and, and_true, not_true_eq_false, not_false_eq_true] at hc)))
  exact hh
