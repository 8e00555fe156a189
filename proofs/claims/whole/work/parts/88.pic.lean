set_option maxHeartbeats 4000000 in
set_option maxRecDepth 100000 in
theorem c_wblock {N p : fr_M} {lg : Int → Int} {b a : Int} {g : Int → Int} {Q : Option fr_V → fr_H → fr_M → Prop} (hw : WF p) (hb : 0 ≤ b ∧ b < p 75 4) (hN : WN p lg N) (ha : 0 ≤ a ∧ a ≤ ad p lg b) (h : ∀ g', WB p lg b a g g' → Q none sh0 (rw_ (fr_up N 39 5 (be p lg b)) 40 g')) : fr_Call 69 [.inr (.inl 39), .inl b] sh0 (rw_ (fr_up N 39 5 a) 40 g) Q := by
  have h40 := hw.1.1
  obtain ⟨e32, e37, e6, e7, e8⟩ := hN.1 b hb.1 hb.2
  have hab := ad_b hw (lg := lg) hb
  have hsz := (hw.2.2.2.2.2.1 b hb.1 hb.2).1
  refine fr_cgo k69 [some (.inr (.inl 39)), some (.inl b)] 0 0 [15] 400 rfl rfl rfl rfl ?_
  repeat' (first | (refine And.intro (by first | omega | (simp (disch := decide) only [up_n, up_s, cp_n, rw_n, rw_s, up1_, if_true, if_false, ite_true, ite_false, reduceIte, eq_self, Int.reduceEq, true_and, and_true, not_true_eq_false, not_false_eq_true]; omega)) ?_) | (refine And.intro (fun hc => ?_) (fun hc => ?_) <;> (try (simp (disch := decide) only [up_n, up_s, cp_n, rw_n, rw_s, up1_, if_true, if_false, ite_true, ite_false, reduceIte, eq_self, Int.reduceEq, true_and, and_true, not_true_eq_false, not_false_eq_true] at hc)) <;> (try (exfalso; omega))) | (refine fun (hc : ¬ _) => ?_; try (simp (disch := decide) only [up_n, up_s, cp_n, rw_n, rw_s, up1_, if_true, if_false, ite_true, ite_false, reduceIte, eq_self, Int.reduceEq, true_and, and_true, not_true_eq_false, not_false_eq_true] at hc)) | (refine fun (hc : _ = _) => ?_; try (simp (disch := decide) only [up_n, up_s, cp_n, rw_n, rw_s, up1_, if_true, if_false, ite_true, ite_false, reduceIte, eq_self, Int.reduceEq, true_and, and_true, not_true_eq_false, not_false_eq_true] at hc)))
  all_goals (show fr_Call 64 [.inr (.inl 39), .inl _, .inl 144] sh0 _ _)
  simp (disch := decide) only [up_n, up_s, cp_n, rw_n, rw_s, up1_, if_true, if_false, ite_true, ite_false, reduceIte, eq_self, Int.reduceEq, true_and, and_true, not_true_eq_false, not_false_eq_true]
  rw [e32]
  refine c_fill (by omega) (by omega) (by omega) (by omega) (fun g1 hg1 => ?_)
  repeat' (first | (refine And.intro (by first | omega | (simp (disch := decide) only [up_n, up_s, cp_n, rw_n, rw_s, up1_, if_true, if_false, ite_true, ite_false, reduceIte, eq_self, Int.reduceEq, true_and, and_true, not_true_eq_false, not_false_eq_true]; omega)) ?_) | (refine And.intro (fun hc => ?_) (fun hc => ?_) <;> (try (simp (disch := decide) only [up_n, up_s, cp_n, rw_n, rw_s, up1_, if_true, if_false, ite_true, ite_false, reduceIte, eq_self, Int.reduceEq, true_and, and_true, not_true_eq_false, not_false_eq_true] at hc)) <;> (try (exfalso; omega))) | (refine fun (hc : ¬ _) => ?_; try (simp (disch := decide) only [up_n, up_s, cp_n, rw_n, rw_s, up1_, if_true, if_false, ite_true, ite_false, reduceIte, eq_self, Int.reduceEq, true_and, and_true, not_true_eq_false, not_false_eq_true] at hc)) | (refine fun (hc : _ = _) => ?_; try (simp (disch := decide) only [up_n, up_s, cp_n, rw_n, rw_s, up1_, if_true, if_false, ite_true, ite_false, reduceIte, eq_self, Int.reduceEq, true_and, and_true, not_true_eq_false, not_false_eq_true] at hc)))
  refine c_endAddress (by omega) (by simp (disch := decide) only [up_n, up_s, cp_n, rw_n, rw_s, up1_, if_true, if_false, ite_true, ite_false, reduceIte, eq_self, Int.reduceEq, true_and, and_true, not_true_eq_false, not_false_eq_true]; omega) ?_
  repeat' (first | (refine And.intro (by first | omega | (simp (disch := decide) only [up_n, up_s, cp_n, rw_n, rw_s, up1_, if_true, if_false, ite_true, ite_false, reduceIte, eq_self, Int.reduceEq, true_and, and_true, not_true_eq_false, not_false_eq_true]; omega)) ?_) | (refine And.intro (fun hc => ?_) (fun hc => ?_) <;> (try (simp (disch := decide) only [up_n, up_s, cp_n, rw_n, rw_s, up1_, if_true, if_false, ite_true, ite_false, reduceIte, eq_self, Int.reduceEq, true_and, and_true, not_true_eq_false, not_false_eq_true] at hc)) <;> (try (exfalso; omega))) | (refine fun (hc : ¬ _) => ?_; try (simp (disch := decide) only [up_n, up_s, cp_n, rw_n, rw_s, up1_, if_true, if_false, ite_true, ite_false, reduceIte, eq_self, Int.reduceEq, true_and, and_true, not_true_eq_false, not_false_eq_true] at hc)) | (refine fun (hc : _ = _) => ?_; try (simp (disch := decide) only [up_n, up_s, cp_n, rw_n, rw_s, up1_, if_true, if_false, ite_true, ite_false, reduceIte, eq_self, Int.reduceEq, true_and, and_true, not_true_eq_false, not_false_eq_true] at hc)))
  all_goals (show fr_Call 64 [.inr (.inl 39), .inl _, .inl b] sh0 _ _)
  simp (disch := decide) only [up_n, up_s, cp_n, rw_n, rw_s, up1_, if_true, if_false, ite_true, ite_false, reduceIte, eq_self, Int.reduceEq, true_and, and_true, not_true_eq_false, not_false_eq_true]
  rw [e32, e6, ← hab.2.1]
  refine c_fill (by omega) (by omega) (by omega) (by omega) (fun g2 hg2 => ?_)
  repeat' (first | (refine And.intro (by first | omega | (simp (disch := decide) only [up_n, up_s, cp_n, rw_n, rw_s, up1_, if_true, if_false, ite_true, ite_false, reduceIte, eq_self, Int.reduceEq, true_and, and_true, not_true_eq_false, not_false_eq_true]; omega)) ?_) | (refine And.intro (fun hc => ?_) (fun hc => ?_) <;> (try (simp (disch := decide) only [up_n, up_s, cp_n, rw_n, rw_s, up1_, if_true, if_false, ite_true, ite_false, reduceIte, eq_self, Int.reduceEq, true_and, and_true, not_true_eq_false, not_false_eq_true] at hc)) <;> (try (exfalso; omega))) | (refine fun (hc : ¬ _) => ?_; try (simp (disch := decide) only [up_n, up_s, cp_n, rw_n, rw_s, up1_, if_true, if_false, ite_true, ite_false, reduceIte, eq_self, Int.reduceEq, true_and, and_true, not_true_eq_false, not_false_eq_true] at hc)) | (refine fun (hc : _ = _) => ?_; try (simp (disch := decide) only [up_n, up_s, cp_n, rw_n, rw_s, up1_, if_true, if_false, ite_true, ite_false, reduceIte, eq_self, Int.reduceEq, true_and, and_true, not_true_eq_false, not_false_eq_true] at hc)))
  refine c_wend hw hb hN (fun g' h3 h4 => ?_)
  refine h g' (WB.of (by omega) (by omega) (fun j => ?_) h3 h4)
  rw [hg2 j]
  by_cases e : ad p lg b ≤ j ∧ j < ea p lg b
  · rw [if_pos e, if_pos e]
  · rw [if_neg e, if_neg e, hg1 j]
theorem g41 {N : fr_M} {h g : Int → Int} {a b v : Int} : fr_up (rw_ (fr_up (rw_ N 41 h) 39 5 a) 40 g) 41 b v = rw_ (fr_up (rw_ N 41 (up1 h b v)) 39 5 a) 40 g := by
  rw [up_rw (by decide), up_rw (k := 39) (r := 41) (by decide), rw_u, ← up_rw (k := 39) (r := 41) (by decide)]
set_option maxHeartbeats 4000000 in
set_option maxRecDepth 100000 in
theorem c_wguard {N p : fr_M} {lg : Int → Int} {b a : Int} {h g : Int → Int} {Q : Option fr_V → fr_H → fr_M → Prop} (hw : WF p) (hb : 0 ≤ b ∧ b < p 75 4) (hN : WN p lg N) (ha : 0 ≤ a ∧ a + 8 ≤ 9760) (h0 : p 82 b ≠ 6 → Q none sh0 (rw_ (fr_up (rw_ N 41 (up1 h b (-1))) 39 5 a) 40 g)) (h1 : p 82 b = 6 → Q none sh0 (rw_ (fr_up (rw_ N 41 (up1 (up1 h b (-1)) b a)) 39 5 (a + 8)) 40 (wr (wr g a (ad p lg b)) (a + 4) (ad p lg (w1 p b))))) : fr_Call 70 [.inr (.inl 39), .inl b] sh0 (rw_ (fr_up (rw_ N 41 h) 39 5 a) 40 g) Q := by
  have h40 := hw.1.1
  obtain ⟨n1, n2, n3, n4⟩ := hN
  obtain ⟨e32, e37, e6, e7, e8⟩ := n1 b hb.1 hb.2
  have hab := (ad_b hw (lg := lg) hb).1
  by_cases hk : p 82 b = 6
  · have hh := h1 hk
    have hwr := (w_rng hw hb).2 (by omega)
    have hn2 := (hw.2.2.2.2.2.1 b hb.1 hb.2).2.2.2.2.2.1 (by omega)
    have e11 : N 11 (b * 4 + 1) = w1 p b := n3 b 1 hb.1 hb.2 (by omega) (by omega)
    have e32w := (n1 _ hwr.1 hwr.2).1
    have haw := (ad_b hw (lg := lg) hwr).1
    have e32' : N 32 (N 11 (b * 4 + 1)) = ad p lg (w1 p b) := by rw [e11]; exact e32w
    clear h0 h1 n1 n2 n3 n4
    refine fr_cgo k70 [some (.inr (.inl 39)), some (.inl b)] 0 0 [] 400 rfl rfl rfl rfl ?_
    repeat' (first | (refine And.intro (by first | omega | (simp (disch := decide) only [up_n, up_s, cp_n, rw_n, rw_s, up1_, if_true, if_false, ite_true, ite_false, reduceIte, eq_self, Int.reduceEq, true_and, and_true, not_true_eq_false, not_false_eq_true]; omega)) ?_) | (refine And.intro (fun hc => ?_) (fun hc => ?_) <;> (try (simp (disch := decide) only [up_n, up_s, cp_n, rw_n, rw_s, up1_, if_true, if_false, ite_true, ite_false, reduceIte, eq_self, Int.reduceEq, true_and, and_true, not_true_eq_false, not_false_eq_true] at hc)) <;> (try (exfalso; omega))) | (refine fun (hc : ¬ _) => ?_; try (simp (disch := decide) only [up_n, up_s, cp_n, rw_n, rw_s, up1_, if_true, if_false, ite_true, ite_false, reduceIte, eq_self, Int.reduceEq, true_and, and_true, not_true_eq_false, not_false_eq_true] at hc)) | (refine fun (hc : _ = _) => ?_; try (simp (disch := decide) only [up_n, up_s, cp_n, rw_n, rw_s, up1_, if_true, if_false, ite_true, ite_false, reduceIte, eq_self, Int.reduceEq, true_and, and_true, not_true_eq_false, not_false_eq_true] at hc)))
    all_goals first | (exfalso; omega) | (exfalso; simp (disch := decide) only [up_n, up_s, cp_n, rw_n, rw_s, up1_, if_true, if_false, ite_true, ite_false, reduceIte, eq_self, Int.reduceEq, true_and, and_true, not_true_eq_false, not_false_eq_true] at *; omega) | skip
    all_goals (show fr_Call 65 [.inr (.inl 39), .inl _] sh0 _ _)
    simp (disch := decide) only [up_n, up_s, cp_n, rw_n, rw_s, up1_, if_true, if_false, ite_true, ite_false, reduceIte, eq_self, Int.reduceEq, true_and, and_true, not_true_eq_false, not_false_eq_true]
    rw [e32, g41, g41]
    refine c_word (by omega) (by omega) ?_
    repeat' (first | (refine And.intro (by first | omega | (simp (disch := decide) only [up_n, up_s, cp_n, rw_n, rw_s, up1_, if_true, if_false, ite_true, ite_false, reduceIte, eq_self, Int.reduceEq, true_and, and_true, not_true_eq_false, not_false_eq_true]; omega)) ?_) | (refine c_wayOf (by omega) (by omega) (fun hc => ?_) (fun hc => ?_) <;> (try (simp (disch := decide) only [up_n, up_s, cp_n, rw_n, rw_s, up1_, if_true, if_false, ite_true, ite_false, reduceIte, eq_self, Int.reduceEq, true_and, and_true, not_true_eq_false, not_false_eq_true] at hc))) | (refine And.intro (fun hc => ?_) (fun hc => ?_) <;> (try (simp (disch := decide) only [up_n, up_s, cp_n, rw_n, rw_s, up1_, if_true, if_false, ite_true, ite_false, reduceIte, eq_self, Int.reduceEq, true_and, and_true, not_true_eq_false, not_false_eq_true] at hc)) <;> (try (exfalso; omega))) | (refine fun (hc : ¬ _) => ?_; try (simp (disch := decide) only [up_n, up_s, cp_n, rw_n, rw_s, up1_, if_true, if_false, ite_true, ite_false, reduceIte, eq_self, Int.reduceEq, true_and, and_true, not_true_eq_false, not_false_eq_true] at hc)) | (refine fun (hc : _ = _) => ?_; try (simp (disch := decide) only [up_n, up_s, cp_n, rw_n, rw_s, up1_, if_true, if_false, ite_true, ite_false, reduceIte, eq_self, Int.reduceEq, true_and, and_true, not_true_eq_false, not_false_eq_true] at hc)))
    all_goals first | (exfalso; omega) | (exfalso; simp (disch := decide) only [up_n, up_s, cp_n, rw_n, rw_s, up1_, if_true, if_false, ite_true, ite_false, reduceIte, eq_self, Int.reduceEq, true_and, and_true, not_true_eq_false, not_false_eq_true] at *; omega) | skip
    all_goals (show fr_Call 65 [.inr (.inl 39), .inl _] sh0 _ _)
    simp (disch := decide) only [up_n, up_s, cp_n, rw_n, rw_s, up1_, if_true, if_false, ite_true, ite_false, reduceIte, eq_self, Int.reduceEq, true_and, and_true, not_true_eq_false, not_false_eq_true]
    rw [e32']
    refine c_word (by omega) (by omega) ?_
    repeat' (first | (refine And.intro (by first | omega | (simp (disch := decide) only [up_n, up_s, cp_n, rw_n, rw_s, up1_, if_true, if_false, ite_true, ite_false, reduceIte, eq_self, Int.reduceEq, true_and, and_true, not_true_eq_false, not_false_eq_true]; omega)) ?_) | (refine And.intro (fun hc => ?_) (fun hc => ?_) <;> (try (simp (disch := decide) only [up_n, up_s, cp_n, rw_n, rw_s, up1_, if_true, if_false, ite_true, ite_false, reduceIte, eq_self, Int.reduceEq, true_and, and_true, not_true_eq_false, not_false_eq_true] at hc)) <;> (try (exfalso; omega))) | (refine fun (hc : ¬ _) => ?_; try (simp (disch := decide) only [up_n, up_s, cp_n, rw_n, rw_s, up1_, if_true, if_false, ite_true, ite_false, reduceIte, eq_self, Int.reduceEq, true_and, and_true, not_true_eq_false, not_false_eq_true] at hc)) | (refine fun (hc : _ = _) => ?_; try (simp (disch := decide) only [up_n, up_s, cp_n, rw_n, rw_s, up1_, if_true, if_false, ite_true, ite_false, reduceIte, eq_self, Int.reduceEq, true_and, and_true, not_true_eq_false, not_false_eq_true] at hc)))
    show Q none sh0 _
    rw [show a + 4 + 4 = a + 8 by omega]
    exact hh
  · have hh := h0 hk
    clear h0 h1 n1 n2 n3 n4
    refine fr_cgo k70 [some (.inr (.inl 39)), some (.inl b)] 0 0 [] 400 rfl rfl rfl rfl ?_
    repeat' (first | (refine And.intro (by first | omega | (simp (disch := decide) only [up_n, up_s, cp_n, rw_n, rw_s, up1_, if_true, if_false, ite_true, ite_false, reduceIte, eq_self, Int.reduceEq, true_and, and_true, not_true_eq_false, not_false_eq_true]; omega)) ?_) | (refine And.intro (fun hc => ?_) (fun hc => ?_) <;> (try (simp (disch := decide) only [up_n, up_s, cp_n, rw_n, rw_s, up1_, if_true, if_false, ite_true, ite_false, reduceIte, eq_self, Int.reduceEq, true_and, and_true, not_true_eq_false, not_false_eq_true] at hc)) <;> (try (exfalso; omega))) | (refine fun (hc : ¬ _) => ?_; try (simp (disch := decide) only [up_n, up_s, cp_n, rw_n, rw_s, up1_, if_true, if_false, ite_true, ite_false, reduceIte, eq_self, Int.reduceEq, true_and, and_true, not_true_eq_false, not_false_eq_true] at hc)) | (refine fun (hc : _ = _) => ?_; try (simp (disch := decide) only [up_n, up_s, cp_n, rw_n, rw_s, up1_, if_true, if_false, ite_true, ite_false, reduceIte, eq_self, Int.reduceEq, true_and, and_true, not_true_eq_false, not_false_eq_true] at hc)))
    all_goals first | (exfalso; omega) | (exfalso; simp (disch := decide) only [up_n, up_s, cp_n, rw_n, rw_s, up1_, if_true, if_false, ite_true, ite_false, reduceIte, eq_self, Int.reduceEq, true_and, and_true, not_true_eq_false, not_false_eq_true] at *; omega) | skip
    show Q none sh0 _
    rw [g41]
    exact hh
theorem pos_mono {p : fr_M} (hw : WF p) {lg : Int → Int} {j : Nat} : ∀ {k : Nat}, j ≤ k → k ≤ cN p → pos p lg j ≤ pos p lg k
  | 0, h, _ => by rw [show j = 0 by omega]; exact Int.le_refl _
  | k + 1, h, hk => by
    by_cases e : j = k + 1
    · rw [e]; exact Int.le_refl _
    · have ih := pos_mono hw (lg := lg) (j := j) (k := k) (by omega) (by omega)
      have a := al_b hw (pos p lg k)
      have hr := ln_rng hw (k := k) (by omega)
      have s := (hw.2.2.2.2.2.1 _ hr.1 hr.2).1
      have e := ed_b hw (lg := lg) (b := ln p k) (x := al p (pos p lg k) + p 80 (ln p k)) hr
      rw [pos]
      omega
theorem gd_mono {p : fr_M} {j : Nat} : ∀ {k : Nat}, j ≤ k → gd p j ≤ gd p k
  | 0, h => by rw [show j = 0 by omega]; exact Int.le_refl _
  | k + 1, h => by
    by_cases e : j = k + 1
    · rw [e]; exact Int.le_refl _
    · have ih := gd_mono (p := p) (j := j) (k := k) (by omega)
      rw [gd]
      split <;> omega
/-- the bytes of the first k of THE ROW -/
def PB (p : fr_M) (lg : Int → Int) (k : Nat) (g : Int → Int) : Prop := ∀ j : Nat, j < k → (∀ i, pos p lg j ≤ i → i < al p (pos p lg j) → g i = -112) ∧ (∀ i, ad p lg (ln p j) ≤ i → i < ea p lg (ln p j) → g i = ln p j) ∧ (∀ i, 0 ≤ i → i < be p lg (ln p j) - ea p lg (ln p j) → g (ea p lg (ln p j) + i) = sg (eb p lg (ln p j) i))
theorem PB.keep {p : fr_M} (hw : WF p) {lg : Int → Int} {k : Nat} {g g' : Int → Int} (hk : k ≤ cN p) (h : PB p lg k g) (e : ∀ i, i < pos p lg k → g' i = g i) : PB p lg k g' := by
  intro j hj
  obtain ⟨a1, a2, a3⟩ := h j hj
  have hm := pos_mono hw (lg := lg) (j := j + 1) (k := k) (by omega) hk
  have hbe := be_ln hw (lg := lg) (k := j) (by omega)
  have had := ad_ln hw (lg := lg) (k := j) (by omega)
  have hr := ln_rng hw (k := j) (by omega)
  have hab := ad_b hw (lg := lg) hr
  have s := (hw.2.2.2.2.2.1 _ hr.1 hr.2).1
  refine ⟨fun i q0 q1 => ?_, fun i q0 q1 => ?_, fun i q0 q1 => ?_⟩
  · rw [e i (by omega)]
    exact a1 i q0 q1
  · rw [e i (by omega)]
    exact a2 i q0 q1
  · rw [e _ (by omega)]
    exact a3 i q0 q1
theorem PB.step {p : fr_M} (hw : WF p) {lg : Int → Int} {k : Nat} {g g' : Int → Int} (hk : k < cN p) (h : PB p lg k g) (hb : WB p lg (ln p k) (pos p lg k) g g') : PB p lg (k + 1) g' := by
  have had := ad_ln hw (lg := lg) hk
  intro j hj
  by_cases e : j = k
  · subst e
    refine ⟨fun i q0 q1 => (hb i).1 ⟨q0, by omega⟩, fun i q0 q1 => (hb i).2.1 ⟨q0, q1⟩, fun i q0 q1 => ?_⟩
    have := (hb (ea p lg (ln p j) + i)).2.2.1 (by omega)
    rw [show ea p lg (ln p j) + i - ea p lg (ln p j) = i by omega] at this
    exact this
  · exact (h.keep hw (by omega) (fun i q => (hb i).2.2.2 (Or.inl q))) j (by omega)
