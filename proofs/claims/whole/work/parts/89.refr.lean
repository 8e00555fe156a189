theorem Rel.scr0 {n : Int} {M M' : fr_M} (h : Rel n M) (e : ∀ k i, ¬ sc k i → M' k i = M k i) (hl : RL n M') : Rel n M' := by
  have h0 := h.1
  obtain ⟨a1, a2, a3, a4, a5, a6, a7⟩ := hl.in_
  have hh := h.scr (M' := M') e (RL.mk_ ⟨a1, a2, by omega, a4, a5, a6, a7⟩)
  obtain ⟨h0, h1, h2, h3, h4, h5, h6, h7, h8, o1, o2, o3, k1, k2, k3, k4, k5, t1, t2, s1, r1, r1', r2, r2', r3, r4, l⟩ := hh
  exact ⟨by assumption, h1, h2, h3, h4, h5, h6, h7, h8, o1, o2, o3, k1, k2, k3, k4, k5, t1, t2, s1, r1, r1', r2, r2', r3, r4, hl⟩
/-- THE TABLE behind all, for the first k of THE ROW -/
def GB (p : fr_M) (lg : Int → Int) (k : Nat) (g h : Int → Int) : Prop := ∀ j : Nat, j < k → (p 82 (ln p j) = 6 → ∀ i, 0 ≤ i → i < 8 → g (pos p lg (cN p) + 8 * gd p j + i) = sg (if i < 4 then byo (ad p lg (ln p j)) i else byo (ad p lg (w1 p (ln p j))) (i - 4))) ∧ h (ln p j) = if p 82 (ln p j) = 6 then pos p lg (cN p) + 8 * gd p j else -1
set_option maxHeartbeats 4000000 in
set_option maxRecDepth 100000 in
theorem c_rf_1 {N p : fr_M} {lg : Int → Int} {Q : Option fr_V → fr_H → fr_M → Prop} (hw : WF p) (hcc : N 1 1 = p 75 4) (h30 : ∀ k : Nat, (k : Int) < p 75 4 → N 30 (k : Int) = ln p k) (hN : WN p lg N) (h : ∀ g, PB p lg (cN p) g → fr_Run 71 none 34 [some (.inr (.inl 39)), some (.inl (cN p : Int))] [] sh0 (rw_ (fr_up N 39 5 (pos p lg (cN p))) 40 g) 0 0 Q) : ∀ (t k : Nat) (g : Int → Int), k + t = cN p → PB p lg k g → fr_Run 71 none 20 [some (.inr (.inl 39)), some (.inl (k : Int))] [] sh0 (rw_ (fr_up N 39 5 (pos p lg k)) 40 g) 0 0 Q := by
  have hcN := cN_40 hw
  intro t
  induction t with
  | zero =>
    intro k g q0 q1
    have e : k = cN p := by omega
    subst e
    have hh := h g q1
    clear h
    refine fr_go k71 [20, 34] 400 rfl ?_
    repeat' (first | (refine And.intro (by first | omega | (simp (disch := decide) only [up_n, up_s, cp_n, rw_n, rw_s, up1_, if_true, if_false, ite_true, ite_false, reduceIte, eq_self, Int.reduceEq, true_and, and_true, not_true_eq_false, not_false_eq_true]; omega)) ?_) | (refine And.intro (fun hc => ?_) (fun hc => ?_) <;> (try (simp (disch := decide) only [up_n, up_s, cp_n, rw_n, rw_s, up1_, if_true, if_false, ite_true, ite_false, reduceIte, eq_self, Int.reduceEq, true_and, and_true, not_true_eq_false, not_false_eq_true] at hc)) <;> (try (exfalso; omega))) | (refine fun (hc : ¬ _) => ?_; try (simp (disch := decide) only [up_n, up_s, cp_n, rw_n, rw_s, up1_, if_true, if_false, ite_true, ite_false, reduceIte, eq_self, Int.reduceEq, true_and, and_true, not_true_eq_false, not_false_eq_true] at hc)) | (refine fun (hc : _ = _) => ?_; try (simp (disch := decide) only [up_n, up_s, cp_n, rw_n, rw_s, up1_, if_true, if_false, ite_true, ite_false, reduceIte, eq_self, Int.reduceEq, true_and, and_true, not_true_eq_false, not_false_eq_true] at hc)))
    all_goals first | (exfalso; omega) | exact hh
  | succ t ih =>
    intro k g q0 q1
    have hk : k < cN p := by omega
    have hr := ln_rng hw hk
    have e1 := h30 k (by omega)
    have b1 := pos_b hw (lg := lg) (k := k) (by omega)
    have b2 := al_b hw (pos p lg k)
    have had := ad_ln hw (lg := lg) hk
    have hbe := be_ln hw (lg := lg) hk
    refine fr_go k71 [20] 400 rfl ?_
    repeat' (first | (refine And.intro (by first | omega | (simp (disch := decide) only [up_n, up_s, cp_n, rw_n, rw_s, up1_, if_true, if_false, ite_true, ite_false, reduceIte, eq_self, Int.reduceEq, true_and, and_true, not_true_eq_false, not_false_eq_true]; omega)) ?_) | (refine And.intro (fun hc => ?_) (fun hc => ?_) <;> (try (simp (disch := decide) only [up_n, up_s, cp_n, rw_n, rw_s, up1_, if_true, if_false, ite_true, ite_false, reduceIte, eq_self, Int.reduceEq, true_and, and_true, not_true_eq_false, not_false_eq_true] at hc)) <;> (try (exfalso; omega))) | (refine fun (hc : ¬ _) => ?_; try (simp (disch := decide) only [up_n, up_s, cp_n, rw_n, rw_s, up1_, if_true, if_false, ite_true, ite_false, reduceIte, eq_self, Int.reduceEq, true_and, and_true, not_true_eq_false, not_false_eq_true] at hc)) | (refine fun (hc : _ = _) => ?_; try (simp (disch := decide) only [up_n, up_s, cp_n, rw_n, rw_s, up1_, if_true, if_false, ite_true, ite_false, reduceIte, eq_self, Int.reduceEq, true_and, and_true, not_true_eq_false, not_false_eq_true] at hc)))
    all_goals first | (exfalso; omega) | skip
    all_goals (show fr_Call 69 [.inr (.inl 39), .inl _] sh0 _ _)
    simp (disch := decide) only [up_n, up_s, cp_n, rw_n, rw_s, up1_, if_true, if_false, ite_true, ite_false, reduceIte, eq_self, Int.reduceEq, true_and, and_true, not_true_eq_false, not_false_eq_true]
    rw [e1]
    refine c_wblock hw hr hN (by omega) (fun g' hg' => ?_)
    have hh := ih (k + 1) g' (by omega) (q1.step hw hk hg')
    rw [← hbe] at hh
    clear ih h
    repeat' (first | (refine And.intro (by first | omega | (simp (disch := decide) only [up_n, up_s, cp_n, rw_n, rw_s, up1_, if_true, if_false, ite_true, ite_false, reduceIte, eq_self, Int.reduceEq, true_and, and_true, not_true_eq_false, not_false_eq_true]; omega)) ?_) | (refine And.intro (fun hc => ?_) (fun hc => ?_) <;> (try (simp (disch := decide) only [up_n, up_s, cp_n, rw_n, rw_s, up1_, if_true, if_false, ite_true, ite_false, reduceIte, eq_self, Int.reduceEq, true_and, and_true, not_true_eq_false, not_false_eq_true] at hc)) <;> (try (exfalso; omega))) | (refine fun (hc : ¬ _) => ?_; try (simp (disch := decide) only [up_n, up_s, cp_n, rw_n, rw_s, up1_, if_true, if_false, ite_true, ite_false, reduceIte, eq_self, Int.reduceEq, true_and, and_true, not_true_eq_false, not_false_eq_true] at hc)) | (refine fun (hc : _ = _) => ?_; try (simp (disch := decide) only [up_n, up_s, cp_n, rw_n, rw_s, up1_, if_true, if_false, ite_true, ite_false, reduceIte, eq_self, Int.reduceEq, true_and, and_true, not_true_eq_false, not_false_eq_true] at hc)))
    exact hh
set_option maxHeartbeats 4000000 in
set_option maxRecDepth 100000 in
theorem c_rf_2 {N p : fr_M} {lg : Int → Int} {Q : Option fr_V → fr_H → fr_M → Prop} (hw : WF p) (hcc : N 1 1 = p 75 4) (h30 : ∀ k : Nat, (k : Int) < p 75 4 → N 30 (k : Int) = ln p k) (hN : WN p lg N) (h : ∀ g h' a, PB p lg (cN p) g → GB p lg (cN p) g h' → Q none sh0 (rw_ (fr_up (rw_ N 41 h') 39 5 a) 40 g)) : ∀ (t k : Nat) (g h' : Int → Int), k + t = cN p → PB p lg (cN p) g → GB p lg k g h' → fr_Run 71 none 36 [some (.inr (.inl 39)), some (.inl (k : Int))] [] sh0 (rw_ (fr_up (rw_ N 41 h') 39 5 (pos p lg (cN p) + 8 * gd p k)) 40 g) 0 0 Q := by
  have hcN := cN_40 hw
  have b1 := pos_b hw (lg := lg) (k := cN p) (by omega)
  intro t
  induction t with
  | zero =>
    intro k g h' q0 q1 q2
    have e : k = cN p := by omega
    subst e
    have hh := h g h' (pos p lg (cN p) + 8 * gd p (cN p)) q1 q2
    clear h
    refine fr_go k71 [36] 400 rfl ?_
    repeat' (first | (refine And.intro (by first | omega | (simp (disch := decide) only [up_n, up_s, cp_n, rw_n, rw_s, up1_, if_true, if_false, ite_true, ite_false, reduceIte, eq_self, Int.reduceEq, true_and, and_true, not_true_eq_false, not_false_eq_true]; omega)) ?_) | (refine And.intro (fun hc => ?_) (fun hc => ?_) <;> (try (simp (disch := decide) only [up_n, up_s, cp_n, rw_n, rw_s, up1_, if_true, if_false, ite_true, ite_false, reduceIte, eq_self, Int.reduceEq, true_and, and_true, not_true_eq_false, not_false_eq_true] at hc)) <;> (try (exfalso; omega))) | (refine fun (hc : ¬ _) => ?_; try (simp (disch := decide) only [up_n, up_s, cp_n, rw_n, rw_s, up1_, if_true, if_false, ite_true, ite_false, reduceIte, eq_self, Int.reduceEq, true_and, and_true, not_true_eq_false, not_false_eq_true] at hc)) | (refine fun (hc : _ = _) => ?_; try (simp (disch := decide) only [up_n, up_s, cp_n, rw_n, rw_s, up1_, if_true, if_false, ite_true, ite_false, reduceIte, eq_self, Int.reduceEq, true_and, and_true, not_true_eq_false, not_false_eq_true] at hc)))
    all_goals first | (exfalso; omega) | exact hh
  | succ t ih =>
    intro k g h' q0 q1 q2
    have hk : k < cN p := by omega
    have hr := ln_rng hw hk
    have e1 := h30 k (by omega)
    have b2 := gd_b (p := p) (k := k)
    have b3 := gd_b (p := p) (k := k + 1)
    have egd : gd p (k + 1) = gd p k + (if p 82 (ln p k) = 6 then 1 else 0) := rfl
    have hne : ∀ j : Nat, j < k → ln p j ≠ ln p k := fun j hj q => by have := ln_inj hw (by omega) hk q; omega
    refine fr_go k71 [36] 400 rfl ?_
    repeat' (first | (refine And.intro (by first | omega | (simp (disch := decide) only [up_n, up_s, cp_n, rw_n, rw_s, up1_, if_true, if_false, ite_true, ite_false, reduceIte, eq_self, Int.reduceEq, true_and, and_true, not_true_eq_false, not_false_eq_true]; omega)) ?_) | (refine And.intro (fun hc => ?_) (fun hc => ?_) <;> (try (simp (disch := decide) only [up_n, up_s, cp_n, rw_n, rw_s, up1_, if_true, if_false, ite_true, ite_false, reduceIte, eq_self, Int.reduceEq, true_and, and_true, not_true_eq_false, not_false_eq_true] at hc)) <;> (try (exfalso; omega))) | (refine fun (hc : ¬ _) => ?_; try (simp (disch := decide) only [up_n, up_s, cp_n, rw_n, rw_s, up1_, if_true, if_false, ite_true, ite_false, reduceIte, eq_self, Int.reduceEq, true_and, and_true, not_true_eq_false, not_false_eq_true] at hc)) | (refine fun (hc : _ = _) => ?_; try (simp (disch := decide) only [up_n, up_s, cp_n, rw_n, rw_s, up1_, if_true, if_false, ite_true, ite_false, reduceIte, eq_self, Int.reduceEq, true_and, and_true, not_true_eq_false, not_false_eq_true] at hc)))
    all_goals first | (exfalso; omega) | skip
    all_goals (show fr_Call 70 [.inr (.inl 39), .inl _] sh0 _ _)
    simp (disch := decide) only [up_n, up_s, cp_n, rw_n, rw_s, up1_, if_true, if_false, ite_true, ite_false, reduceIte, eq_self, Int.reduceEq, true_and, and_true, not_true_eq_false, not_false_eq_true]
    rw [e1]
    refine c_wguard hw hr hN (by omega) (fun hk6 => ?_) (fun hk6 => ?_)
    · rw [if_neg hk6] at egd
      have hh := ih (k + 1) g (up1 h' (ln p k) (-1)) (by omega) q1 (fun j hj => by
        by_cases e : j = k
        · rw [e, up1_, if_pos rfl, if_neg hk6]
          exact ⟨fun q => absurd q hk6, rfl⟩
        · have := q2 j (by omega)
          rw [up1_, if_neg (hne j (by omega))]
          exact this)
      rw [egd, show gd p k + 0 = gd p k by omega] at hh
      clear ih h
      repeat' (first | (refine And.intro (by first | omega | (simp (disch := decide) only [up_n, up_s, cp_n, rw_n, rw_s, up1_, if_true, if_false, ite_true, ite_false, reduceIte, eq_self, Int.reduceEq, true_and, and_true, not_true_eq_false, not_false_eq_true]; omega)) ?_) | (refine And.intro (fun hc => ?_) (fun hc => ?_) <;> (try (simp (disch := decide) only [up_n, up_s, cp_n, rw_n, rw_s, up1_, if_true, if_false, ite_true, ite_false, reduceIte, eq_self, Int.reduceEq, true_and, and_true, not_true_eq_false, not_false_eq_true] at hc)) <;> (try (exfalso; omega))) | (refine fun (hc : ¬ _) => ?_; try (simp (disch := decide) only [up_n, up_s, cp_n, rw_n, rw_s, up1_, if_true, if_false, ite_true, ite_false, reduceIte, eq_self, Int.reduceEq, true_and, and_true, not_true_eq_false, not_false_eq_true] at hc)) | (refine fun (hc : _ = _) => ?_; try (simp (disch := decide) only [up_n, up_s, cp_n, rw_n, rw_s, up1_, if_true, if_false, ite_true, ite_false, reduceIte, eq_self, Int.reduceEq, true_and, and_true, not_true_eq_false, not_false_eq_true] at hc)))
      exact hh
    · rw [if_pos hk6] at egd
      have hh := ih (k + 1) (wr (wr g (pos p lg (cN p) + 8 * gd p k) (ad p lg (ln p k))) (pos p lg (cN p) + 8 * gd p k + 4) (ad p lg (w1 p (ln p k)))) (up1 (up1 h' (ln p k) (-1)) (ln p k) (pos p lg (cN p) + 8 * gd p k)) (by omega) (q1.keep hw (Nat.le_refl _) (fun i q => by rw [wr_n (by omega), wr_n (by omega)])) (fun j hj => by
        by_cases e : j = k
        · rw [e, up1_, if_pos rfl, if_pos hk6]
          refine ⟨fun _ i y0 y1 => ?_, rfl⟩
          by_cases i4 : i < 4
          · rw [if_pos i4, wr_n (by omega), wr_at ⟨y0, i4⟩]
          · rw [if_neg i4]
            have := wr_at (g := wr g (pos p lg (cN p) + 8 * gd p k) (ad p lg (ln p k))) (a := pos p lg (cN p) + 8 * gd p k + 4) (v := ad p lg (w1 p (ln p k))) (m := i - 4) (by omega)
            rw [show pos p lg (cN p) + 8 * gd p k + 4 + (i - 4) = pos p lg (cN p) + 8 * gd p k + i by omega] at this
            exact this
        · have := q2 j (by omega)
          rw [up1_, if_neg (hne j (by omega)), up1_, if_neg (hne j (by omega))]
          refine ⟨fun z i y0 y1 => ?_, this.2⟩
          have hm := gd_mono (p := p) (j := j + 1) (k := k) (by omega)
          have hs : gd p (j + 1) = gd p j + (if p 82 (ln p j) = 6 then 1 else 0) := rfl
          rw [if_pos z] at hs
          rw [wr_n (by omega), wr_n (by omega)]
          exact this.1 z i y0 y1)
      rw [egd, show pos p lg (cN p) + 8 * (gd p k + 1) = pos p lg (cN p) + 8 * gd p k + 8 by omega] at hh
      clear ih h
      repeat' (first | (refine And.intro (by first | omega | (simp (disch := decide) only [up_n, up_s, cp_n, rw_n, rw_s, up1_, if_true, if_false, ite_true, ite_false, reduceIte, eq_self, Int.reduceEq, true_and, and_true, not_true_eq_false, not_false_eq_true]; omega)) ?_) | (refine And.intro (fun hc => ?_) (fun hc => ?_) <;> (try (simp (disch := decide) only [up_n, up_s, cp_n, rw_n, rw_s, up1_, if_true, if_false, ite_true, ite_false, reduceIte, eq_self, Int.reduceEq, true_and, and_true, not_true_eq_false, not_false_eq_true] at hc)) <;> (try (exfalso; omega))) | (refine fun (hc : ¬ _) => ?_; try (simp (disch := decide) only [up_n, up_s, cp_n, rw_n, rw_s, up1_, if_true, if_false, ite_true, ite_false, reduceIte, eq_self, Int.reduceEq, true_and, and_true, not_true_eq_false, not_false_eq_true] at hc)) | (refine fun (hc : _ = _) => ?_; try (simp (disch := decide) only [up_n, up_s, cp_n, rw_n, rw_s, up1_, if_true, if_false, ite_true, ite_false, reduceIte, eq_self, Int.reduceEq, true_and, and_true, not_true_eq_false, not_false_eq_true] at hc)))
      exact hh
theorem pic_of {p : fr_M} (hw : WF p) {lg : Int → Int} {N : fr_M} (h1 : PB p lg (cN p) (N 40)) (h2 : GB p lg (cN p) (N 40) (N 41)) : PicP p lg N := by
  have hcN := cN_40 hw
  have key : ∀ b, 0 ≤ b → b < p 75 4 → _ := fun b q0 q1 => h1 (ix p b) (ix_lt hw ⟨q0, q1⟩)
  refine ⟨fun k hk => (h1 k (by omega)).1, fun b q0 q1 => ?_, fun b q0 q1 => ?_, fun k hk => (h2 k (by omega)).1, fun k hk => (h2 k (by omega)).2⟩
  · have := (key b q0 q1).2.1
    rw [ln_ix hw ⟨q0, q1⟩] at this
    exact this
  · have := (key b q0 q1).2.2
    rw [ln_ix hw ⟨q0, q1⟩] at this
    exact this
theorem wn_of {n : Int} {M : fr_M} (hR : Rel n M) {T : Nat} (hT : LayP (pg M) T M) : WN (pg M) (lgT (pg M) T) M := by
  have hw := hR.wf
  obtain ⟨h0, h1, h2, h3, h4, h5, h6, h7, h8, o1, o2, o3, k1, k2, k3, k4, k5, t1, t2, s1, r1, r1', r2, r2', r3, r4, l⟩ := hR
  refine ⟨fun b q0 q1 => ?_, fun s q0 q1 => ?_, fun b w q0 q1 q2 q3 => (h6 b w q0 q1 q2 q3).1, fun b q0 q1 q2 => ?_⟩
  · have a := hT.2.2.2.1 b q0 q1
    exact ⟨a.2.1, a.2.2.2.1, (h4 b q0 q1).2.2.2.2.2.2.1, (h5 b q0 q1).1, (h5 b q0 q1).2.2.2.1⟩
  · have a := hT.2.2.2.2 s q0 q1
    exact ⟨a.1, a.2.1, lg_01, a.2.2⟩
  · have a := (h5 b q0 q1).2.2.2.2.2.2.2.2.1 q2
    have c := h3 (M 86 b) 0 a.2.1 (by have := h1.2.2.1; omega) (by omega) a.2.2.2
    rw [show 9 * M 86 b + 0 = 9 * M 86 b by omega] at c
    exact ⟨a.1, c.1⟩
abbrev lp (k : Nat) (i : Int) : Prop := (30 ≤ k ∧ k ≤ 38) ∨ (k = 29 ∧ 13 ≤ i) ∨ k = 39 ∨ k = 40 ∨ k = 41
theorem lay_cg {M M' : fr_M} {T : Nat} (hf : ∀ k i, ¬ (k = 39 ∨ k = 40 ∨ k = 41) → M' k i = M k i) (h : LayP (pg M) T M) : LayP (pg M') T M' := by
  have hp : pg M' = pg M := pg_cg (fun k i q => hf k i (by omega))
  rw [hp]
  obtain ⟨a1, a2, a3, a4, a5⟩ := h
  refine ⟨a1, ?_, fun k hk => ?_, fun b q0 q1 => ?_, fun s q0 q1 => ?_⟩
  · rw [hf 29 13 (by omega), hf 29 14 (by omega), hf 29 15 (by omega), hf 29 16 (by omega)]
    exact a2
  · rw [hf 30 _ (by omega)]
    exact a3 k hk
  · rw [hf 31 _ (by omega), hf 32 _ (by omega), hf 33 _ (by omega), hf 37 _ (by omega), hf 38 _ (by omega)]
    exact a4 b q0 q1
  · rw [hf 34 _ (by omega), hf 36 _ (by omega), hf 35 _ (by omega)]
    exact a5 s q0 q1
set_option maxHeartbeats 4000000 in
set_option maxRecDepth 100000 in
theorem op_refresh {n : Int} {M : fr_M} {Q : Option fr_V → fr_H → fr_M → Prop} (hR : Rel n M) (hn : n ≤ 512) (h : ∀ M', (∀ k i, ¬ lp k i → M' k i = M k i) → Rel (n + 1) M' → M' 29 18 = 1 → M' 39 4 = M' 29 17 → Q none sh0 M') : fr_Call 71 [.inr (.inl 39)] sh0 M Q := by
  refine fr_cgo k71 [some (.inr (.inl 39)), none] 0 0 [20] 400 rfl rfl rfl rfl ?_
  refine op_settle hR hn (fun M1 hf hR1 hL e18 => ?_)
  have hl1 : RL (n + 1) M1 := hR1.2.2.2.2.2.2.2.2.2.2.2.2.2.2.2.2.2.2.2.2.2.2.2.2.2.2
  obtain ⟨y1, y2, y3, y4, y5, y6, y7⟩ := hl1.in_
  by_cases ev : M1 39 4 = M1 29 17
  · have hh := h M1 (fun k i hk => hf k i (by omega)) hR1 e18 ev
    clear h
    repeat' (first | (refine And.intro (by first | omega | (simp (disch := decide) only [up_n, up_s, cp_n, rw_n, rw_s, up1_, if_true, if_false, ite_true, ite_false, reduceIte, eq_self, Int.reduceEq, true_and, and_true, not_true_eq_false, not_false_eq_true]; omega)) ?_) | (refine And.intro (fun hc => ?_) (fun hc => ?_) <;> (try (simp (disch := decide) only [up_n, up_s, cp_n, rw_n, rw_s, up1_, if_true, if_false, ite_true, ite_false, reduceIte, eq_self, Int.reduceEq, true_and, and_true, not_true_eq_false, not_false_eq_true] at hc)) <;> (try (exfalso; omega))) | (refine fun (hc : ¬ _) => ?_; try (simp (disch := decide) only [up_n, up_s, cp_n, rw_n, rw_s, up1_, if_true, if_false, ite_true, ite_false, reduceIte, eq_self, Int.reduceEq, true_and, and_true, not_true_eq_false, not_false_eq_true] at hc)) | (refine fun (hc : _ = _) => ?_; try (simp (disch := decide) only [up_n, up_s, cp_n, rw_n, rw_s, up1_, if_true, if_false, ite_true, ite_false, reduceIte, eq_self, Int.reduceEq, true_and, and_true, not_true_eq_false, not_false_eq_true] at hc)))
    all_goals first | (exfalso; omega) | exact hh
  · obtain ⟨T, hT⟩ := hL
    have hw := hR1.wf
    have hcN := cN_40 hw
    have hcc : M1 1 1 = pg M1 75 4 := hR1.2.1.2.2.2.1
    have hWN := wn_of hR1 hT
    have hcont : fr_Run 71 none 20 [some (.inr (.inl 39)), some (.inl 0)] [] sh0 (fr_up (fr_up M1 39 4 (M1 29 17)) 39 5 0) 0 0 Q := by
      refine q_run (c_rf_1 (N := fr_up M1 39 4 (M1 29 17)) (p := pg M1) (lg := lgT (pg M1) T) hw hcc hT.2.2.1 hWN (fun g hg => ?_) (cN (pg M1)) 0 (M1 40) (by omega) (fun j hj => absurd hj (by omega))) (rw_id (M := fr_up (fr_up M1 39 4 (M1 29 17)) 39 5 0) (k := 40))
      refine fr_go k71 [36] 400 rfl ?_
      repeat' (first | (refine And.intro (by first | omega | (simp (disch := decide) only [up_n, up_s, cp_n, rw_n, rw_s, up1_, if_true, if_false, ite_true, ite_false, reduceIte, eq_self, Int.reduceEq, true_and, and_true, not_true_eq_false, not_false_eq_true]; omega)) ?_) | (refine And.intro (fun hc => ?_) (fun hc => ?_) <;> (try (simp (disch := decide) only [up_n, up_s, cp_n, rw_n, rw_s, up1_, if_true, if_false, ite_true, ite_false, reduceIte, eq_self, Int.reduceEq, true_and, and_true, not_true_eq_false, not_false_eq_true] at hc)) <;> (try (exfalso; omega))) | (refine fun (hc : ¬ _) => ?_; try (simp (disch := decide) only [up_n, up_s, cp_n, rw_n, rw_s, up1_, if_true, if_false, ite_true, ite_false, reduceIte, eq_self, Int.reduceEq, true_and, and_true, not_true_eq_false, not_false_eq_true] at hc)) | (refine fun (hc : _ = _) => ?_; try (simp (disch := decide) only [up_n, up_s, cp_n, rw_n, rw_s, up1_, if_true, if_false, ite_true, ite_false, reduceIte, eq_self, Int.reduceEq, true_and, and_true, not_true_eq_false, not_false_eq_true] at hc)))
      refine q_run (c_rf_2 (N := fr_up M1 39 4 (M1 29 17)) (p := pg M1) (lg := lgT (pg M1) T) hw hcc hT.2.2.1 hWN (fun g1 h1 a hp1 hg1 => ?_) (cN (pg M1)) 0 g (M1 41) (by omega) hg (fun j hj => absurd hj (by omega))) ?_
      · have hfr : ∀ k i, ¬ (k = 39 ∨ k = 40 ∨ k = 41) → rw_ (fr_up (rw_ (fr_up M1 39 4 (M1 29 17)) 41 h1) 39 5 a) 40 g1 k i = M1 k i := fun k i hk => by
          rw [rw_n (by omega), up_x (by omega), rw_n (by omega), up_x (by omega)]
        have hlay := lay_cg hfr hT
        have hpp : pg (rw_ (fr_up (rw_ (fr_up M1 39 4 (M1 29 17)) 41 h1) 39 5 a) 40 g1) = pg M1 := pg_cg (fun k i q => hfr k i (by omega))
        refine h _ (fun k i hk => ?_) (hR1.scr0 (fun k i hk => hfr k i (by omega)) (RL.mk_ ⟨Or.inr e18, y2, y3, y2, Int.le_refl _, fun _ => ⟨T, hlay⟩, fun _ _ => ⟨T, hlay, ?_⟩⟩)) e18 rfl
        · rw [hfr k i (by omega)]
          exact hf k i (by omega)
        · rw [hpp]
          exact pic_of hw hp1 hg1
      · rw [show pos (pg M1) (lgT (pg M1) T) (cN (pg M1)) + 8 * gd (pg M1) 0 = pos (pg M1) (lgT (pg M1) T) (cN (pg M1)) by (show _ + 8 * 0 = _; omega)]
        have e41 : rw_ (fr_up M1 39 4 (M1 29 17)) 41 (M1 41) = fr_up M1 39 4 (M1 29 17) := rw_id (M := fr_up M1 39 4 (M1 29 17)) (k := 41)
        rw [e41]
    clear h hT hWN
    repeat' (first | (refine And.intro (by first | omega | (simp (disch := decide) only [up_n, up_s, cp_n, rw_n, rw_s, up1_, if_true, if_false, ite_true, ite_false, reduceIte, eq_self, Int.reduceEq, true_and, and_true, not_true_eq_false, not_false_eq_true]; omega)) ?_) | (refine And.intro (fun hc => ?_) (fun hc => ?_) <;> (try (simp (disch := decide) only [up_n, up_s, cp_n, rw_n, rw_s, up1_, if_true, if_false, ite_true, ite_false, reduceIte, eq_self, Int.reduceEq, true_and, and_true, not_true_eq_false, not_false_eq_true] at hc)) <;> (try (exfalso; omega))) | (refine fun (hc : ¬ _) => ?_; try (simp (disch := decide) only [up_n, up_s, cp_n, rw_n, rw_s, up1_, if_true, if_false, ite_true, ite_false, reduceIte, eq_self, Int.reduceEq, true_and, and_true, not_true_eq_false, not_false_eq_true] at hc)) | (refine fun (hc : _ = _) => ?_; try (simp (disch := decide) only [up_n, up_s, cp_n, rw_n, rw_s, up1_, if_true, if_false, ite_true, ite_false, reduceIte, eq_self, Int.reduceEq, true_and, and_true, not_true_eq_false, not_false_eq_true] at hc)))
    all_goals first | (exfalso; omega) | exact hcont
