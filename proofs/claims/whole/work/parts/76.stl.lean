theorem up_x {M : fr_M} {a k : Nat} {j i v : Int} (h : ¬ (k = a ∧ i = j)) : fr_up M a j v k i = M k i := by
  unfold fr_up
  by_cases e : k = a
  · rw [if_pos e, if_neg (fun q => h ⟨e, q⟩)]
  · rw [if_neg e]
theorem XT_f {M : fr_M} {a b c d : Int} {g32 g33 g35 g36 g38 : Int → Int} {k : Nat} {i : Int} (h : ¬ lc k i) : XT M a b c d g32 g33 g35 g36 g38 k i = M k i := by
  unfold XT
  rw [rw_n (by omega), rw_n (by omega), rw_n (by omega), rw_n (by omega), rw_n (by omega), up_x (by omega), up_x (by omega), up_x (by omega), up_x (by omega)]
set_option maxHeartbeats 4000000 in
set_option maxRecDepth 100000 in
theorem c_settle {n : Int} {M : fr_M} {Q : Option fr_V → fr_H → fr_M → Prop} (hR : Rel n M) (hn : n ≤ 1024) (hA : M 29 18 = 1 → Q none sh0 M) (hB : M 29 18 = 0 → ∀ M', (∀ k i, ¬ lc k i → M' k i = M k i) → LayOK M' → M' 29 18 = 1 → M' 29 17 = M 29 17 + 1 → Q none sh0 M') : fr_Call 36 [.inr (.inl 29)] sh0 M Q := by
  obtain ⟨h0, h1, h2, h3, h4, h5, h6, h7, h8, o1, o2, o3, k1, k2, k3, k4, k5, t1, t2, s1, r1, r1', r2, r2', r3, r4, l⟩ := hR
  obtain ⟨y1, y2, y3, y4, y5, -, -⟩ := l.in_
  have hw := wf_of h1 h2 h3 h4 h5 h6 o1 o2 s1
  have hc4 : pg M 75 4 = M 75 4 := rfl
  obtain ⟨z1, z2, z3, z4, z5, z6⟩ := id h1
  by_cases e : M 29 18 = 1
  · have hA := hA e
    clear hB
    refine fr_cgo k36 [some (.inr (.inl 29)), none] 0 0 [] 400 rfl rfl rfl rfl ?_
    repeat' (first | (refine And.intro (by first | omega | (simp (disch := decide) only [up_n, up_s, cp_n, rw_n, rw_s, up1_, if_true, if_false, ite_true, ite_false, reduceIte, eq_self, Int.reduceEq, true_and, and_true, not_true_eq_false, not_false_eq_true]; omega)) ?_) | (refine And.intro (fun hc => ?_) (fun hc => ?_) <;> (try (simp (disch := decide) only [up_n, up_s, cp_n, rw_n, rw_s, up1_, if_true, if_false, ite_true, ite_false, reduceIte, eq_self, Int.reduceEq, true_and, and_true, not_true_eq_false, not_false_eq_true] at hc)) <;> (try (exfalso; omega))) | (refine fun (hc : ¬ _) => ?_; try (simp (disch := decide) only [up_n, up_s, cp_n, rw_n, rw_s, up1_, if_true, if_false, ite_true, ite_false, reduceIte, eq_self, Int.reduceEq, true_and, and_true, not_true_eq_false, not_false_eq_true] at hc)) | (refine fun (hc : _ = _) => ?_; try (simp (disch := decide) only [up_n, up_s, cp_n, rw_n, rw_s, up1_, if_true, if_false, ite_true, ite_false, reduceIte, eq_self, Int.reduceEq, true_and, and_true, not_true_eq_false, not_false_eq_true] at hc)))
    all_goals first | (exfalso; omega) | exact hA
  · have hB := hB (by omega)
    clear hA
    refine fr_cgo k36 [some (.inr (.inl 29)), none] 0 0 [17] 400 rfl rfl rfl rfl ?_
    repeat' (first | (refine And.intro (by first | omega | (simp (disch := decide) only [up_n, up_s, cp_n, rw_n, rw_s, up1_, if_true, if_false, ite_true, ite_false, reduceIte, eq_self, Int.reduceEq, true_and, and_true, not_true_eq_false, not_false_eq_true]; omega)) ?_) | (refine And.intro (fun hc => ?_) (fun hc => ?_) <;> (try (simp (disch := decide) only [up_n, up_s, cp_n, rw_n, rw_s, up1_, if_true, if_false, ite_true, ite_false, reduceIte, eq_self, Int.reduceEq, true_and, and_true, not_true_eq_false, not_false_eq_true] at hc)) <;> (try (exfalso; omega))) | (refine fun (hc : ¬ _) => ?_; try (simp (disch := decide) only [up_n, up_s, cp_n, rw_n, rw_s, up1_, if_true, if_false, ite_true, ite_false, reduceIte, eq_self, Int.reduceEq, true_and, and_true, not_true_eq_false, not_false_eq_true] at hc)) | (refine fun (hc : _ = _) => ?_; try (simp (disch := decide) only [up_n, up_s, cp_n, rw_n, rw_s, up1_, if_true, if_false, ite_true, ite_false, reduceIte, eq_self, Int.reduceEq, true_and, and_true, not_true_eq_false, not_false_eq_true] at hc)))
    all_goals first | (exfalso; omega) | skip
    simp (disch := decide) only [up_n, up_s, cp_n, rw_n, rw_s, up1_, if_true, if_false, ite_true, ite_false, reduceIte, eq_self, Int.reduceEq, true_and, and_true, not_true_eq_false, not_false_eq_true]
    have hp1 : pg (fr_up (fr_up M 29 18 1) 29 17 (M 29 17 + 1)) = pg M := by
      rw [pg_up (by omega), pg_up (by omega)]
    refine c_lineUp (by rw [hp1]; exact hw) h1 h2 h4 o1 s1 (fun g30 g31 hg30 hg31 => ?_)
    rw [hp1] at hg30 hg31
    repeat' (first | (refine And.intro (by first | omega | (simp (disch := decide) only [up_n, up_s, cp_n, rw_n, rw_s, up1_, if_true, if_false, ite_true, ite_false, reduceIte, eq_self, Int.reduceEq, true_and, and_true, not_true_eq_false, not_false_eq_true]; omega)) ?_) | (refine And.intro (fun hc => ?_) (fun hc => ?_) <;> (try (simp (disch := decide) only [up_n, up_s, cp_n, rw_n, rw_s, up1_, if_true, if_false, ite_true, ite_false, reduceIte, eq_self, Int.reduceEq, true_and, and_true, not_true_eq_false, not_false_eq_true] at hc)) <;> (try (exfalso; omega))) | (refine fun (hc : ¬ _) => ?_; try (simp (disch := decide) only [up_n, up_s, cp_n, rw_n, rw_s, up1_, if_true, if_false, ite_true, ite_false, reduceIte, eq_self, Int.reduceEq, true_and, and_true, not_true_eq_false, not_false_eq_true] at hc)) | (refine fun (hc : _ = _) => ?_; try (simp (disch := decide) only [up_n, up_s, cp_n, rw_n, rw_s, up1_, if_true, if_false, ite_true, ite_false, reduceIte, eq_self, Int.reduceEq, true_and, and_true, not_true_eq_false, not_false_eq_true] at hc)))
    have hp2 : pg (rw_ (rw_ (fr_up (fr_up M 29 18 1) 29 17 (M 29 17 + 1)) 30 g30) 31 g31) = pg M := by
      rw [pg_rw (by omega), pg_rw (by omega)]
      exact hp1
    refine q_run (c_cj_l (M := rw_ (rw_ (fr_up (fr_up M 29 18 1) 29 17 (M 29 17 + 1)) 30 g30) 31 g31) (p := pg M) hp2 h1 h5 h6 hg31 ?_ (M 75 4).toNat 0 (M 34) (M 36) (M 37) (M 38) (by omega) (by omega) (fun b q0 q1 => by omega)) ?_
    · intro g34 g36 g37 g38 hj
      have hp3 : ∀ v, pg (fr_up (rw_ (rw_ (rw_ (rw_ (rw_ (rw_ (fr_up (fr_up M 29 18 1) 29 17 (M 29 17 + 1)) 30 g30) 31 g31) 34 g34) 36 g36) 37 g37) 38 g38) 29 13 v) = pg M := by
        intro v
        rw [pg_up (by omega), pg_rw (by omega), pg_rw (by omega), pg_rw (by omega), pg_rw (by omega)]
        exact hp2
      have hp4 : pg (rw_ (rw_ (rw_ (rw_ (rw_ (rw_ (fr_up (fr_up M 29 18 1) 29 17 (M 29 17 + 1)) 30 g30) 31 g31) 34 g34) 36 g36) 37 g37) 38 g38) = pg M := by
        rw [pg_rw (by omega), pg_rw (by omega), pg_rw (by omega), pg_rw (by omega)]
        exact hp2
      have h34 : ∀ s, 0 ≤ s → s < 2 * pg M 75 4 → g34 s = tg (pg M) s := by
        intro s q0 q1
        have := hj (s / 2) (by omega) (by omega)
        unfold tg
        by_cases es : s % 2 = 0
        · rw [if_pos es, ← this.1]
          congr 1
          omega
        · rw [if_neg es, ← this.2.1]
          congr 1
          omega
      have h36 : ∀ s, 0 ≤ s → s < 2 * pg M 75 4 → g36 s = lgT (pg M) 0 s := by
        intro s q0 q1
        have := hj (s / 2) (by omega) (by omega)
        show g36 s = 0
        by_cases es : s % 2 = 0
        · rw [← this.2.2.1]
          congr 1
          omega
        · rw [← this.2.2.2.1]
          congr 1
          omega
      have h38 : ∀ b, 0 ≤ b → b < pg M 75 4 → g38 b = lt_ (pg M) 0 b := fun b q0 q1 => (hj b q0 q1).2.2.2.2.2
      have hpr : ∀ b, 0 ≤ b → b < pg M 75 4 → M 6 b = M 80 b ∧ M 7 b = M 82 b ∧ M 8 b = M 83 b := fun b q0 q1 => ⟨(h4 b q0 q1).2.2.2.2.2.2.1, (h5 b q0 q1).1, (h5 b q0 q1).2.2.2.1⟩
      refine fr_go k36 [34] 400 rfl ?_
      repeat' (first | (refine And.intro (by first | omega | (simp (disch := decide) only [up_n, up_s, cp_n, rw_n, rw_s, up1_, if_true, if_false, ite_true, ite_false, reduceIte, eq_self, Int.reduceEq, true_and, and_true, not_true_eq_false, not_false_eq_true]; omega)) ?_) | (refine And.intro (fun hc => ?_) (fun hc => ?_) <;> (try (simp (disch := decide) only [up_n, up_s, cp_n, rw_n, rw_s, up1_, if_true, if_false, ite_true, ite_false, reduceIte, eq_self, Int.reduceEq, true_and, and_true, not_true_eq_false, not_false_eq_true] at hc)) <;> (try (exfalso; omega))) | (refine fun (hc : ¬ _) => ?_; try (simp (disch := decide) only [up_n, up_s, cp_n, rw_n, rw_s, up1_, if_true, if_false, ite_true, ite_false, reduceIte, eq_self, Int.reduceEq, true_and, and_true, not_true_eq_false, not_false_eq_true] at hc)) | (refine fun (hc : _ = _) => ?_; try (simp (disch := decide) only [up_n, up_s, cp_n, rw_n, rw_s, up1_, if_true, if_false, ite_true, ite_false, reduceIte, eq_self, Int.reduceEq, true_and, and_true, not_true_eq_false, not_false_eq_true] at hc)))
      refine c_layAll (p := pg M) (lg := lgT (pg M) 0) (hp3 0) hw z4 s1.2.2.1 hpr ⟨hg30, fun s q0 q1 => ⟨h34 s q0 q1, h36 s q0 q1, Or.inl rfl⟩⟩ (fun g32 g33 g35 hLI => ?_)
      repeat' (first | (refine And.intro (by first | omega | (simp (disch := decide) only [up_n, up_s, cp_n, rw_n, rw_s, up1_, if_true, if_false, ite_true, ite_false, reduceIte, eq_self, Int.reduceEq, true_and, and_true, not_true_eq_false, not_false_eq_true]; omega)) ?_) | (refine And.intro (fun hc => ?_) (fun hc => ?_) <;> (try (simp (disch := decide) only [up_n, up_s, cp_n, rw_n, rw_s, up1_, if_true, if_false, ite_true, ite_false, reduceIte, eq_self, Int.reduceEq, true_and, and_true, not_true_eq_false, not_false_eq_true] at hc)) <;> (try (exfalso; omega))) | (refine fun (hc : ¬ _) => ?_; try (simp (disch := decide) only [up_n, up_s, cp_n, rw_n, rw_s, up1_, if_true, if_false, ite_true, ite_false, reduceIte, eq_self, Int.reduceEq, true_and, and_true, not_true_eq_false, not_false_eq_true] at hc)) | (refine fun (hc : _ = _) => ?_; try (simp (disch := decide) only [up_n, up_s, cp_n, rw_n, rw_s, up1_, if_true, if_false, ite_true, ite_false, reduceIte, eq_self, Int.reduceEq, true_and, and_true, not_true_eq_false, not_false_eq_true] at hc)))
      refine q_run (c_st_l (M := rw_ (rw_ (rw_ (rw_ (rw_ (rw_ (fr_up (fr_up M 29 18 1) 29 17 (M 29 17 + 1)) 30 g30) 31 g31) 34 g34) 36 g36) 37 g37) 38 g38) (p := pg M) hp4 hw z4 s1.2.2.1 hpr hg30 h34 ?_ 80 0 g32 g33 g35 g36 g38 (by omega) (fun t' ht => absurd ht (by omega)) hLI h36 h38) ?_
      · intro T f32 f33 f35 f36 f38 hdn hmin hL r36 r38
        have hall := hL.all hw
        refine hB _ (fun k i hk => ?_) ⟨T, ?_⟩ rfl rfl
        · rw [XT_f hk, rw_n (by omega), rw_n (by omega), rw_n (by omega), rw_n (by omega), rw_n (by omega), rw_n (by omega), up_x (by omega), up_x (by omega)]
        · have hp5 : pg (XT (rw_ (rw_ (rw_ (rw_ (rw_ (rw_ (fr_up (fr_up M 29 18 1) 29 17 (M 29 17 + 1)) 30 g30) 31 g31) 34 g34) 36 g36) 37 g37) 38 g38) (T : Int) (gp (pg M) (lgT (pg M) T) (cN (pg M))) (pos (pg M) (lgT (pg M) T) (cN (pg M))) (pos (pg M) (lgT (pg M) T) (cN (pg M)) + 8 * gd (pg M) (cN (pg M))) f32 f33 f35 f36 f38) = pg M := by
            refine pg_cg (fun k i hk => ?_)
            rw [XT_f (by omega), rw_n (by omega), rw_n (by omega), rw_n (by omega), rw_n (by omega), rw_n (by omega), rw_n (by omega), up_x (by omega), up_x (by omega)]
          rw [hp5]
          exact ⟨⟨hdn, hmin⟩, ⟨rfl, rfl, rfl, rfl⟩, hg30, fun b q0 q1 => ⟨hg31 b q0 q1, (hall.1 b q0 q1).1, (hall.1 b q0 q1).2, (hj b q0 q1).2.2.2.2.1, r38 b q0 q1⟩, fun s q0 q1 => ⟨h34 s q0 q1, r36 s q0 q1, hall.2 s q0 q1⟩⟩
      · exact (congrArg (fun m => rw_ m 38 g38) (rw_id (k := 36))).trans (rw_id (k := 38))
    · exact (congrArg (fun m => rw_ (rw_ (rw_ m 36 (M 36)) 37 (M 37)) 38 (M 38)) (rw_id (k := 34))).trans ((congrArg (fun m => rw_ (rw_ m 37 (M 37)) 38 (M 38)) (rw_id (k := 36))).trans ((congrArg (fun m => rw_ m 38 (M 38)) (rw_id (k := 37))).trans (rw_id (k := 38))))
theorem op_settle {n : Int} {M : fr_M} {Q : Option fr_V → fr_H → fr_M → Prop} (hR : Rel n M) (hn : n ≤ 512) (h : ∀ M', (∀ k i, ¬ lc k i → M' k i = M k i) → Rel (n + 1) M' → LayOK M' → M' 29 18 = 1 → Q none sh0 M') : fr_Call 36 [.inr (.inl 29)] sh0 M Q := by
  refine c_settle hR (by omega) (fun e => ?_) (fun e M' hf hL e18 e17 => ?_)
  · have hl : RL n M := hR.2.2.2.2.2.2.2.2.2.2.2.2.2.2.2.2.2.2.2.2.2.2.2.2.2.2
    exact h M (fun _ _ _ => rfl) hR.next (hl.in_.2.2.2.2.2.1 e) e
  · have hl : RL n M := hR.2.2.2.2.2.2.2.2.2.2.2.2.2.2.2.2.2.2.2.2.2.2.2.2.2.2
    obtain ⟨a1, a2, a3, a4, a5, a6, a7⟩ := hl.in_
    have e39 : M' 39 4 = M 39 4 := hf 39 4 (by omega)
    refine h M' hf (hR.scr (fun k i hk => hf k i (by omega)) (RL.mk_ ⟨Or.inr e18, by omega, by omega, by omega, by omega, fun _ => hL, fun _ q => by omega⟩)) hL e18
