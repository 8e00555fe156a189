theorem up_as {M : fr_M} {k : Nat} {i v : Int} : fr_up M k i v = rw_ M k (up1 (M k) i v) := by
  have := rw_u (M := M) (k := k) (g := M k) (i := i) (v := v)
  rw [rw_id] at this
  exact this
def av (g : Int → Int) (a b c d : Int) : Int → Int := up1 (up1 (up1 (up1 g 0 a) 1 b) 2 c) 3 d
theorem up4 {M : fr_M} {k : Nat} {a b c d : Int} : fr_up (fr_up (fr_up (fr_up M k 0 a) k 1 b) k 2 c) k 3 d = rw_ M k (av (M k) a b c d) := by
  rw [up_as (i := 0), rw_u, rw_u, rw_u]
  rfl
theorem av_e {g g' : Int → Int} {a b c d : Int} : ∀ i, 0 ≤ i → i < 4 → av g a b c d i = av g' a b c d i := by
  intro i h0 h1
  rcases (show i = 0 ∨ i = 1 ∨ i = 2 ∨ i = 3 by omega) with rfl | rfl | rfl | rfl <;> rfl
theorem EK.cg {k n c r nr : Int} {f f' ro ro' own own' : Int → Int} (hn : n ≤ 4) (h1 : ∀ i, 0 ≤ i → i < 4 → f i = f' i) (h2 : ∀ x, 0 ≤ x → x < c → ro x = ro' x) (h3 : ∀ x, 0 ≤ x → x < nr → own x = own' x) (h : EK k n f c ro r nr own) : EK k n f' c ro' r nr own' := by
  obtain ⟨a1, a2, a3⟩ := h
  refine ⟨a1, fun q => ?_, fun i q0 q1 => ?_⟩
  · have := a2 q
    have e := h1 1 (by omega) (by omega)
    rw [e] at this
    have e3 := h3 (f' 1) (by omega) (by omega)
    omega
  · have := a3 i q0 q1
    have e := h1 i q0 (by omega)
    rw [e] at this
    have e3 := h2 (f' i) (by omega) (by omega)
    omega
set_option maxHeartbeats 4000000 in
set_option maxRecDepth 100000 in
theorem c_end {M : fr_M} {b k a2 a3 a4 a5 : Int} {Q : Option fr_V → fr_H → fr_M → Prop} (hk : 0 ≤ k ∧ k ≤ 6) (hP : 0 ≤ M 1 1 ∧ M 1 1 ≤ 40) (hP2 : 0 ≤ M 1 0 ∧ M 1 0 ≤ 6) (hb : 0 ≤ b ∧ b < M 1 1) (h1 : ∀ n g11 g12, NW k (av (M 73) a2 a3 a4 a5) n → EK k n (av (M 73) a2 a3 a4 a5) (M 1 1) (M 4) (M 4 b) (M 1 0) (M 2) → WG b n (-1) (av (M 73) a2 a3 a4 a5) (M 11) g11 4 → CG b (M 12) g12 4 → Q (some (.inl n)) sh0 (fr_up (fr_up (rw_ (rw_ (fr_up (fr_up (fr_up (rw_ M 73 (av (M 73) a2 a3 a4 a5)) 7 b k) 8 b n) 9 b (if k = 5 then a3 else -1)) 11 g11) 12 g12) 0 17 0) 29 18 0)) (h0 : ∀ n, NW k (av (M 73) a2 a3 a4 a5) n → ¬ EK k n (av (M 73) a2 a3 a4 a5) (M 1 1) (M 4) (M 4 b) (M 1 0) (M 2) → Q (some (.inl (-1))) sh0 (rw_ M 73 (av (M 73) a2 a3 a4 a5))) : fr_Call 110 [.inr (.inl 0), .inl b, .inl k, .inl a2, .inl a3, .inl a4, .inl a5] sh0 M Q := by
  refine fr_cgo k110 [some (.inr (.inl 0)), some (.inl b), some (.inl k), some (.inl a2), some (.inl a3), some (.inl a4), some (.inl a5), none, none] 0 0 [33] 400 rfl rfl rfl rfl ?_
  repeat' (first | (refine And.intro (by first | omega | (simp (disch := decide) only [up_n, up_s, cp_n, rw_n, rw_s, up1_, if_true, if_false, ite_true, ite_false, reduceIte, eq_self, Int.reduceEq, true_and, and_true, not_true_eq_false, not_false_eq_true]; omega)) ?_) | (refine c_isBlock (fun hc => ?_) (fun hc => ?_) <;> (try (simp (disch := decide) only [up_n, up_s, cp_n, rw_n, rw_s, up1_, if_true, if_false, ite_true, ite_false, reduceIte, eq_self, Int.reduceEq, true_and, and_true, not_true_eq_false, not_false_eq_true] at hc))) | (refine And.intro (fun hc => ?_) (fun hc => ?_) <;> (try (simp (disch := decide) only [up_n, up_s, cp_n, rw_n, rw_s, up1_, if_true, if_false, ite_true, ite_false, reduceIte, eq_self, Int.reduceEq, true_and, and_true, not_true_eq_false, not_false_eq_true] at hc)) <;> (try (exfalso; omega))) | (refine fun (hc : ¬ _) => ?_; try (simp (disch := decide) only [up_n, up_s, cp_n, rw_n, rw_s, up1_, if_true, if_false, ite_true, ite_false, reduceIte, eq_self, Int.reduceEq, true_and, and_true, not_true_eq_false, not_false_eq_true] at hc)) | (refine fun (hc : _ = _) => ?_; try (simp (disch := decide) only [up_n, up_s, cp_n, rw_n, rw_s, up1_, if_true, if_false, ite_true, ite_false, reduceIte, eq_self, Int.reduceEq, true_and, and_true, not_true_eq_false, not_false_eq_true] at hc)))
  all_goals first | (exfalso; omega) | skip
  rw [up4]
  refine fr_go k110 [53] 400 rfl ?_
  refine c_waysOffered hk (fun n hnw => ?_)
  have hnr := hnw.rng hk
  have hnw : NW k (av (M 73) a2 a3 a4 a5) n := by
    rw [rw_at] at hnw
    exact hnw
  repeat' (first | (refine And.intro (by first | omega | (simp (disch := decide) only [up_n, up_s, cp_n, rw_n, rw_s, up1_, if_true, if_false, ite_true, ite_false, reduceIte, eq_self, Int.reduceEq, true_and, and_true, not_true_eq_false, not_false_eq_true]; omega)) ?_) | (refine c_hasBlocks (by first | omega | (simp (disch := decide) only [up_n, up_s, cp_n, rw_n, rw_s, up1_, if_true, if_false, ite_true, ite_false, reduceIte, eq_self, Int.reduceEq, true_and, and_true, not_true_eq_false, not_false_eq_true]; omega)) (fun hc => ?_) (fun hc => ?_) <;> (try (simp (disch := decide) only [up_n, up_s, cp_n, rw_n, rw_s, up1_, if_true, if_false, ite_true, ite_false, reduceIte, eq_self, Int.reduceEq, true_and, and_true, not_true_eq_false, not_false_eq_true] at hc))) | (refine And.intro (fun hc => ?_) (fun hc => ?_) <;> (try (simp (disch := decide) only [up_n, up_s, cp_n, rw_n, rw_s, up1_, if_true, if_false, ite_true, ite_false, reduceIte, eq_self, Int.reduceEq, true_and, and_true, not_true_eq_false, not_false_eq_true] at hc)) <;> (try (exfalso; omega))) | (refine fun (hc : ¬ _) => ?_; try (simp (disch := decide) only [up_n, up_s, cp_n, rw_n, rw_s, up1_, if_true, if_false, ite_true, ite_false, reduceIte, eq_self, Int.reduceEq, true_and, and_true, not_true_eq_false, not_false_eq_true] at hc)) | (refine fun (hc : _ = _) => ?_; try (simp (disch := decide) only [up_n, up_s, cp_n, rw_n, rw_s, up1_, if_true, if_false, ite_true, ite_false, reduceIte, eq_self, Int.reduceEq, true_and, and_true, not_true_eq_false, not_false_eq_true] at hc)))
  all_goals first | (exfalso; omega) | skip
  all_goals first | exact h0 n hnw (fun he => he.1 (by omega) (by omega)) | exact h0 n hnw (fun he => by have h5 : (0 ≤ a3 ∧ a3 < M 1 0) ∧ 0 < M 2 a3 := he.2.1 (by omega); omega) | skip
  all_goals (refine c_end_l (by simp (disch := decide) only [up_n, up_s, cp_n, rw_n, rw_s, up1_, if_true, if_false, ite_true, ite_false, reduceIte, eq_self, Int.reduceEq, true_and, and_true, not_true_eq_false, not_false_eq_true]; omega) (by omega) hnr (fun hw => ?_) (fun hw => ?_) n.toNat 0 (by omega) (by omega) (fun j r0 r1 => absurd r1 (by omega)))
  all_goals first | exact h0 n hnw (fun he => hw (by rw [rw_at]; exact he.2.2)) | skip
  all_goals (rw [rw_at] at hw)
  all_goals (have hek : EK k n (av (M 73) a2 a3 a4 a5) (M 1 1) (M 4) (M 4 b) (M 1 0) (M 2) := ⟨by omega, fun q => by first | (exfalso; omega) | (show (0 ≤ a3 ∧ a3 < M 1 0) ∧ 0 < M 2 a3; omega), hw⟩)
  all_goals (refine fr_go k110 [] 400 rfl ?_)
  all_goals (refine c_tellEnd (by omega) hnr (fun g11 g12 hg hc2 => ?_))
  all_goals (repeat' (first | (refine And.intro (by first | omega | (simp (disch := decide) only [up_n, up_s, cp_n, rw_n, rw_s, up1_, if_true, if_false, ite_true, ite_false, reduceIte, eq_self, Int.reduceEq, true_and, and_true, not_true_eq_false, not_false_eq_true]; omega)) ?_) | (refine c_disturb ?_) | (refine And.intro (fun hc => ?_) (fun hc => ?_) <;> (try (simp (disch := decide) only [up_n, up_s, cp_n, rw_n, rw_s, up1_, if_true, if_false, ite_true, ite_false, reduceIte, eq_self, Int.reduceEq, true_and, and_true, not_true_eq_false, not_false_eq_true] at hc)) <;> (try (exfalso; omega))) | (refine fun (hc : ¬ _) => ?_; try (simp (disch := decide) only [up_n, up_s, cp_n, rw_n, rw_s, up1_, if_true, if_false, ite_true, ite_false, reduceIte, eq_self, Int.reduceEq, true_and, and_true, not_true_eq_false, not_false_eq_true] at hc)) | (refine fun (hc : _ = _) => ?_; try (simp (disch := decide) only [up_n, up_s, cp_n, rw_n, rw_s, up1_, if_true, if_false, ite_true, ite_false, reduceIte, eq_self, Int.reduceEq, true_and, and_true, not_true_eq_false, not_false_eq_true] at hc))))
  all_goals (exact h1 n g11 g12 hnw hek (by rw [rw_at] at hg; exact hg) hc2)
set_option maxHeartbeats 4000000 in
set_option maxRecDepth 100000 in
theorem m_end {M : fr_M} {b k a2 a3 a4 a5 : Int} {Q : Option fr_V → fr_H → fr_M → Prop} (hk : 0 ≤ k ∧ k ≤ 6) (hP : 0 ≤ M 75 4 ∧ M 75 4 ≤ 40) (hP2 : 0 ≤ M 75 0 ∧ M 75 0 ≤ 6) (ho : ∀ r, 0 ≤ r → r < 6 → 0 ≤ M 76 r) (hb : 0 ≤ b ∧ b < M 75 4) (h1 : ∀ n g84 g85, NW k (av (M 90) a2 a3 a4 a5) n → EK k n (av (M 90) a2 a3 a4 a5) (M 75 4) (M 79) (M 79 b) (M 75 0) (M 76) → WG b n (-9) (av (M 90) a2 a3 a4 a5) (M 84) g84 4 → CG b (M 85) g85 4 → Q (some (.inl n)) sh0 (rw_ (rw_ (fr_up (fr_up (fr_up (fr_up (rw_ M 90 (av (M 90) a2 a3 a4 a5)) 82 b k) 83 b n) 86 b (if k = 5 then a3 else -9)) 75 41 0) 84 g84) 85 g85)) (h0 : ∀ n, NW k (av (M 90) a2 a3 a4 a5) n → ¬ EK k n (av (M 90) a2 a3 a4 a5) (M 75 4) (M 79) (M 79 b) (M 75 0) (M 76) → Q (some (.inl (-1))) sh0 (rw_ M 90 (av (M 90) a2 a3 a4 a5))) : fr_Call 148 [.inr (.inl 75), .inl b, .inl k, .inl a2, .inl a3, .inl a4, .inl a5] sh0 M Q := by
  refine fr_cgo k148 [some (.inr (.inl 75)), some (.inl b), some (.inl k), some (.inl a2), some (.inl a3), some (.inl a4), some (.inl a5), none, none] 0 0 [32] 400 rfl rfl rfl rfl ?_
  repeat' (first | (refine And.intro (by first | omega | (simp (disch := decide) only [up_n, up_s, cp_n, rw_n, rw_s, up1_, if_true, if_false, ite_true, ite_false, reduceIte, eq_self, Int.reduceEq, true_and, and_true, not_true_eq_false, not_false_eq_true]; omega)) ?_) | (refine m_isBlock (by first | omega | (simp (disch := decide) only [up_n, up_s, cp_n, rw_n, rw_s, up1_, if_true, if_false, ite_true, ite_false, reduceIte, eq_self, Int.reduceEq, true_and, and_true, not_true_eq_false, not_false_eq_true]; omega)) (fun hc => ?_) (fun hc => ?_) <;> (try (simp (disch := decide) only [up_n, up_s, cp_n, rw_n, rw_s, up1_, if_true, if_false, ite_true, ite_false, reduceIte, eq_self, Int.reduceEq, true_and, and_true, not_true_eq_false, not_false_eq_true] at hc))) | (refine m_in (fun hc => ?_) (fun hc => ?_) <;> (try (simp (disch := decide) only [up_n, up_s, cp_n, rw_n, rw_s, up1_, if_true, if_false, ite_true, ite_false, reduceIte, eq_self, Int.reduceEq, true_and, and_true, not_true_eq_false, not_false_eq_true] at hc))) | (refine And.intro (fun hc => ?_) (fun hc => ?_) <;> (try (simp (disch := decide) only [up_n, up_s, cp_n, rw_n, rw_s, up1_, if_true, if_false, ite_true, ite_false, reduceIte, eq_self, Int.reduceEq, true_and, and_true, not_true_eq_false, not_false_eq_true] at hc)) <;> (try (exfalso; omega))) | (refine fun (hc : ¬ _) => ?_; try (simp (disch := decide) only [up_n, up_s, cp_n, rw_n, rw_s, up1_, if_true, if_false, ite_true, ite_false, reduceIte, eq_self, Int.reduceEq, true_and, and_true, not_true_eq_false, not_false_eq_true] at hc)) | (refine fun (hc : _ = _) => ?_; try (simp (disch := decide) only [up_n, up_s, cp_n, rw_n, rw_s, up1_, if_true, if_false, ite_true, ite_false, reduceIte, eq_self, Int.reduceEq, true_and, and_true, not_true_eq_false, not_false_eq_true] at hc)))
  all_goals first | (exfalso; omega) | skip
  rw [up4]
  refine fr_go k148 [62] 400 rfl ?_
  refine m_waysTold hk (by simp (disch := decide) only [up_n, up_s, cp_n, rw_n, rw_s, up1_, if_true, if_false, ite_true, ite_false, reduceIte, eq_self, Int.reduceEq, true_and, and_true, not_true_eq_false, not_false_eq_true]; omega) (by simp (disch := decide) only [up_n, up_s, cp_n, rw_n, rw_s, up1_, if_true, if_false, ite_true, ite_false, reduceIte, eq_self, Int.reduceEq, true_and, and_true, not_true_eq_false, not_false_eq_true]; omega) (by intro r q0 q1; simp (disch := decide) only [up_n, up_s, cp_n, rw_n, rw_s, up1_, if_true, if_false, ite_true, ite_false, reduceIte, eq_self, Int.reduceEq, true_and, and_true, not_true_eq_false, not_false_eq_true]; exact ho r q0 q1) (by omega) (fun n hnw hek => ?_) (fun n hnw hek => ?_)
  · rw [rw_at] at hnw hek
    have hnr := hnw.rng hk
    repeat' (first | (refine And.intro (by first | omega | (simp (disch := decide) only [up_n, up_s, cp_n, rw_n, rw_s, up1_, if_true, if_false, ite_true, ite_false, reduceIte, eq_self, Int.reduceEq, true_and, and_true, not_true_eq_false, not_false_eq_true]; omega)) ?_) | (refine And.intro (fun hc => ?_) (fun hc => ?_) <;> (try (simp (disch := decide) only [up_n, up_s, cp_n, rw_n, rw_s, up1_, if_true, if_false, ite_true, ite_false, reduceIte, eq_self, Int.reduceEq, true_and, and_true, not_true_eq_false, not_false_eq_true] at hc)) <;> (try (exfalso; omega))) | (refine fun (hc : ¬ _) => ?_; try (simp (disch := decide) only [up_n, up_s, cp_n, rw_n, rw_s, up1_, if_true, if_false, ite_true, ite_false, reduceIte, eq_self, Int.reduceEq, true_and, and_true, not_true_eq_false, not_false_eq_true] at hc)) | (refine fun (hc : _ = _) => ?_; try (simp (disch := decide) only [up_n, up_s, cp_n, rw_n, rw_s, up1_, if_true, if_false, ite_true, ite_false, reduceIte, eq_self, Int.reduceEq, true_and, and_true, not_true_eq_false, not_false_eq_true] at hc)))
    all_goals first | (exfalso; omega) | skip
    · have hh := fun q => m_end_l (M := fr_up (fr_up (fr_up (rw_ M 90 (av (M 90) a2 a3 a4 a5)) 82 b k) 83 b n) 86 b (-9)) (b := b) (k := k) (a2 := a2) (a3 := a3) (a4 := a4) (a5 := a5) (Q := Q) (by omega) hnr q 4 0 (M 84) (M 85) (by omega) (by omega) WG.zero CG.zero
      refine q_run (hh ?_) ?_
      · intro g84 g85 hg hc2
        have := h1 n g84 g85 hnw hek (by rw [← rw_at (M := M) (k := 90) (g := av (M 90) a2 a3 a4 a5)]; exact hg) hc2
        rw [if_neg (by omega)] at this
        exact this
      · exact (congrArg (fun m => rw_ m 85 (M 85)) (rw_id (k := 84))).trans (rw_id (k := 85))
    · have hh := fun q => m_end_l (M := fr_up (fr_up (fr_up (rw_ M 90 (av (M 90) a2 a3 a4 a5)) 82 b k) 83 b n) 86 b a3) (b := b) (k := k) (a2 := a2) (a3 := a3) (a4 := a4) (a5 := a5) (Q := Q) (by omega) hnr q 4 0 (M 84) (M 85) (by omega) (by omega) WG.zero CG.zero
      refine q_run (hh ?_) ?_
      · intro g84 g85 hg hc2
        have := h1 n g84 g85 hnw hek (by rw [← rw_at (M := M) (k := 90) (g := av (M 90) a2 a3 a4 a5)]; exact hg) hc2
        rw [if_pos (by omega)] at this
        exact this
      · exact (congrArg (fun m => rw_ m 85 (M 85)) (rw_id (k := 84))).trans (rw_id (k := 85))
  · rw [rw_at] at hnw hek
    repeat' (first | (refine And.intro (by first | omega | (simp (disch := decide) only [up_n, up_s, cp_n, rw_n, rw_s, up1_, if_true, if_false, ite_true, ite_false, reduceIte, eq_self, Int.reduceEq, true_and, and_true, not_true_eq_false, not_false_eq_true]; omega)) ?_) | (refine And.intro (fun hc => ?_) (fun hc => ?_) <;> (try (simp (disch := decide) only [up_n, up_s, cp_n, rw_n, rw_s, up1_, if_true, if_false, ite_true, ite_false, reduceIte, eq_self, Int.reduceEq, true_and, and_true, not_true_eq_false, not_false_eq_true] at hc)) <;> (try (exfalso; omega))) | (refine fun (hc : ¬ _) => ?_; try (simp (disch := decide) only [up_n, up_s, cp_n, rw_n, rw_s, up1_, if_true, if_false, ite_true, ite_false, reduceIte, eq_self, Int.reduceEq, true_and, and_true, not_true_eq_false, not_false_eq_true] at hc)) | (refine fun (hc : _ = _) => ?_; try (simp (disch := decide) only [up_n, up_s, cp_n, rw_n, rw_s, up1_, if_true, if_false, ite_true, ite_false, reduceIte, eq_self, Int.reduceEq, true_and, and_true, not_true_eq_false, not_false_eq_true] at hc)))
    all_goals first | (exfalso; omega) | exact h0 n hnw hek
