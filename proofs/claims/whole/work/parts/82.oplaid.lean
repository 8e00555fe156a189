set_option maxHeartbeats 4000000 in
set_option maxRecDepth 100000 in
theorem op_laid {n : Int} {M : fr_M} (hR : Rel n M) (hn : n ≤ 512) (a0 : Int) (a1 : Int) (g0 : fr_in a0) (g1 : fr_in a1) : Two 125 184 [.inl a0, .inl a1] M (Rel (n + 1)) := by
  have hN := hR.next
  have p4 : M 1 1 = M 75 4 := hR.2.1.2.2.2.1
  have p5 : 0 ≤ M 75 4 := hR.2.1.2.2.2.2.1
  have p6 : M 75 4 ≤ 40 := hR.2.1.2.2.2.2.2
  refine Two.of ?_
  by_cases hs : (0 ≤ a0 ∧ a0 < M 75 4) ∧ 0 ≤ a1 ∧ a1 ≤ 5
  · obtain ⟨hb, ha⟩ := hs
    refine fr_cgo k125 [some (.inr (.inl 0)), some (.inl a0), some (.inl a1)] 0 0 [] 400 rfl rfl rfl rfl ?_
    repeat' (first | (refine And.intro (by first | omega | (simp (disch := decide) only [up_n, up_s, cp_n, rw_n, rw_s, up1_, if_true, if_false, ite_true, ite_false, reduceIte, eq_self, Int.reduceEq, true_and, and_true, not_true_eq_false, not_false_eq_true]; omega)) ?_) | (refine c_isBlock (fun hc => ?_) (fun hc => ?_) <;> (try (simp (disch := decide) only [up_n, up_s, cp_n, rw_n, rw_s, up1_, if_true, if_false, ite_true, ite_false, reduceIte, eq_self, Int.reduceEq, true_and, and_true, not_true_eq_false, not_false_eq_true] at hc))) | (refine And.intro (fun hc => ?_) (fun hc => ?_) <;> (try (simp (disch := decide) only [up_n, up_s, cp_n, rw_n, rw_s, up1_, if_true, if_false, ite_true, ite_false, reduceIte, eq_self, Int.reduceEq, true_and, and_true, not_true_eq_false, not_false_eq_true] at hc)) <;> (try (exfalso; omega))) | (refine fun (hc : ¬ _) => ?_; try (simp (disch := decide) only [up_n, up_s, cp_n, rw_n, rw_s, up1_, if_true, if_false, ite_true, ite_false, reduceIte, eq_self, Int.reduceEq, true_and, and_true, not_true_eq_false, not_false_eq_true] at hc)) | (refine fun (hc : _ = _) => ?_; try (simp (disch := decide) only [up_n, up_s, cp_n, rw_n, rw_s, up1_, if_true, if_false, ite_true, ite_false, reduceIte, eq_self, Int.reduceEq, true_and, and_true, not_true_eq_false, not_false_eq_true] at hc)))
    all_goals first | (exfalso; omega) | skip
    refine op_settle hR hn (fun M1 hf hR1 hL e18 => ?_)
    have hw := hR1.wf
    obtain ⟨T, hT⟩ := hL
    have e4 : M1 75 4 = M 75 4 := hf 75 4 (by omega)
    obtain ⟨e31, e32, e33, e37, e38⟩ := hT.2.2.2.1 a0 hb.1 (show a0 < M1 75 4 by omega)
    have hsl := hT.2.2.2.2
    have hb1 : 0 ≤ a0 ∧ a0 < pg M1 75 4 := ⟨hb.1, show a0 < M1 75 4 by omega⟩
    have hab := ad_b hw (lg := lgT (pg M1) T) hb1
    have h6 : M1 6 a0 = M1 80 a0 := (hR1.2.2.2.2.1 a0 hb.1 (by omega)).2.2.2.2.2.2.1
    have hsz : 1 ≤ M1 80 a0 ∧ M1 80 a0 ≤ 200 := (hw.2.2.2.2.2.1 a0 hb1.1 hb1.2).1
    have eea : ea (pg M1) (lgT (pg M1) T) a0 = ad (pg M1) (lgT (pg M1) T) a0 + M1 80 a0 := rfl
    have h34 : ∀ s, s = 2 * a0 ∨ s = 2 * a0 + 1 → M1 34 s = tg (pg M1) s ∧ M1 36 s = lgT (pg M1) T s := fun s q => ⟨(hsl s (by omega) (show s < 2 * M1 75 4 by omega)).1, (hsl s (by omega) (show s < 2 * M1 75 4 by omega)).2.1⟩
    have j1 := js_b (p := pg M1) (lg := lgT (pg M1) T) (z := 1) (s := 2 * a0)
    have j2 := js_b (p := pg M1) (lg := lgT (pg M1) T) (z := 1) (s := 2 * a0 + 1)
    have j3 := js_b (p := pg M1) (lg := lgT (pg M1) T) (z := 0) (s := 2 * a0)
    have j4 := js_b (p := pg M1) (lg := lgT (pg M1) T) (z := 0) (s := 2 * a0 + 1)
    have t1 := tn_b (p := pg M1) (t := T) (s := 2 * a0)
    have t2 := tn_b (p := pg M1) (t := T) (s := 2 * a0 + 1)
    have hlt : lt_ (pg M1) T a0 = max (tnT (pg M1) T (2 * a0)) (tnT (pg M1) T (2 * a0 + 1)) := rfl
    have href : ∀ v, (∀ M2 T2, RefP (pg M1) T2 M2 → (a1 = 0 → M2 98 a0 = v) ∧ (a1 = 1 → M2 100 a0 = v) ∧ (a1 = 2 → M2 100 a0 - M2 99 a0 = v)) → (a1 = 3 → js (pg M1) (lgT (pg M1) T) 1 (2 * a0) + js (pg M1) (lgT (pg M1) T) 1 (2 * a0 + 1) = v) → (a1 = 4 → js (pg M1) (lgT (pg M1) T) 1 (2 * a0) + js (pg M1) (lgT (pg M1) T) 1 (2 * a0 + 1) + js (pg M1) (lgT (pg M1) T) 0 (2 * a0) + js (pg M1) (lgT (pg M1) T) 0 (2 * a0 + 1) = v) → (a1 = 5 → lt_ (pg M1) T a0 = v) → fr_Call 184 [.inr (.inl 75), .inl a0, .inl a1] sh0 M1 (fun r2 sh2 M2 => sh2 = sh0 ∧ r2 = some (.inl v) ∧ Rel (n + 1) M2) := by
      intro v v0 v3 v4 v5
      obtain ⟨h0, h1, h2, h3, h4, h5, h6, h7, h8, o1, o2, o3, k1, k2, k3, k4, k5, t1, t2, s1, r1, r1', r2, r2', r3, r4, l⟩ := id hR1
      refine fr_cgo k184 [some (.inr (.inl 75)), some (.inl a0), some (.inl a1), none, none, none, none] 0 0 [23] 400 rfl rfl rfl rfl ?_
      repeat' (first | (refine And.intro (by first | omega | (simp (disch := decide) only [up_n, up_s, cp_n, rw_n, rw_s, up1_, if_true, if_false, ite_true, ite_false, reduceIte, eq_self, Int.reduceEq, true_and, and_true, not_true_eq_false, not_false_eq_true]; omega)) ?_) | (refine m_isBlock (by first | omega | (simp (disch := decide) only [up_n, up_s, cp_n, rw_n, rw_s, up1_, if_true, if_false, ite_true, ite_false, reduceIte, eq_self, Int.reduceEq, true_and, and_true, not_true_eq_false, not_false_eq_true]; omega)) (fun hc => ?_) (fun hc => ?_) <;> (try (simp (disch := decide) only [up_n, up_s, cp_n, rw_n, rw_s, up1_, if_true, if_false, ite_true, ite_false, reduceIte, eq_self, Int.reduceEq, true_and, and_true, not_true_eq_false, not_false_eq_true] at hc))) | (refine m_in (fun hc => ?_) (fun hc => ?_) <;> (try (simp (disch := decide) only [up_n, up_s, cp_n, rw_n, rw_s, up1_, if_true, if_false, ite_true, ite_false, reduceIte, eq_self, Int.reduceEq, true_and, and_true, not_true_eq_false, not_false_eq_true] at hc))) | (refine And.intro (fun hc => ?_) (fun hc => ?_) <;> (try (simp (disch := decide) only [up_n, up_s, cp_n, rw_n, rw_s, up1_, if_true, if_false, ite_true, ite_false, reduceIte, eq_self, Int.reduceEq, true_and, and_true, not_true_eq_false, not_false_eq_true] at hc)) <;> (try (exfalso; omega))) | (refine fun (hc : ¬ _) => ?_; try (simp (disch := decide) only [up_n, up_s, cp_n, rw_n, rw_s, up1_, if_true, if_false, ite_true, ite_false, reduceIte, eq_self, Int.reduceEq, true_and, and_true, not_true_eq_false, not_false_eq_true] at hc)) | (refine fun (hc : _ = _) => ?_; try (simp (disch := decide) only [up_n, up_s, cp_n, rw_n, rw_s, up1_, if_true, if_false, ite_true, ite_false, reduceIte, eq_self, Int.reduceEq, true_and, and_true, not_true_eq_false, not_false_eq_true] at hc)))
      all_goals first | (exfalso; omega) | skip
      refine m_lays hw h1 h2 h4 o1 s1 (fun M2 T2 hf2 hP => ?_)
      have hR2 := hR1.ref hf2
      have eT : T2 = T := T_uniq hP.1 hT.1
      subst eT
      have vv := v0 M2 T2 hP
      obtain ⟨-, -, -, hbl, hsl2⟩ := hP
      have s0' := hsl2 (2 * a0) (by omega) (show 2 * a0 < 2 * M1 75 4 by omega)
      have s1' := hsl2 (2 * a0 + 1) (by omega) (show 2 * a0 + 1 < 2 * M1 75 4 by omega)
      have tr0 := tg_rng hw (s := 2 * a0) ⟨by omega, show 2 * a0 < 2 * M1 75 4 by omega⟩
      have tr1 := tg_rng hw (s := 2 * a0 + 1) ⟨by omega, show 2 * a0 + 1 < 2 * M1 75 4 by omega⟩
      have hbl := hbl a0 hb1.1 hb1.2
      clear v0 hsl hT
      repeat' (first | (refine And.intro (by first | omega | (simp (disch := decide) only [up_n, up_s, cp_n, rw_n, rw_s, up1_, if_true, if_false, ite_true, ite_false, reduceIte, eq_self, Int.reduceEq, true_and, and_true, not_true_eq_false, not_false_eq_true]; omega)) ?_) | (refine And.intro (fun hc => ?_) (fun hc => ?_) <;> (try (simp (disch := decide) only [up_n, up_s, cp_n, rw_n, rw_s, up1_, if_true, if_false, ite_true, ite_false, reduceIte, eq_self, Int.reduceEq, true_and, and_true, not_true_eq_false, not_false_eq_true] at hc)) <;> (try (exfalso; omega))) | (refine fun (hc : ¬ _) => ?_; try (simp (disch := decide) only [up_n, up_s, cp_n, rw_n, rw_s, up1_, if_true, if_false, ite_true, ite_false, reduceIte, eq_self, Int.reduceEq, true_and, and_true, not_true_eq_false, not_false_eq_true] at hc)) | (refine fun (hc : _ = _) => ?_; try (simp (disch := decide) only [up_n, up_s, cp_n, rw_n, rw_s, up1_, if_true, if_false, ite_true, ite_false, reduceIte, eq_self, Int.reduceEq, true_and, and_true, not_true_eq_false, not_false_eq_true] at hc)))
      refine m_ld_s (p := pg M1) (T := T2) (by omega) (Or.inl rfl) (by omega) (by omega) s0'.1 (by omega) s0'.2.1 s0'.2.2.1 ?_
      refine m_ld_s (p := pg M1) (T := T2) (by omega) (Or.inr rfl) (by omega) (by omega) s1'.1 (by omega) s1'.2.1 s1'.2.2.1 ?_
      refine fr_go k184 [] 400 rfl ?_
      rcases (show a1 = 0 ∨ a1 = 1 ∨ a1 = 2 ∨ a1 = 3 ∨ a1 = 4 ∨ a1 = 5 by omega) with rfl | rfl | rfl | rfl | rfl | rfl
      all_goals (repeat' (first | (refine And.intro (by first | omega | (simp (disch := decide) only [up_n, up_s, cp_n, rw_n, rw_s, up1_, if_true, if_false, ite_true, ite_false, reduceIte, eq_self, Int.reduceEq, true_and, and_true, not_true_eq_false, not_false_eq_true]; omega)) ?_) | (refine And.intro (fun hc => ?_) (fun hc => ?_) <;> (try (simp (disch := decide) only [up_n, up_s, cp_n, rw_n, rw_s, up1_, if_true, if_false, ite_true, ite_false, reduceIte, eq_self, Int.reduceEq, true_and, and_true, not_true_eq_false, not_false_eq_true] at hc)) <;> (try (exfalso; omega))) | (refine fun (hc : ¬ _) => ?_; try (simp (disch := decide) only [up_n, up_s, cp_n, rw_n, rw_s, up1_, if_true, if_false, ite_true, ite_false, reduceIte, eq_self, Int.reduceEq, true_and, and_true, not_true_eq_false, not_false_eq_true] at hc)) | (refine fun (hc : _ = _) => ?_; try (simp (disch := decide) only [up_n, up_s, cp_n, rw_n, rw_s, up1_, if_true, if_false, ite_true, ite_false, reduceIte, eq_self, Int.reduceEq, true_and, and_true, not_true_eq_false, not_false_eq_true] at hc))))
      all_goals first | (exfalso; omega) | skip
      · exact ⟨rfl, sv (vv.1 rfl), hR2⟩
      · exact ⟨rfl, sv (vv.2.1 rfl), hR2⟩
      · exact ⟨rfl, sv (vv.2.2 rfl), hR2⟩
      · exact ⟨rfl, sv (by have := v3 rfl; omega), hR2⟩
      · exact ⟨rfl, sv (by have := v4 rfl; omega), hR2⟩
      · exact ⟨rfl, sv (by have := v5 rfl; rw [hlt] at this; omega), hR2⟩
    clear hsl
    rcases (show a1 = 0 ∨ a1 = 1 ∨ a1 = 2 ∨ a1 = 3 ∨ a1 = 4 ∨ a1 = 5 by omega) with rfl | rfl | rfl | rfl | rfl | rfl
    all_goals (repeat' (first | (refine And.intro (by first | omega | (simp (disch := decide) only [up_n, up_s, cp_n, rw_n, rw_s, up1_, if_true, if_false, ite_true, ite_false, reduceIte, eq_self, Int.reduceEq, true_and, and_true, not_true_eq_false, not_false_eq_true]; omega)) ?_) | (refine c_endAddress (by first | omega | (simp (disch := decide) only [up_n, up_s, cp_n, rw_n, rw_s, up1_, if_true, if_false, ite_true, ite_false, reduceIte, eq_self, Int.reduceEq, true_and, and_true, not_true_eq_false, not_false_eq_true]; omega)) (by first | omega | (simp (disch := decide) only [up_n, up_s, cp_n, rw_n, rw_s, up1_, if_true, if_false, ite_true, ite_false, reduceIte, eq_self, Int.reduceEq, true_and, and_true, not_true_eq_false, not_false_eq_true]; omega)) ?_) | (refine c_jumpsOf (p := pg M1) (lg := lgT (pg M1) T) (by omega) (by omega) h34 ?_) | (refine And.intro (fun hc => ?_) (fun hc => ?_) <;> (try (simp (disch := decide) only [up_n, up_s, cp_n, rw_n, rw_s, up1_, if_true, if_false, ite_true, ite_false, reduceIte, eq_self, Int.reduceEq, true_and, and_true, not_true_eq_false, not_false_eq_true] at hc)) <;> (try (exfalso; omega))) | (refine fun (hc : ¬ _) => ?_; try (simp (disch := decide) only [up_n, up_s, cp_n, rw_n, rw_s, up1_, if_true, if_false, ite_true, ite_false, reduceIte, eq_self, Int.reduceEq, true_and, and_true, not_true_eq_false, not_false_eq_true] at hc)) | (refine fun (hc : _ = _) => ?_; try (simp (disch := decide) only [up_n, up_s, cp_n, rw_n, rw_s, up1_, if_true, if_false, ite_true, ite_false, reduceIte, eq_self, Int.reduceEq, true_and, and_true, not_true_eq_false, not_false_eq_true] at hc))))
    all_goals first | (exfalso; omega) | refine ⟨rfl, _, rfl, ?_⟩
    · refine href _ (fun M2 T2 hP => ⟨fun _ => ?_, fun q => by omega, fun q => by omega⟩) (fun q => by omega) (fun q => by omega) (fun q => by omega)
      have eT : T2 = T := T_uniq hP.1 hT.1
      subst eT
      rw [(hP.2.2.2.1 a0 hb1.1 hb1.2).2.1, e32]
    · refine href _ (fun M2 T2 hP => ⟨fun q => by omega, fun _ => ?_, fun q => by omega⟩) (fun q => by omega) (fun q => by omega) (fun q => by omega)
      have eT : T2 = T := T_uniq hP.1 hT.1
      subst eT
      rw [(hP.2.2.2.1 a0 hb1.1 hb1.2).2.2.2, e33]
    · refine href _ (fun M2 T2 hP => ⟨fun q => by omega, fun q => by omega, fun _ => ?_⟩) (fun q => by omega) (fun q => by omega) (fun q => by omega)
      have eT : T2 = T := T_uniq hP.1 hT.1
      subst eT
      rw [(hP.2.2.2.1 a0 hb1.1 hb1.2).2.2.2, (hP.2.2.2.1 a0 hb1.1 hb1.2).2.2.1, e33, e32, eea, h6]
    · exact href _ (fun M2 T2 hP => ⟨fun q => by omega, fun q => by omega, fun q => by omega⟩) (fun _ => by omega) (fun q => by omega) (fun q => by omega)
    · exact href _ (fun M2 T2 hP => ⟨fun q => by omega, fun q => by omega, fun q => by omega⟩) (fun q => by omega) (fun _ => by omega) (fun q => by omega)
    · exact href _ (fun M2 T2 hP => ⟨fun q => by omega, fun q => by omega, fun q => by omega⟩) (fun q => by omega) (fun q => by omega) (fun _ => e38.symm)
  · refine fr_cgo k125 [some (.inr (.inl 0)), some (.inl a0), some (.inl a1)] 0 0 [] 400 rfl rfl rfl rfl ?_
    repeat' (first | (refine And.intro (by first | omega | (simp (disch := decide) only [up_n, up_s, cp_n, rw_n, rw_s, up1_, if_true, if_false, ite_true, ite_false, reduceIte, eq_self, Int.reduceEq, true_and, and_true, not_true_eq_false, not_false_eq_true]; omega)) ?_) | (refine c_isBlock (fun hc => ?_) (fun hc => ?_) <;> (try (simp (disch := decide) only [up_n, up_s, cp_n, rw_n, rw_s, up1_, if_true, if_false, ite_true, ite_false, reduceIte, eq_self, Int.reduceEq, true_and, and_true, not_true_eq_false, not_false_eq_true] at hc))) | (refine And.intro (fun hc => ?_) (fun hc => ?_) <;> (try (simp (disch := decide) only [up_n, up_s, cp_n, rw_n, rw_s, up1_, if_true, if_false, ite_true, ite_false, reduceIte, eq_self, Int.reduceEq, true_and, and_true, not_true_eq_false, not_false_eq_true] at hc)) <;> (try (exfalso; omega))) | (refine fun (hc : ¬ _) => ?_; try (simp (disch := decide) only [up_n, up_s, cp_n, rw_n, rw_s, up1_, if_true, if_false, ite_true, ite_false, reduceIte, eq_self, Int.reduceEq, true_and, and_true, not_true_eq_false, not_false_eq_true] at hc)) | (refine fun (hc : _ = _) => ?_; try (simp (disch := decide) only [up_n, up_s, cp_n, rw_n, rw_s, up1_, if_true, if_false, ite_true, ite_false, reduceIte, eq_self, Int.reduceEq, true_and, and_true, not_true_eq_false, not_false_eq_true] at hc)))
    all_goals first | (exfalso; omega) | refine ⟨rfl, _, rfl, ?_⟩
    all_goals (refine fr_cgo k184 [some (.inr (.inl 75)), some (.inl a0), some (.inl a1), none, none, none, none] 0 0 [] 400 rfl rfl rfl rfl ?_)
    all_goals (repeat' (first | (refine And.intro (by first | omega | (simp (disch := decide) only [up_n, up_s, cp_n, rw_n, rw_s, up1_, if_true, if_false, ite_true, ite_false, reduceIte, eq_self, Int.reduceEq, true_and, and_true, not_true_eq_false, not_false_eq_true]; omega)) ?_) | (refine m_isBlock (by first | omega | (simp (disch := decide) only [up_n, up_s, cp_n, rw_n, rw_s, up1_, if_true, if_false, ite_true, ite_false, reduceIte, eq_self, Int.reduceEq, true_and, and_true, not_true_eq_false, not_false_eq_true]; omega)) (fun hc => ?_) (fun hc => ?_) <;> (try (simp (disch := decide) only [up_n, up_s, cp_n, rw_n, rw_s, up1_, if_true, if_false, ite_true, ite_false, reduceIte, eq_self, Int.reduceEq, true_and, and_true, not_true_eq_false, not_false_eq_true] at hc))) | (refine m_in (fun hc => ?_) (fun hc => ?_) <;> (try (simp (disch := decide) only [up_n, up_s, cp_n, rw_n, rw_s, up1_, if_true, if_false, ite_true, ite_false, reduceIte, eq_self, Int.reduceEq, true_and, and_true, not_true_eq_false, not_false_eq_true] at hc))) | (refine And.intro (fun hc => ?_) (fun hc => ?_) <;> (try (simp (disch := decide) only [up_n, up_s, cp_n, rw_n, rw_s, up1_, if_true, if_false, ite_true, ite_false, reduceIte, eq_self, Int.reduceEq, true_and, and_true, not_true_eq_false, not_false_eq_true] at hc)) <;> (try (exfalso; omega))) | (refine fun (hc : ¬ _) => ?_; try (simp (disch := decide) only [up_n, up_s, cp_n, rw_n, rw_s, up1_, if_true, if_false, ite_true, ite_false, reduceIte, eq_self, Int.reduceEq, true_and, and_true, not_true_eq_false, not_false_eq_true] at hc)) | (refine fun (hc : _ = _) => ?_; try (simp (disch := decide) only [up_n, up_s, cp_n, rw_n, rw_s, up1_, if_true, if_false, ite_true, ite_false, reduceIte, eq_self, Int.reduceEq, true_and, and_true, not_true_eq_false, not_false_eq_true] at hc))))
    all_goals first | (exfalso; omega) | exact ⟨rfl, rfl, hN⟩
