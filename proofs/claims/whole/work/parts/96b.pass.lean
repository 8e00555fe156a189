set_option maxHeartbeats 4000000 in
set_option maxRecDepth 100000 in
theorem m_passes {N p : fr_M} {tp : Int → Int} {z b ch : Int} {st : List Int} {mo : Int} {tk : Int → Int} {jm tj ts : Int} {k : Nat} {o : Int} {g gc gt : Int → Int} {Q : Option fr_V → fr_H → fr_M → Prop} (hw : WF p) (hN : QN p tp N) (hL : QL p z N) (hS : SI p k (b, ch, st, mo, tk, jm, tj, ts)) (hk : k ≤ 200) (h0 : 0 ≤ b) (hC : MR z o g gc gt (b, ch, st, mo, tk, jm, tj, ts)) (h8 : 0 ≤ g 8 ∧ g 8 ≤ 1000) (h : ∀ o' g' gc' gt', MR z o' g' gc' gt' (stp p tp (b, ch, st, mo, tk, jm, tj, ts)) → (g' 0 = g 0 ∧ g' 1 = g 1 ∧ g' 8 = g 8) → Q (some (.inl (stp p tp (b, ch, st, mo, tk, jm, tj, ts)).1)) sh0 (rw_ (rw_ (rw_ (fr_up N 75 50 o') 111 g') 113 gc') 115 gt')) : fr_Call 197 [.inr (.inl 75), .inl b, .inl z] sh0 (rw_ (rw_ (rw_ (fr_up N 75 50 o) 111 g) 113 gc) 115 gt) Q := by
  obtain ⟨s1, s2, s3, s4, s5, s6, s7, s8, s9⟩ := hS
  have hb : 0 ≤ b ∧ b < p 75 4 := ⟨h0, s1.2⟩
  have h40 := hw.1.1
  replace s2 : 0 ≤ ch ∧ ch ≤ (k : Int) := s2
  replace s4 : st.length ≤ 8 := s4
  replace s5 : 0 ≤ mo ∧ mo ≤ 8 := s5
  replace s6 : ∀ i, 0 ≤ tk i ∧ tk i ≤ (k : Int) := s6
  replace s7 : 0 ≤ jm ∧ jm ≤ (k : Int) := s7
  replace s8 : 0 ≤ tj ∧ tj ≤ (k : Int) := s8
  replace s9 : 0 ≤ ts ∧ ts ≤ (k : Int) := s9
  clear s1
  obtain ⟨c1, c2, c3, c4, c5, c6, c7⟩ := hC
  replace c1 : g 2 = ch := c1
  replace c2 : o = (st.length : Int) := c2
  replace c3 : g 3 = mo := c3
  replace c4 : ∀ i, 0 ≤ i → i < 160 → gt i = tk i := c4
  replace c5 : ∀ (j : Nat) (x : Int), st[j]? = some x → gc ((st.length : Int) - 1 - (j : Int)) = x := c5
  replace c7 : z = 1 → g 5 = jm ∧ g 6 = tj ∧ g 7 = ts ∧ g 4 = 2 * g 5 + 3 * g 6 + g 7 + 50 * g 8 := c7
  have hp := hN.1
  have hz := hL.1
  have ek : ∀ x, p 82 x = N 82 x := fun x => by rw [← hp]; rfl
  have e84 : ∀ x, p 84 x = N 84 x := fun x => by rw [← hp]; rfl
  have e77 : ∀ x, p 77 x = N 77 x := fun x => by rw [← hp]; rfl
  have e86 : p 86 b = N 86 b := by rw [← hp]; rfl
  have ekb := ek b
  obtain ⟨w1', w2', w3', w4', w5', w6', w7', w8'⟩ := hw.2.2.2.2.2.1 b hb.1 hb.2
  have hwy := hw.2.2.2.2.2.2
  have tail : ∀ (f w : Int) (o1 : Int) (st1 : List Int) (g1 : Int → Int) (ch1 : Int), (0 ≤ f ∧ f < p 75 4) → (0 ≤ w ∧ w < p 83 f ∧ w < 4) → p 82 f ≠ 0 → p 82 f ≠ 1 → g1 2 = ch1 → o1 = (st1.length : Int) → (∀ (j : Nat) (x : Int), st1[j]? = some x → gc ((st1.length : Int) - 1 - (j : Int)) = x) → (∀ i, i ≠ 2 → g1 i = g i) → stp p tp (b, ch, st, mo, tk, jm, tj, ts) = tkw p ch1 st1 mo tk jm tj ts f w → ∀ x3, fr_Run 197 none 84 [some (.inr (.inl 75)), some (.inl b), some (.inl z), x3, some (.inl f), some (.inl w)] [] sh0 (rw_ (rw_ (rw_ (fr_up N 75 50 o1) 111 g1) 113 gc) 115 gt) 0 0 Q := by
    intro f w o1 st1 g1 ch1 hf hwr kf0 kf1 d1 d2 d5 dg es x3
    rw [es] at h
    have hkf := (hw.2.2.2.2.2.1 f hf.1 hf.2)
    have ekf := ek f
    have hq := hwy f w hf.1 hf.2 hwr.1 hwr.2.1
    have htk := s6 (4 * f + w)
    have hgt := c4 (4 * f + w) (by omega) (by omega)
    have d3 := dg 3 (by omega)
    have d4 := dg 4 (by omega)
    have dd5 := dg 5 (by omega)
    have d6 := dg 6 (by omega)
    have d7 := dg 7 (by omega)
    have d8 := dg 8 (by omega)
    have d0 := dg 0 (by omega)
    have d1' := dg 1 (by omega)
    have hgt' := gt_up c4 (x := 4 * f + w) (y := 4 * f + w) (by omega) rfl
    have hch : (tkw p ch1 st1 mo tk jm tj ts f w).2.1 = ch1 := rfl
    rcases hz with hz0 | hz1
    · have hh := h o1 g1 gc (up1 gt (4 * f + w) (gt (4 * f + w) + 1)) ⟨d1, d2, by rw [d3]; exact c3, hgt', d5, fun q => by rw [d4, dd5, d6, d7]; exact c6 q, fun q => by omega⟩ ⟨d0, d1', d8⟩
      have hh2 : Q (some (.inl (p 84 (4 * f + w)))) sh0 (rw_ (rw_ (rw_ (fr_up N 75 50 o1) 111 g1) 113 gc) 115 (up1 gt (4 * f + w) (gt (4 * f + w) + 1))) := hh
      rw [e84] at hh2
      clear h hh c4 c5 c6 c7 d5 hgt' dg
      refine fr_go k197 [] 400 rfl ?_
      repeat' (first | (refine And.intro (by first | omega | (simp (disch := decide) only [up_n, up_s, cp_n, rw_n, rw_s, up1_, if_true, if_false, ite_true, ite_false, reduceIte, eq_self, Int.reduceEq, true_and, and_true, not_true_eq_false, not_false_eq_true]; omega)) ?_) | (refine And.intro (fun hc => ?_) (fun hc => ?_) <;> (try (simp (disch := decide) only [up_n, up_s, cp_n, rw_n, rw_s, up1_, if_true, if_false, ite_true, ite_false, reduceIte, eq_self, Int.reduceEq, true_and, and_true, not_true_eq_false, not_false_eq_true] at hc)) <;> (try (exfalso; omega))) | (refine fun (hc : ¬ _) => ?_; try (simp (disch := decide) only [up_n, up_s, cp_n, rw_n, rw_s, up1_, if_true, if_false, ite_true, ite_false, reduceIte, eq_self, Int.reduceEq, true_and, and_true, not_true_eq_false, not_false_eq_true] at hc)) | (refine fun (hc : _ = _) => ?_; try (simp (disch := decide) only [up_n, up_s, cp_n, rw_n, rw_s, up1_, if_true, if_false, ite_true, ite_false, reduceIte, eq_self, Int.reduceEq, true_and, and_true, not_true_eq_false, not_false_eq_true] at hc)))
      all_goals first | (exfalso; omega) | (exfalso; simp (disch := decide) only [up_n, up_s, cp_n, rw_n, rw_s, up1_, if_true, if_false, ite_true, ite_false, reduceIte, eq_self, Int.reduceEq, true_and, and_true, not_true_eq_false, not_false_eq_true] at *; omega) | skip
      show Q (some (.inl _)) sh0 _
      simp (disch := decide) only [up_n, up_s, cp_n, rw_n, rw_s, up1_, if_true, if_false, ite_true, ite_false, reduceIte, eq_self, Int.reduceEq, true_and, and_true, not_true_eq_false, not_false_eq_true]
      simp (disch := decide) only [up_rw, rw_u, up_up, rw_rw, rw_cm]
      exact hh2
    · obtain ⟨l97, l101⟩ := hL.2 hz1
      have c7 := c7 hz1
      have l101f := l101 (2 * f + 1) (by omega) (by omega)
      rw [tg_odd] at l101f
      have l97f := l97 f hf.1 hf.2
      have gtr : 0 ≤ gt (4 * f + w) ∧ gt (4 * f + w) ≤ 200 := by omega
      have hpN : pg (fr_up N 75 50 o1) = p := by rw [pg_up (by omega)]; exact hp
      by_cases kf3 : p 82 f = 3
      · have hn2 := hkf.2.2.2.2.2.1 (Or.inl kf3)
        have hh := h o1 (tgr p f w g1) gc (up1 gt (4 * f + w) (gt (4 * f + w) + 1)) ⟨?_, d2, ?_, hgt', d5, fun q => by omega, fun _ => ?_⟩ ⟨?_, ?_, ?_⟩
        · have hh2 : Q (some (.inl (p 84 (4 * f + w)))) sh0 (rw_ (rw_ (rw_ (fr_up N 75 50 o1) 111 (tgr p f w g1)) 113 gc) 115 (up1 gt (4 * f + w) (gt (4 * f + w) + 1))) := hh
          rw [e84] at hh2
          clear h hh c4 c5 c6 d5 hgt' dg
          refine fr_go k197 [] 400 rfl ?_
          repeat' (first | (refine And.intro (by first | omega | (simp (disch := decide) only [up_n, up_s, cp_n, rw_n, rw_s, up1_, if_true, if_false, ite_true, ite_false, reduceIte, eq_self, Int.reduceEq, true_and, and_true, not_true_eq_false, not_false_eq_true]; omega)) ?_) | (refine And.intro (fun hc => ?_) (fun hc => ?_) <;> (try (simp (disch := decide) only [up_n, up_s, cp_n, rw_n, rw_s, up1_, if_true, if_false, ite_true, ite_false, reduceIte, eq_self, Int.reduceEq, true_and, and_true, not_true_eq_false, not_false_eq_true] at hc)) <;> (try (exfalso; omega))) | (refine fun (hc : ¬ _) => ?_; try (simp (disch := decide) only [up_n, up_s, cp_n, rw_n, rw_s, up1_, if_true, if_false, ite_true, ite_false, reduceIte, eq_self, Int.reduceEq, true_and, and_true, not_true_eq_false, not_false_eq_true] at hc)) | (refine fun (hc : _ = _) => ?_; try (simp (disch := decide) only [up_n, up_s, cp_n, rw_n, rw_s, up1_, if_true, if_false, ite_true, ite_false, reduceIte, eq_self, Int.reduceEq, true_and, and_true, not_true_eq_false, not_false_eq_true] at hc)))
          all_goals first | (exfalso; omega) | (exfalso; simp (disch := decide) only [up_n, up_s, cp_n, rw_n, rw_s, up1_, if_true, if_false, ite_true, ite_false, reduceIte, eq_self, Int.reduceEq, true_and, and_true, not_true_eq_false, not_false_eq_true] at *; omega) | skip
          all_goals (show fr_Call 195 _ sh0 _ _)
          simp (disch := decide) only [up_n, up_s, cp_n, rw_n, rw_s, up1_, if_true, if_false, ite_true, ite_false, reduceIte, eq_self, Int.reduceEq, true_and, and_true, not_true_eq_false, not_false_eq_true]
          simp (disch := decide) only [up_rw, rw_u, up_up, rw_rw, rw_cm]
          refine m_tests hp hw hf (by omega) l97f l101f (by omega) (by omega) (by omega) (by omega) ?_
          repeat' (first | (refine And.intro (by first | omega | (simp (disch := decide) only [up_n, up_s, cp_n, rw_n, rw_s, up1_, if_true, if_false, ite_true, ite_false, reduceIte, eq_self, Int.reduceEq, true_and, and_true, not_true_eq_false, not_false_eq_true]; omega)) ?_) | (refine And.intro (fun hc => ?_) (fun hc => ?_) <;> (try (simp (disch := decide) only [up_n, up_s, cp_n, rw_n, rw_s, up1_, if_true, if_false, ite_true, ite_false, reduceIte, eq_self, Int.reduceEq, true_and, and_true, not_true_eq_false, not_false_eq_true] at hc)) <;> (try (exfalso; omega))) | (refine fun (hc : ¬ _) => ?_; try (simp (disch := decide) only [up_n, up_s, cp_n, rw_n, rw_s, up1_, if_true, if_false, ite_true, ite_false, reduceIte, eq_self, Int.reduceEq, true_and, and_true, not_true_eq_false, not_false_eq_true] at hc)) | (refine fun (hc : _ = _) => ?_; try (simp (disch := decide) only [up_n, up_s, cp_n, rw_n, rw_s, up1_, if_true, if_false, ite_true, ite_false, reduceIte, eq_self, Int.reduceEq, true_and, and_true, not_true_eq_false, not_false_eq_true] at hc)))
          exact hh2
        all_goals clear h
        all_goals (unfold tgr)
        all_goals (by_cases hJ : (if tu p f = 1 then w = 1 else w = 0))
        all_goals (try (rw [if_pos hJ]))
        all_goals (try (rw [if_neg hJ]))
        all_goals (by_cases ht1 : tg1 p f ≠ -1)
        all_goals (try (rw [if_pos ht1]))
        all_goals (try (rw [if_neg ht1]))
        all_goals first | exact d1 | (show g1 3 = mo; rw [d3]; exact c3) | exact d0 | exact d1' | exact d8 | skip
        all_goals (simp only [tkw])
        all_goals (simp only [if_pos kf3, hJ, ht1, kf3, if_true, if_false, not_true_eq_false, not_false_eq_true, ne_eq, true_and, and_true, and_false, false_and])
        all_goals (simp only [up1_])
        all_goals (simp)
        all_goals omega
      · by_cases kfj : p 82 f ≠ 4 ∧ w = 0
        · have hh := h o1 (if tg1 p f ≠ -1 then up1 (up1 g1 5 (g1 5 + 1)) 4 (g1 4 + 2) else g1) gc (up1 gt (4 * f + w) (gt (4 * f + w) + 1)) ⟨?_, d2, ?_, hgt', d5, fun q => by omega, fun _ => ?_⟩ ⟨?_, ?_, ?_⟩
          · have hh2 : Q (some (.inl (p 84 (4 * f + w)))) sh0 (rw_ (rw_ (rw_ (fr_up N 75 50 o1) 111 (if tg1 p f ≠ -1 then up1 (up1 g1 5 (g1 5 + 1)) 4 (g1 4 + 2) else g1)) 113 gc) 115 (up1 gt (4 * f + w) (gt (4 * f + w) + 1))) := hh
            rw [e84] at hh2
            clear h hh c4 c5 c6 d5 hgt' dg
            refine fr_go k197 [] 400 rfl ?_
            repeat' (first | (refine And.intro (by first | omega | (simp (disch := decide) only [up_n, up_s, cp_n, rw_n, rw_s, up1_, if_true, if_false, ite_true, ite_false, reduceIte, eq_self, Int.reduceEq, true_and, and_true, not_true_eq_false, not_false_eq_true]; omega)) ?_) | (refine And.intro (fun hc => ?_) (fun hc => ?_) <;> (try (simp (disch := decide) only [up_n, up_s, cp_n, rw_n, rw_s, up1_, if_true, if_false, ite_true, ite_false, reduceIte, eq_self, Int.reduceEq, true_and, and_true, not_true_eq_false, not_false_eq_true] at hc)) <;> (try (exfalso; omega))) | (refine fun (hc : ¬ _) => ?_; try (simp (disch := decide) only [up_n, up_s, cp_n, rw_n, rw_s, up1_, if_true, if_false, ite_true, ite_false, reduceIte, eq_self, Int.reduceEq, true_and, and_true, not_true_eq_false, not_false_eq_true] at hc)) | (refine fun (hc : _ = _) => ?_; try (simp (disch := decide) only [up_n, up_s, cp_n, rw_n, rw_s, up1_, if_true, if_false, ite_true, ite_false, reduceIte, eq_self, Int.reduceEq, true_and, and_true, not_true_eq_false, not_false_eq_true] at hc)))
            all_goals first | (exfalso; omega) | (exfalso; simp (disch := decide) only [up_n, up_s, cp_n, rw_n, rw_s, up1_, if_true, if_false, ite_true, ite_false, reduceIte, eq_self, Int.reduceEq, true_and, and_true, not_true_eq_false, not_false_eq_true] at *; omega) | skip
            all_goals (show fr_Call 194 _ sh0 _ _)
            simp (disch := decide) only [up_n, up_s, cp_n, rw_n, rw_s, up1_, if_true, if_false, ite_true, ite_false, reduceIte, eq_self, Int.reduceEq, true_and, and_true, not_true_eq_false, not_false_eq_true]
            simp (disch := decide) only [up_rw, rw_u, up_up, rw_rw, rw_cm]
            refine m_jumps hw hf l101f (by omega) (by omega) ?_
            repeat' (first | (refine And.intro (by first | omega | (simp (disch := decide) only [up_n, up_s, cp_n, rw_n, rw_s, up1_, if_true, if_false, ite_true, ite_false, reduceIte, eq_self, Int.reduceEq, true_and, and_true, not_true_eq_false, not_false_eq_true]; omega)) ?_) | (refine And.intro (fun hc => ?_) (fun hc => ?_) <;> (try (simp (disch := decide) only [up_n, up_s, cp_n, rw_n, rw_s, up1_, if_true, if_false, ite_true, ite_false, reduceIte, eq_self, Int.reduceEq, true_and, and_true, not_true_eq_false, not_false_eq_true] at hc)) <;> (try (exfalso; omega))) | (refine fun (hc : ¬ _) => ?_; try (simp (disch := decide) only [up_n, up_s, cp_n, rw_n, rw_s, up1_, if_true, if_false, ite_true, ite_false, reduceIte, eq_self, Int.reduceEq, true_and, and_true, not_true_eq_false, not_false_eq_true] at hc)) | (refine fun (hc : _ = _) => ?_; try (simp (disch := decide) only [up_n, up_s, cp_n, rw_n, rw_s, up1_, if_true, if_false, ite_true, ite_false, reduceIte, eq_self, Int.reduceEq, true_and, and_true, not_true_eq_false, not_false_eq_true] at hc)))
            exact hh2
          all_goals clear h
          all_goals (by_cases ht1 : tg1 p f ≠ -1)
          all_goals (try (rw [if_pos ht1]))
          all_goals (try (rw [if_neg ht1]))
          all_goals first | exact d1 | (show g1 3 = mo; rw [d3]; exact c3) | exact d0 | exact d1' | exact d8 | skip
          all_goals (simp only [tkw])
          · rw [if_neg kf3, if_pos ⟨kfj.1, kfj.2, ht1⟩, if_neg (fun q => kf3 q.1), if_neg (fun q => kf3 q.1)]
            simp only [up1_]
            simp
            omega
          · rw [if_neg kf3, if_neg (fun q => ht1 q.2.2), if_neg (fun q => kf3 q.1), if_neg (fun q => kf3 q.1)]
            omega
        · have hh := h o1 g1 gc (up1 gt (4 * f + w) (gt (4 * f + w) + 1)) ⟨d1, d2, by rw [d3]; exact c3, hgt', d5, fun q => by omega, fun _ => ?_⟩ ⟨d0, d1', d8⟩
          · have hh2 : Q (some (.inl (p 84 (4 * f + w)))) sh0 (rw_ (rw_ (rw_ (fr_up N 75 50 o1) 111 g1) 113 gc) 115 (up1 gt (4 * f + w) (gt (4 * f + w) + 1))) := hh
            rw [e84] at hh2
            clear h hh c4 c5 c6 d5 hgt' dg
            refine fr_go k197 [] 400 rfl ?_
            repeat' (first | (refine And.intro (by first | omega | (simp (disch := decide) only [up_n, up_s, cp_n, rw_n, rw_s, up1_, if_true, if_false, ite_true, ite_false, reduceIte, eq_self, Int.reduceEq, true_and, and_true, not_true_eq_false, not_false_eq_true]; omega)) ?_) | (refine And.intro (fun hc => ?_) (fun hc => ?_) <;> (try (simp (disch := decide) only [up_n, up_s, cp_n, rw_n, rw_s, up1_, if_true, if_false, ite_true, ite_false, reduceIte, eq_self, Int.reduceEq, true_and, and_true, not_true_eq_false, not_false_eq_true] at hc)) <;> (try (exfalso; omega))) | (refine fun (hc : ¬ _) => ?_; try (simp (disch := decide) only [up_n, up_s, cp_n, rw_n, rw_s, up1_, if_true, if_false, ite_true, ite_false, reduceIte, eq_self, Int.reduceEq, true_and, and_true, not_true_eq_false, not_false_eq_true] at hc)) | (refine fun (hc : _ = _) => ?_; try (simp (disch := decide) only [up_n, up_s, cp_n, rw_n, rw_s, up1_, if_true, if_false, ite_true, ite_false, reduceIte, eq_self, Int.reduceEq, true_and, and_true, not_true_eq_false, not_false_eq_true] at hc)))
            all_goals first | (exfalso; omega) | (exfalso; simp (disch := decide) only [up_n, up_s, cp_n, rw_n, rw_s, up1_, if_true, if_false, ite_true, ite_false, reduceIte, eq_self, Int.reduceEq, true_and, and_true, not_true_eq_false, not_false_eq_true] at *; omega) | skip
            all_goals (show Q (some (.inl _)) sh0 _)
            all_goals (simp (disch := decide) only [up_n, up_s, cp_n, rw_n, rw_s, up1_, if_true, if_false, ite_true, ite_false, reduceIte, eq_self, Int.reduceEq, true_and, and_true, not_true_eq_false, not_false_eq_true])
            all_goals (simp (disch := decide) only [up_rw, rw_u, up_up, rw_rw, rw_cm])
            all_goals (exact hh2)
          · simp only [tkw]
            rw [if_neg kf3, if_neg (fun q => kfj ⟨q.1, q.2.1⟩), if_neg (fun q => kf3 q.1), if_neg (fun q => kf3 q.1)]
            omega
  by_cases k1 : p 82 b = 1
  · have es : stp p tp (b, ch, st, mo, tk, jm, tj, ts) = (-2, ch, st, mo, tk, jm, tj, ts) := by
      simp only [stp, if_pos k1]
    rw [es] at h
    have hh := h o g gc gt ⟨c1, c2, c3, c4, c5, c6, c7⟩ ⟨rfl, rfl, rfl⟩
    clear h tail c4 c5 hwy c6 c7
    refine fr_cgo k197 [some (.inr (.inl 75)), some (.inl b), some (.inl z), none, none, none] 0 0 [] 400 rfl rfl rfl rfl ?_
    repeat' (first | (refine And.intro (by first | omega | (simp (disch := decide) only [up_n, up_s, cp_n, rw_n, rw_s, up1_, if_true, if_false, ite_true, ite_false, reduceIte, eq_self, Int.reduceEq, true_and, and_true, not_true_eq_false, not_false_eq_true]; omega)) ?_) | (refine And.intro (fun hc => ?_) (fun hc => ?_) <;> (try (simp (disch := decide) only [up_n, up_s, cp_n, rw_n, rw_s, up1_, if_true, if_false, ite_true, ite_false, reduceIte, eq_self, Int.reduceEq, true_and, and_true, not_true_eq_false, not_false_eq_true] at hc)) <;> (try (exfalso; omega))) | (refine fun (hc : ¬ _) => ?_; try (simp (disch := decide) only [up_n, up_s, cp_n, rw_n, rw_s, up1_, if_true, if_false, ite_true, ite_false, reduceIte, eq_self, Int.reduceEq, true_and, and_true, not_true_eq_false, not_false_eq_true] at hc)) | (refine fun (hc : _ = _) => ?_; try (simp (disch := decide) only [up_n, up_s, cp_n, rw_n, rw_s, up1_, if_true, if_false, ite_true, ite_false, reduceIte, eq_self, Int.reduceEq, true_and, and_true, not_true_eq_false, not_false_eq_true] at hc)))
    all_goals first | (exfalso; omega) | (exfalso; simp (disch := decide) only [up_n, up_s, cp_n, rw_n, rw_s, up1_, if_true, if_false, ite_true, ite_false, reduceIte, eq_self, Int.reduceEq, true_and, and_true, not_true_eq_false, not_false_eq_true] at *; omega) | exact hh
  · by_cases k5 : p 82 b = 5
    · by_cases k8 : st.length = 8
      · have es : stp p tp (b, ch, st, mo, tk, jm, tj, ts) = (-3, ch, st, mo, tk, jm, tj, ts) := by
          simp only [stp, if_neg k1, if_pos k5, if_pos k8]
        rw [es] at h
        have hh := h o g gc gt ⟨c1, c2, c3, c4, c5, c6, c7⟩ ⟨rfl, rfl, rfl⟩
        clear h tail c4 c5 hwy c6 c7
        refine fr_cgo k197 [some (.inr (.inl 75)), some (.inl b), some (.inl z), none, none, none] 0 0 [] 400 rfl rfl rfl rfl ?_
        repeat' (first | (refine And.intro (by first | omega | (simp (disch := decide) only [up_n, up_s, cp_n, rw_n, rw_s, up1_, if_true, if_false, ite_true, ite_false, reduceIte, eq_self, Int.reduceEq, true_and, and_true, not_true_eq_false, not_false_eq_true]; omega)) ?_) | (refine And.intro (fun hc => ?_) (fun hc => ?_) <;> (try (simp (disch := decide) only [up_n, up_s, cp_n, rw_n, rw_s, up1_, if_true, if_false, ite_true, ite_false, reduceIte, eq_self, Int.reduceEq, true_and, and_true, not_true_eq_false, not_false_eq_true] at hc)) <;> (try (exfalso; omega))) | (refine fun (hc : ¬ _) => ?_; try (simp (disch := decide) only [up_n, up_s, cp_n, rw_n, rw_s, up1_, if_true, if_false, ite_true, ite_false, reduceIte, eq_self, Int.reduceEq, true_and, and_true, not_true_eq_false, not_false_eq_true] at hc)) | (refine fun (hc : _ = _) => ?_; try (simp (disch := decide) only [up_n, up_s, cp_n, rw_n, rw_s, up1_, if_true, if_false, ite_true, ite_false, reduceIte, eq_self, Int.reduceEq, true_and, and_true, not_true_eq_false, not_false_eq_true] at hc)))
        all_goals first | (exfalso; omega) | (exfalso; simp (disch := decide) only [up_n, up_s, cp_n, rw_n, rw_s, up1_, if_true, if_false, ite_true, ite_false, reduceIte, eq_self, Int.reduceEq, true_and, and_true, not_true_eq_false, not_false_eq_true] at *; omega) | exact hh
      · have es : stp p tp (b, ch, st, mo, tk, jm, tj, ts) = (p 77 (9 * p 86 b), ch, b :: st, max mo ((st.length : Int) + 1), tk, jm, tj, ts) := by
          simp only [stp, if_neg k1, if_pos k5, if_neg k8]
        rw [es] at h
        have hcal := w8' k5
        have hmx : max mo ((st.length : Int) + 1) = if (st.length : Int) + 1 > mo then (st.length : Int) + 1 else mo := by
          split <;> omega
        have hh := h (o + 1) (up1 g 3 (max mo ((st.length : Int) + 1))) (up1 gc o b) gt ⟨c1, by rw [c2]; simp, rfl, c4, fun j x hx => ?_, c6, c7⟩ ⟨rfl, rfl, rfl⟩
        · have hh2 : Q (some (.inl (p 77 (9 * p 86 b)))) sh0 (rw_ (rw_ (rw_ (fr_up N 75 50 (o + 1)) 111 (up1 g 3 (max mo ((st.length : Int) + 1)))) 113 (up1 gc o b)) 115 gt) := hh
          rw [e77, e86] at hh2
          rw [e86] at hcal
          clear h hh tail c4 c5 hwy c6 c7
          by_cases hm : (st.length : Int) + 1 > mo
          · rw [if_pos hm, ← c2] at hmx
            rw [c2] at hmx
            rw [hmx, ← c2] at hh2
            refine fr_cgo k197 [some (.inr (.inl 75)), some (.inl b), some (.inl z), none, none, none] 0 0 [] 400 rfl rfl rfl rfl ?_
            repeat' (first | (refine And.intro (by first | omega | (simp (disch := decide) only [up_n, up_s, cp_n, rw_n, rw_s, up1_, if_true, if_false, ite_true, ite_false, reduceIte, eq_self, Int.reduceEq, true_and, and_true, not_true_eq_false, not_false_eq_true]; omega)) ?_) | (refine And.intro (fun hc => ?_) (fun hc => ?_) <;> (try (simp (disch := decide) only [up_n, up_s, cp_n, rw_n, rw_s, up1_, if_true, if_false, ite_true, ite_false, reduceIte, eq_self, Int.reduceEq, true_and, and_true, not_true_eq_false, not_false_eq_true] at hc)) <;> (try (exfalso; omega))) | (refine fun (hc : ¬ _) => ?_; try (simp (disch := decide) only [up_n, up_s, cp_n, rw_n, rw_s, up1_, if_true, if_false, ite_true, ite_false, reduceIte, eq_self, Int.reduceEq, true_and, and_true, not_true_eq_false, not_false_eq_true] at hc)) | (refine fun (hc : _ = _) => ?_; try (simp (disch := decide) only [up_n, up_s, cp_n, rw_n, rw_s, up1_, if_true, if_false, ite_true, ite_false, reduceIte, eq_self, Int.reduceEq, true_and, and_true, not_true_eq_false, not_false_eq_true] at hc)))
            all_goals first | (exfalso; omega) | (exfalso; simp (disch := decide) only [up_n, up_s, cp_n, rw_n, rw_s, up1_, if_true, if_false, ite_true, ite_false, reduceIte, eq_self, Int.reduceEq, true_and, and_true, not_true_eq_false, not_false_eq_true] at *; omega) | skip
            show Q (some (.inl _)) sh0 _
            simp (disch := decide) only [up_n, up_s, cp_n, rw_n, rw_s, up1_, if_true, if_false, ite_true, ite_false, reduceIte, eq_self, Int.reduceEq, true_and, and_true, not_true_eq_false, not_false_eq_true]
            simp (disch := decide) only [up_rw, rw_u, up_up, rw_rw, rw_cm]
            exact hh2
          · rw [if_neg hm] at hmx
            rw [hmx, ← c3] at hh2
            refine fr_cgo k197 [some (.inr (.inl 75)), some (.inl b), some (.inl z), none, none, none] 0 0 [] 400 rfl rfl rfl rfl ?_
            repeat' (first | (refine And.intro (by first | omega | (simp (disch := decide) only [up_n, up_s, cp_n, rw_n, rw_s, up1_, if_true, if_false, ite_true, ite_false, reduceIte, eq_self, Int.reduceEq, true_and, and_true, not_true_eq_false, not_false_eq_true]; omega)) ?_) | (refine And.intro (fun hc => ?_) (fun hc => ?_) <;> (try (simp (disch := decide) only [up_n, up_s, cp_n, rw_n, rw_s, up1_, if_true, if_false, ite_true, ite_false, reduceIte, eq_self, Int.reduceEq, true_and, and_true, not_true_eq_false, not_false_eq_true] at hc)) <;> (try (exfalso; omega))) | (refine fun (hc : ¬ _) => ?_; try (simp (disch := decide) only [up_n, up_s, cp_n, rw_n, rw_s, up1_, if_true, if_false, ite_true, ite_false, reduceIte, eq_self, Int.reduceEq, true_and, and_true, not_true_eq_false, not_false_eq_true] at hc)) | (refine fun (hc : _ = _) => ?_; try (simp (disch := decide) only [up_n, up_s, cp_n, rw_n, rw_s, up1_, if_true, if_false, ite_true, ite_false, reduceIte, eq_self, Int.reduceEq, true_and, and_true, not_true_eq_false, not_false_eq_true] at hc)))
            all_goals first | (exfalso; omega) | (exfalso; simp (disch := decide) only [up_n, up_s, cp_n, rw_n, rw_s, up1_, if_true, if_false, ite_true, ite_false, reduceIte, eq_self, Int.reduceEq, true_and, and_true, not_true_eq_false, not_false_eq_true] at *; omega) | skip
            show Q (some (.inl _)) sh0 _
            simp (disch := decide) only [up_n, up_s, cp_n, rw_n, rw_s, up1_, if_true, if_false, ite_true, ite_false, reduceIte, eq_self, Int.reduceEq, true_and, and_true, not_true_eq_false, not_false_eq_true]
            simp (disch := decide) only [up_rw, rw_u, up_up, rw_rw, rw_cm]
            exact hh2
        · show up1 gc o b (((b :: st).length : Int) - 1 - (j : Int)) = x
          rw [up1_, c2]
          cases j with
          | zero =>
            have hx : b = x := by simpa using hx
            rw [if_pos (by simp), hx]
          | succ j =>
            have hx : st[j]? = some x := by simpa using hx
            have hj := (List.getElem?_eq_some_iff.mp hx).1
            have := c5 j x hx
            have el : (((b :: st).length : Nat) : Int) = (st.length : Int) + 1 := by simp
            rw [el, if_neg (by omega), show (st.length : Int) + 1 - 1 - ((j + 1 : Nat) : Int) = (st.length : Int) - 1 - (j : Int) by omega]
            exact this
    · by_cases k0 : p 82 b = 0
      · cases st with
        | nil =>
          have es : stp p tp (b, ch, [], mo, tk, jm, tj, ts) = (-1, ch, [], mo, tk, jm, tj, ts) := by
            simp only [stp, if_neg k1, if_neg k5, if_pos k0]
          rw [es] at h
          have hh := h o g gc gt ⟨c1, c2, c3, c4, c5, c6, c7⟩ ⟨rfl, rfl, rfl⟩
          have c2' : o = 0 := c2
          clear h tail c4 c5 hwy c6 c7
          refine fr_cgo k197 [some (.inr (.inl 75)), some (.inl b), some (.inl z), none, none, none] 0 0 [] 400 rfl rfl rfl rfl ?_
          repeat' (first | (refine And.intro (by first | omega | (simp (disch := decide) only [up_n, up_s, cp_n, rw_n, rw_s, up1_, if_true, if_false, ite_true, ite_false, reduceIte, eq_self, Int.reduceEq, true_and, and_true, not_true_eq_false, not_false_eq_true]; omega)) ?_) | (refine And.intro (fun hc => ?_) (fun hc => ?_) <;> (try (simp (disch := decide) only [up_n, up_s, cp_n, rw_n, rw_s, up1_, if_true, if_false, ite_true, ite_false, reduceIte, eq_self, Int.reduceEq, true_and, and_true, not_true_eq_false, not_false_eq_true] at hc)) <;> (try (exfalso; omega))) | (refine fun (hc : ¬ _) => ?_; try (simp (disch := decide) only [up_n, up_s, cp_n, rw_n, rw_s, up1_, if_true, if_false, ite_true, ite_false, reduceIte, eq_self, Int.reduceEq, true_and, and_true, not_true_eq_false, not_false_eq_true] at hc)) | (refine fun (hc : _ = _) => ?_; try (simp (disch := decide) only [up_n, up_s, cp_n, rw_n, rw_s, up1_, if_true, if_false, ite_true, ite_false, reduceIte, eq_self, Int.reduceEq, true_and, and_true, not_true_eq_false, not_false_eq_true] at hc)))
          all_goals first | (exfalso; omega) | (exfalso; simp (disch := decide) only [up_n, up_s, cp_n, rw_n, rw_s, up1_, if_true, if_false, ite_true, ite_false, reduceIte, eq_self, Int.reduceEq, true_and, and_true, not_true_eq_false, not_false_eq_true] at *; omega) | exact hh
        | cons f r =>
          have hf := s3 f (List.mem_cons_self ..)
          have hn := (hw.2.2.2.2.2.1 f hf.1.1 hf.1.2).2.2.2.2.1 (Or.inr hf.2)
          have ef := c5 0 f (by simp)
          have el : (((f :: r).length : Nat) : Int) = (r.length : Int) + 1 := by simp
          rw [el] at c2 ef
          rw [show (r.length : Int) + 1 - 1 - ((0 : Nat) : Int) = (r.length : Int) by omega] at ef
          rw [List.length_cons] at s4
          have es : stp p tp (b, ch, f :: r, mo, tk, jm, tj, ts) = tkw p ch r mo tk jm tj ts f 0 := by
            simp only [stp, if_neg k1, if_neg k5, if_pos k0]
          have ht := tail f 0 (o - 1) r g ch hf.1 (by omega) (by omega) (by omega) c1 (by omega) (fun j x hx => by
            have := c5 (j + 1) x (by simpa using hx)
            rw [el, show (r.length : Int) + 1 - 1 - ((j + 1 : Nat) : Int) = (r.length : Int) - 1 - (j : Int) by omega] at this
            exact this) (fun i _ => rfl) es
          have ewy : wy p tp f (g 2) = 0 := by
            unfold wy
            rw [if_neg (by omega), if_neg (by omega), if_neg (by omega)]
          have ef' : gc (o - 1) = f := by rw [c2, show (r.length : Int) + 1 - 1 = (r.length : Int) by omega]; exact ef
          clear h tail c4 c5 hwy c6 c7
          refine fr_cgo k197 [some (.inr (.inl 75)), some (.inl b), some (.inl z), none, none, none] 0 0 [80] 400 rfl rfl rfl rfl ?_
          repeat' (first | (refine And.intro (by first | omega | (simp (disch := decide) only [up_n, up_s, cp_n, rw_n, rw_s, up1_, if_true, if_false, ite_true, ite_false, reduceIte, eq_self, Int.reduceEq, true_and, and_true, not_true_eq_false, not_false_eq_true]; omega)) ?_) | (refine And.intro (fun hc => ?_) (fun hc => ?_) <;> (try (simp (disch := decide) only [up_n, up_s, cp_n, rw_n, rw_s, up1_, if_true, if_false, ite_true, ite_false, reduceIte, eq_self, Int.reduceEq, true_and, and_true, not_true_eq_false, not_false_eq_true] at hc)) <;> (try (exfalso; omega))) | (refine fun (hc : ¬ _) => ?_; try (simp (disch := decide) only [up_n, up_s, cp_n, rw_n, rw_s, up1_, if_true, if_false, ite_true, ite_false, reduceIte, eq_self, Int.reduceEq, true_and, and_true, not_true_eq_false, not_false_eq_true] at hc)) | (refine fun (hc : _ = _) => ?_; try (simp (disch := decide) only [up_n, up_s, cp_n, rw_n, rw_s, up1_, if_true, if_false, ite_true, ite_false, reduceIte, eq_self, Int.reduceEq, true_and, and_true, not_true_eq_false, not_false_eq_true] at hc)))
          all_goals first | (exfalso; omega) | (exfalso; simp (disch := decide) only [up_n, up_s, cp_n, rw_n, rw_s, up1_, if_true, if_false, ite_true, ite_false, reduceIte, eq_self, Int.reduceEq, true_and, and_true, not_true_eq_false, not_false_eq_true] at *; omega) | skip
          all_goals (show fr_Run 197 none 80 _ _ _ _ 0 0 Q)
          simp (disch := decide) only [up_n, up_s, cp_n, rw_n, rw_s, up1_, if_true, if_false, ite_true, ite_false, reduceIte, eq_self, Int.reduceEq, true_and, and_true, not_true_eq_false, not_false_eq_true]
          simp (disch := decide) only [up_rw, rw_u, up_up, rw_rw, rw_cm]
          rw [ef']
          refine fr_go k197 [84] 400 rfl ?_
          refine m_wayFor hw hN hf.1 (by omega) ?_
          rw [ewy, if_neg (by omega)]
          repeat' (first | (refine And.intro (by first | omega | (simp (disch := decide) only [up_n, up_s, cp_n, rw_n, rw_s, up1_, if_true, if_false, ite_true, ite_false, reduceIte, eq_self, Int.reduceEq, true_and, and_true, not_true_eq_false, not_false_eq_true]; omega)) ?_) | (refine And.intro (fun hc => ?_) (fun hc => ?_) <;> (try (simp (disch := decide) only [up_n, up_s, cp_n, rw_n, rw_s, up1_, if_true, if_false, ite_true, ite_false, reduceIte, eq_self, Int.reduceEq, true_and, and_true, not_true_eq_false, not_false_eq_true] at hc)) <;> (try (exfalso; omega))) | (refine fun (hc : ¬ _) => ?_; try (simp (disch := decide) only [up_n, up_s, cp_n, rw_n, rw_s, up1_, if_true, if_false, ite_true, ite_false, reduceIte, eq_self, Int.reduceEq, true_and, and_true, not_true_eq_false, not_false_eq_true] at hc)) | (refine fun (hc : _ = _) => ?_; try (simp (disch := decide) only [up_n, up_s, cp_n, rw_n, rw_s, up1_, if_true, if_false, ite_true, ite_false, reduceIte, eq_self, Int.reduceEq, true_and, and_true, not_true_eq_false, not_false_eq_true] at hc)))
          exact ht _
      · have hwr : 0 ≤ wy p tp b ch ∧ wy p tp b ch < p 83 b ∧ wy p tp b ch < 4 := by
          have ht := (hN.2.2 ch s2.1).2
          unfold wy
          split
          · omega
          · split
            · next q =>
              have := w7' q
              have a := Int.emod_nonneg (tp ch) (show p 83 b ≠ 0 by omega)
              have c := Int.emod_lt_of_pos (tp ch) (show 0 < p 83 b by omega)
              omega
            · split
              · split <;> omega
              · omega
        have es : stp p tp (b, ch, st, mo, tk, jm, tj, ts) = tkw p (if p 82 b = 2 then ch else ch + 1) st mo tk jm tj ts b (wy p tp b ch) := by
          simp only [stp, if_neg k1, if_neg k5, if_neg k0]
        have ht := tail b (wy p tp b ch) o st (if p 82 b = 3 ∨ p 82 b = 4 ∨ p 82 b = 6 then up1 g 2 (g 2 + 1) else g) (if p 82 b = 2 then ch else ch + 1) hb hwr k0 k1 (by
          by_cases q : p 82 b = 2
          · rw [if_neg (by omega), if_pos q]
            exact c1
          · rw [if_pos (by omega), if_neg q, up1_, if_pos rfl, c1]) c2 c5 (fun i hi => by
          split
          · rw [up1_, if_neg hi]
          · rfl) es
        rw [← c1] at ht
        clear h tail c4 c5 hwy c6 c7
        refine fr_cgo k197 [some (.inr (.inl 75)), some (.inl b), some (.inl z), none, none, none] 0 0 [80] 400 rfl rfl rfl rfl ?_
        repeat' (first | (refine And.intro (by first | omega | (simp (disch := decide) only [up_n, up_s, cp_n, rw_n, rw_s, up1_, if_true, if_false, ite_true, ite_false, reduceIte, eq_self, Int.reduceEq, true_and, and_true, not_true_eq_false, not_false_eq_true]; omega)) ?_) | (refine And.intro (fun hc => ?_) (fun hc => ?_) <;> (try (simp (disch := decide) only [up_n, up_s, cp_n, rw_n, rw_s, up1_, if_true, if_false, ite_true, ite_false, reduceIte, eq_self, Int.reduceEq, true_and, and_true, not_true_eq_false, not_false_eq_true] at hc)) <;> (try (exfalso; omega))) | (refine fun (hc : ¬ _) => ?_; try (simp (disch := decide) only [up_n, up_s, cp_n, rw_n, rw_s, up1_, if_true, if_false, ite_true, ite_false, reduceIte, eq_self, Int.reduceEq, true_and, and_true, not_true_eq_false, not_false_eq_true] at hc)) | (refine fun (hc : _ = _) => ?_; try (simp (disch := decide) only [up_n, up_s, cp_n, rw_n, rw_s, up1_, if_true, if_false, ite_true, ite_false, reduceIte, eq_self, Int.reduceEq, true_and, and_true, not_true_eq_false, not_false_eq_true] at hc)))
        all_goals first | (exfalso; omega) | (exfalso; simp (disch := decide) only [up_n, up_s, cp_n, rw_n, rw_s, up1_, if_true, if_false, ite_true, ite_false, reduceIte, eq_self, Int.reduceEq, true_and, and_true, not_true_eq_false, not_false_eq_true] at *; omega) | skip
        refine fr_go k197 [84] 400 rfl ?_
        refine m_wayFor hw hN hb (by omega) ?_
        repeat' (first | (refine And.intro (by first | omega | (simp (disch := decide) only [up_n, up_s, cp_n, rw_n, rw_s, up1_, if_true, if_false, ite_true, ite_false, reduceIte, eq_self, Int.reduceEq, true_and, and_true, not_true_eq_false, not_false_eq_true]; omega)) ?_) | (refine And.intro (fun hc => ?_) (fun hc => ?_) <;> (try (simp (disch := decide) only [up_n, up_s, cp_n, rw_n, rw_s, up1_, if_true, if_false, ite_true, ite_false, reduceIte, eq_self, Int.reduceEq, true_and, and_true, not_true_eq_false, not_false_eq_true] at hc)) <;> (try (exfalso; omega))) | (refine fun (hc : ¬ _) => ?_; try (simp (disch := decide) only [up_n, up_s, cp_n, rw_n, rw_s, up1_, if_true, if_false, ite_true, ite_false, reduceIte, eq_self, Int.reduceEq, true_and, and_true, not_true_eq_false, not_false_eq_true] at hc)) | (refine fun (hc : _ = _) => ?_; try (simp (disch := decide) only [up_n, up_s, cp_n, rw_n, rw_s, up1_, if_true, if_false, ite_true, ite_false, reduceIte, eq_self, Int.reduceEq, true_and, and_true, not_true_eq_false, not_false_eq_true] at hc)))
        exact ht _
