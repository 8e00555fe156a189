theorem tkw_jm {p : fr_M} {ch : Int} {st : List Int} {mo : Int} {tk : Int → Int} {jm tj ts f : Int} (h3 : p 82 f ≠ 3) (h4 : p 82 f ≠ 4) : (tkw p ch st mo tk jm tj ts f 0).2.2.2.2.2.1 = if tg1 p f ≠ -1 then jm + 1 else jm := by
  show (if p 82 f = 3 then _ else if p 82 f ≠ 4 ∧ (0 : Int) = 0 ∧ tg1 p f ≠ -1 then jm + 1 else jm) = _
  rw [if_neg h3]
  by_cases q : tg1 p f ≠ -1
  · rw [if_pos ⟨h4, rfl, q⟩, if_pos q]
  · rw [if_neg (fun z => q z.2.2), if_neg q]
theorem tkw_tj {p : fr_M} {ch : Int} {st : List Int} {mo : Int} {tk : Int → Int} {jm tj ts f w : Int} (h3 : p 82 f ≠ 3) : (tkw p ch st mo tk jm tj ts f w).2.2.2.2.2.2.1 = tj := by
  show (if p 82 f = 3 ∧ _ then tj + 1 else tj) = tj
  rw [if_neg (fun z => h3 z.1)]
theorem tkw_ts {p : fr_M} {ch : Int} {st : List Int} {mo : Int} {tk : Int → Int} {jm tj ts f w : Int} (h3 : p 82 f ≠ 3) : (tkw p ch st mo tk jm tj ts f w).2.2.2.2.2.2.2 = ts := by
  show (if p 82 f = 3 ∧ _ then ts + 1 else ts) = ts
  rw [if_neg (fun z => h3 z.1)]
set_option maxHeartbeats 4000000 in
set_option maxRecDepth 100000 in
theorem c_ab3_52 {N p : fr_M} {lg : Int → Int} {b v3 ch tv : Int} {r44 g gc gr : Int → Int} {Q : Option fr_V → fr_H → fr_M → Prop} (hw : WF p) (hN : BN p lg N) (hb : 0 ≤ b ∧ b < p 75 4) (hk : p 82 b = 3) (hl : 0 ≤ N 42 1 ∧ N 42 1 ≤ 200) (hch : g 3 = ch ∧ 0 ≤ ch ∧ ch ≤ 1000) (htv : (if ch < N 42 1 then N 43 ch % 256 else 0) = tv) (h6 : 0 ≤ g 6 ∧ g 6 ≤ 1000) (h7 : 0 ≤ g 7 ∧ g 7 ≤ 1000) (h8 : 0 ≤ g 8 ∧ g 8 ≤ 1000) (hj : tv % 2 = tu p b → ∀ r, Q (some (.inl (tg0 p b))) sh0 (rw_ (rw_ (rw_ (rw_ N 44 r) 52 (up1 (up1 g 3 (ch + 1)) 7 (g 7 + 1))) 56 gc) 57 gr)) (hs1 : tv % 2 ≠ tu p b → tg1 p b ≠ -1 → ∀ r, Q (some (.inl (tg1 p b))) sh0 (rw_ (rw_ (rw_ (rw_ N 44 r) 52 (up1 (up1 (up1 g 3 (ch + 1)) 8 (g 8 + 1)) 6 (g 6 + 1))) 56 gc) 57 gr)) (hs0 : tv % 2 ≠ tu p b → tg1 p b = -1 → ∀ r, Q (some (.inl (nx p b))) sh0 (rw_ (rw_ (rw_ (rw_ N 44 r) 52 (up1 (up1 g 3 (ch + 1)) 8 (g 8 + 1))) 56 gc) 57 gr)) : fr_Run 96 none 24 [some (.inr (.inl 44)), some (.inl b), some (.inr (.inl 52)), some (.inl v3), none] [] sh0 (rw_ (rw_ (rw_ (rw_ N 44 r44) 52 g) 56 gc) 57 gr) 0 0 Q := by
  have h40 := hw.1.1
  obtain ⟨e31, e32, e33, e6⟩ := hN.2.1 b hb.1 hb.2
  have hab := ad_b hw (lg := lg) hb
  have hsz := (hw.2.2.2.2.2.1 b hb.1 hb.2).1
  have hcc := hN.1
  have ht : tg0 p b ≠ -1 := by
    have := w_rng hw hb
    unfold tg0
    rw [if_pos hk]
    split <;> omega
  have tr := (tg0_rng hw hb).resolve_left ht
  have hbk := bn_blk hw hN tr
  have e32t := (hN.2.1 _ tr.1 tr.2).2.1
  have e32' : N 32 b + N 6 b = ea p lg b := by
    rw [e32, e6]
    rfl
  have hz0 := s0_e (p := p) (lg := lg) (b := b)
  rw [if_neg ht] at hz0
  have hs02 : 2 ≤ s0 p lg b := by
    rcases hN.2.2.2.2 (2 * b) with q | q
    · rw [if_neg (by omega)] at hz0
      omega
    · rw [if_pos q] at hz0
      omega
  have z1 := s1_b (p := p) (lg := lg) (b := b)
  have hbe : be p lg b = ea p lg b + 0 + s0 p lg b + s1 p lg b := by
    show ed p lg b (ea p lg b) = _
    unfold ed c5
    rw [if_neg (by omega), if_neg (by omega), if_neg (by omega)]
  refine fr_go k96 [35] 400 rfl ?_
  repeat' (first | (refine And.intro (by first | omega | (simp (disch := decide) only [up_n, up_s, cp_n, rw_n, rw_s, up1_, if_true, if_false, ite_true, ite_false, reduceIte, eq_self, Int.reduceEq, true_and, and_true, not_true_eq_false, not_false_eq_true]; omega)) ?_) | (refine And.intro (fun hc => ?_) (fun hc => ?_) <;> (try (simp (disch := decide) only [up_n, up_s, cp_n, rw_n, rw_s, up1_, if_true, if_false, ite_true, ite_false, reduceIte, eq_self, Int.reduceEq, true_and, and_true, not_true_eq_false, not_false_eq_true] at hc)) <;> (try (exfalso; omega))) | (refine fun (hc : ¬ _) => ?_; try (simp (disch := decide) only [up_n, up_s, cp_n, rw_n, rw_s, up1_, if_true, if_false, ite_true, ite_false, reduceIte, eq_self, Int.reduceEq, true_and, and_true, not_true_eq_false, not_false_eq_true] at hc)) | (refine fun (hc : _ = _) => ?_; try (simp (disch := decide) only [up_n, up_s, cp_n, rw_n, rw_s, up1_, if_true, if_false, ite_true, ite_false, reduceIte, eq_self, Int.reduceEq, true_and, and_true, not_true_eq_false, not_false_eq_true] at hc)))
  refine c_endAddress (by omega) (by simp (disch := decide) only [up_n, up_s, cp_n, rw_n, rw_s, up1_, if_true, if_false, ite_true, ite_false, reduceIte, eq_self, Int.reduceEq, true_and, and_true, not_true_eq_false, not_false_eq_true]; omega) ?_
  repeat' (first | (refine And.intro (by first | omega | (simp (disch := decide) only [up_n, up_s, cp_n, rw_n, rw_s, up1_, if_true, if_false, ite_true, ite_false, reduceIte, eq_self, Int.reduceEq, true_and, and_true, not_true_eq_false, not_false_eq_true]; omega)) ?_) | (refine And.intro (fun hc => ?_) (fun hc => ?_) <;> (try (simp (disch := decide) only [up_n, up_s, cp_n, rw_n, rw_s, up1_, if_true, if_false, ite_true, ite_false, reduceIte, eq_self, Int.reduceEq, true_and, and_true, not_true_eq_false, not_false_eq_true] at hc)) <;> (try (exfalso; omega))) | (refine fun (hc : ¬ _) => ?_; try (simp (disch := decide) only [up_n, up_s, cp_n, rw_n, rw_s, up1_, if_true, if_false, ite_true, ite_false, reduceIte, eq_self, Int.reduceEq, true_and, and_true, not_true_eq_false, not_false_eq_true] at hc)) | (refine fun (hc : _ = _) => ?_; try (simp (disch := decide) only [up_n, up_s, cp_n, rw_n, rw_s, up1_, if_true, if_false, ite_true, ite_false, reduceIte, eq_self, Int.reduceEq, true_and, and_true, not_true_eq_false, not_false_eq_true] at hc)))
  all_goals (show fr_Run 96 none 35 _ _ _ _ 0 0 Q)
  simp (disch := decide) only [up_n, up_s, cp_n, rw_n, rw_s, up1_, if_true, if_false, ite_true, ite_false, reduceIte, eq_self, Int.reduceEq, true_and, and_true, not_true_eq_false, not_false_eq_true]
  rw [e32']
  simp (disch := decide) only [up_rw, rw_u, up_up, rw_rw, rw_cm]
  refine fr_go k96 [35] 400 rfl ?_
  repeat' (first | (refine And.intro (by first | omega | (simp (disch := decide) only [up_n, up_s, cp_n, rw_n, rw_s, up1_, if_true, if_false, ite_true, ite_false, reduceIte, eq_self, Int.reduceEq, true_and, and_true, not_true_eq_false, not_false_eq_true]; omega)) ?_) | (refine And.intro (fun hc => ?_) (fun hc => ?_) <;> (try (simp (disch := decide) only [up_n, up_s, cp_n, rw_n, rw_s, up1_, if_true, if_false, ite_true, ite_false, reduceIte, eq_self, Int.reduceEq, true_and, and_true, not_true_eq_false, not_false_eq_true] at hc)) <;> (try (exfalso; omega))) | (refine fun (hc : ¬ _) => ?_; try (simp (disch := decide) only [up_n, up_s, cp_n, rw_n, rw_s, up1_, if_true, if_false, ite_true, ite_false, reduceIte, eq_self, Int.reduceEq, true_and, and_true, not_true_eq_false, not_false_eq_true] at hc)) | (refine fun (hc : _ = _) => ?_; try (simp (disch := decide) only [up_n, up_s, cp_n, rw_n, rw_s, up1_, if_true, if_false, ite_true, ite_false, reduceIte, eq_self, Int.reduceEq, true_and, and_true, not_true_eq_false, not_false_eq_true] at hc)))
  all_goals first | (exfalso; omega) | (exfalso; simp (disch := decide) only [up_n, up_s, cp_n, rw_n, rw_s, up1_, if_true, if_false, ite_true, ite_false, reduceIte, eq_self, Int.reduceEq, true_and, and_true, not_true_eq_false, not_false_eq_true] at *; omega) | skip
  refine c_rdTest_52 (lg := lg) (ch := ch) (tv := tv) hw hN hb hk rfl hl hch htv h7 h8 (fun q => ?_) (fun q => ?_)
  · have hh := hj q
    clear hj hs1 hs0 hN
    repeat' (first | (refine And.intro (by first | omega | (simp (disch := decide) only [up_n, up_s, cp_n, rw_n, rw_s, up1_, if_true, if_false, ite_true, ite_false, reduceIte, eq_self, Int.reduceEq, true_and, and_true, not_true_eq_false, not_false_eq_true]; omega)) ?_) | (refine And.intro (fun hc => ?_) (fun hc => ?_) <;> (try (simp (disch := decide) only [up_n, up_s, cp_n, rw_n, rw_s, up1_, if_true, if_false, ite_true, ite_false, reduceIte, eq_self, Int.reduceEq, true_and, and_true, not_true_eq_false, not_false_eq_true] at hc)) <;> (try (exfalso; omega))) | (refine fun (hc : ¬ _) => ?_; try (simp (disch := decide) only [up_n, up_s, cp_n, rw_n, rw_s, up1_, if_true, if_false, ite_true, ite_false, reduceIte, eq_self, Int.reduceEq, true_and, and_true, not_true_eq_false, not_false_eq_true] at hc)) | (refine fun (hc : _ = _) => ?_; try (simp (disch := decide) only [up_n, up_s, cp_n, rw_n, rw_s, up1_, if_true, if_false, ite_true, ite_false, reduceIte, eq_self, Int.reduceEq, true_and, and_true, not_true_eq_false, not_false_eq_true] at hc)))
    all_goals first | (exfalso; omega) | (exfalso; simp (disch := decide) only [up_n, up_s, cp_n, rw_n, rw_s, up1_, if_true, if_false, ite_true, ite_false, reduceIte, eq_self, Int.reduceEq, true_and, and_true, not_true_eq_false, not_false_eq_true] at *; omega) | skip
    refine c_blockAt (b := tg0 p b) (a := ad p lg (tg0 p b)) (by simp (disch := decide) only [up_n, up_s, cp_n, rw_n, rw_s, up1_, if_true, if_false, ite_true, ite_false, reduceIte, eq_self, Int.reduceEq, true_and, and_true, not_true_eq_false, not_false_eq_true]; omega) hbk.2 hbk.1 e32t ?_
    repeat' (first | (refine And.intro (by first | omega | (simp (disch := decide) only [up_n, up_s, cp_n, rw_n, rw_s, up1_, if_true, if_false, ite_true, ite_false, reduceIte, eq_self, Int.reduceEq, true_and, and_true, not_true_eq_false, not_false_eq_true]; omega)) ?_) | (refine And.intro (fun hc => ?_) (fun hc => ?_) <;> (try (simp (disch := decide) only [up_n, up_s, cp_n, rw_n, rw_s, up1_, if_true, if_false, ite_true, ite_false, reduceIte, eq_self, Int.reduceEq, true_and, and_true, not_true_eq_false, not_false_eq_true] at hc)) <;> (try (exfalso; omega))) | (refine fun (hc : ¬ _) => ?_; try (simp (disch := decide) only [up_n, up_s, cp_n, rw_n, rw_s, up1_, if_true, if_false, ite_true, ite_false, reduceIte, eq_self, Int.reduceEq, true_and, and_true, not_true_eq_false, not_false_eq_true] at hc)) | (refine fun (hc : _ = _) => ?_; try (simp (disch := decide) only [up_n, up_s, cp_n, rw_n, rw_s, up1_, if_true, if_false, ite_true, ite_false, reduceIte, eq_self, Int.reduceEq, true_and, and_true, not_true_eq_false, not_false_eq_true] at hc)))
    exact hh _
  · have hh1 := hs1 q
    have hh0 := hs0 q
    clear hj hs1 hs0
    repeat' (first | (refine And.intro (by first | omega | (simp (disch := decide) only [up_n, up_s, cp_n, rw_n, rw_s, up1_, if_true, if_false, ite_true, ite_false, reduceIte, eq_self, Int.reduceEq, true_and, and_true, not_true_eq_false, not_false_eq_true]; omega)) ?_) | (refine And.intro (fun hc => ?_) (fun hc => ?_) <;> (try (simp (disch := decide) only [up_n, up_s, cp_n, rw_n, rw_s, up1_, if_true, if_false, ite_true, ite_false, reduceIte, eq_self, Int.reduceEq, true_and, and_true, not_true_eq_false, not_false_eq_true] at hc)) <;> (try (exfalso; omega))) | (refine fun (hc : ¬ _) => ?_; try (simp (disch := decide) only [up_n, up_s, cp_n, rw_n, rw_s, up1_, if_true, if_false, ite_true, ite_false, reduceIte, eq_self, Int.reduceEq, true_and, and_true, not_true_eq_false, not_false_eq_true] at hc)) | (refine fun (hc : _ = _) => ?_; try (simp (disch := decide) only [up_n, up_s, cp_n, rw_n, rw_s, up1_, if_true, if_false, ite_true, ite_false, reduceIte, eq_self, Int.reduceEq, true_and, and_true, not_true_eq_false, not_false_eq_true] at hc)))
    all_goals first | (exfalso; omega) | (exfalso; simp (disch := decide) only [up_n, up_s, cp_n, rw_n, rw_s, up1_, if_true, if_false, ite_true, ite_false, reduceIte, eq_self, Int.reduceEq, true_and, and_true, not_true_eq_false, not_false_eq_true] at *; omega) | skip
    refine c_ab_j_52 hw hN hb (by omega) (by omega) rfl rfl (by simp (disch := decide) only [up_n, up_s, cp_n, rw_n, rw_s, up1_, if_true, if_false, ite_true, ite_false, reduceIte, eq_self, Int.reduceEq, true_and, and_true, not_true_eq_false, not_false_eq_true]; omega) (fun q r => ?_) (fun q => ?_)
    · exact hh1 q r
    · exact hh0 q _
set_option maxHeartbeats 4000000 in
set_option maxRecDepth 100000 in
theorem c_afterBytes_52 {N p : fr_M} {tp lg : Int → Int} {b ch : Int} {st : List Int} {mo : Int} {tk : Int → Int} {jm tj ts : Int} {k : Nat} {r44 g gc gr : Int → Int} {Q : Option fr_V → fr_H → fr_M → Prop} (hw : WF p) (hR : RN p tp N) (hN : BN p lg N) (hS : SI p k (b, ch, st, mo, tk, jm, tj, ts)) (hk : k ≤ 200) (h0 : 0 ≤ b) (hC : CL p lg g gc gr (b, ch, st, mo, tk, jm, tj, ts)) (h : ∀ r g' gc' gr', CL p lg g' gc' gr' (stp p tp (b, ch, st, mo, tk, jm, tj, ts)) → (∀ i, i ≠ 1 → i ≠ 3 → i ≠ 4 → i ≠ 5 → i ≠ 6 → i ≠ 7 → i ≠ 8 → g' i = g i) → ((stp p tp (b, ch, st, mo, tk, jm, tj, ts)).1 < 0 → g' 1 = -1 - (stp p tp (b, ch, st, mo, tk, jm, tj, ts)).1) → Q (some (.inl (if (stp p tp (b, ch, st, mo, tk, jm, tj, ts)).1 < 0 then -1 else (stp p tp (b, ch, st, mo, tk, jm, tj, ts)).1))) sh0 (rw_ (rw_ (rw_ (rw_ N 44 r) 52 g') 56 gc') 57 gr')) : fr_Call 96 [.inr (.inl 44), .inl b, .inr (.inl 52)] sh0 (rw_ (rw_ (rw_ (rw_ N 44 r44) 52 g) 56 gc) 57 gr) Q := by
  obtain ⟨s1, s2, s3, s4, s5, s6, s7, s8, s9⟩ := hS
  have hb : 0 ≤ b ∧ b < p 75 4 := ⟨h0, s1.2⟩
  have h40 := hw.1.1
  replace s2 : 0 ≤ ch ∧ ch ≤ (k : Int) := s2
  replace s4 : st.length ≤ 8 := s4
  replace s5 : 0 ≤ mo ∧ mo ≤ 8 := s5
  replace s7 : 0 ≤ jm ∧ jm ≤ (k : Int) := s7
  replace s8 : 0 ≤ tj ∧ tj ≤ (k : Int) := s8
  replace s9 : 0 ≤ ts ∧ ts ≤ (k : Int) := s9
  clear s1 s6
  obtain ⟨⟨c3, c4, c5, c6, c7, c8⟩, cs⟩ := hC
  replace c3 : g 3 = ch := c3
  replace c4 : g 4 = (st.length : Int) := c4
  replace c5 : g 5 = mo := c5
  replace c6 : g 6 = jm := c6
  replace c7 : g 7 = tj := c7
  replace c8 : g 8 = ts := c8
  replace cs : ∀ (j : Nat) (x : Int), st[j]? = some x → gc ((st.length : Int) - 1 - (j : Int)) = x ∧ gr ((st.length : Int) - 1 - (j : Int)) = ea p lg x + 5 := cs
  obtain ⟨n1, n2, n3, n4, n5⟩ := hR
  have ht := n5 ch s2.1
  have hg41 := pic_g hw hN hb
  obtain ⟨w1', w2', w3', w4', w5', w6', w7', w8'⟩ := hw.2.2.2.2.2.1 b hb.1 hb.2
  have go24 : p 82 b ≠ 6 → (∀ v3, fr_Run 96 none 24 [some (.inr (.inl 44)), some (.inl b), some (.inr (.inl 52)), some (.inl v3), none] [] sh0 (rw_ (rw_ (rw_ (rw_ N 44 r44) 52 g) 56 gc) 57 gr) 0 0 Q) → fr_Call 96 [.inr (.inl 44), .inl b, .inr (.inl 52)] sh0 (rw_ (rw_ (rw_ (rw_ N 44 r44) 52 g) 56 gc) 57 gr) Q := by
    intro k6 hh
    rw [if_neg k6] at hg41
    refine fr_cgo k96 [some (.inr (.inl 44)), some (.inl b), some (.inr (.inl 52)), none, none] 0 0 [24] 400 rfl rfl rfl rfl ?_
    clear h
    repeat' (first | (refine And.intro (by first | omega | (simp (disch := decide) only [up_n, up_s, cp_n, rw_n, rw_s, up1_, if_true, if_false, ite_true, ite_false, reduceIte, eq_self, Int.reduceEq, true_and, and_true, not_true_eq_false, not_false_eq_true]; omega)) ?_) | (refine And.intro (fun hc => ?_) (fun hc => ?_) <;> (try (simp (disch := decide) only [up_n, up_s, cp_n, rw_n, rw_s, up1_, if_true, if_false, ite_true, ite_false, reduceIte, eq_self, Int.reduceEq, true_and, and_true, not_true_eq_false, not_false_eq_true] at hc)) <;> (try (exfalso; omega))) | (refine fun (hc : ¬ _) => ?_; try (simp (disch := decide) only [up_n, up_s, cp_n, rw_n, rw_s, up1_, if_true, if_false, ite_true, ite_false, reduceIte, eq_self, Int.reduceEq, true_and, and_true, not_true_eq_false, not_false_eq_true] at hc)) | (refine fun (hc : _ = _) => ?_; try (simp (disch := decide) only [up_n, up_s, cp_n, rw_n, rw_s, up1_, if_true, if_false, ite_true, ite_false, reduceIte, eq_self, Int.reduceEq, true_and, and_true, not_true_eq_false, not_false_eq_true] at hc)))
    all_goals first | (exfalso; omega) | (exfalso; simp (disch := decide) only [up_n, up_s, cp_n, rw_n, rw_s, up1_, if_true, if_false, ite_true, ite_false, reduceIte, eq_self, Int.reduceEq, true_and, and_true, not_true_eq_false, not_false_eq_true] at *; omega) | exact hh _
  by_cases k1 : p 82 b = 1
  · have es : stp p tp (b, ch, st, mo, tk, jm, tj, ts) = (-2, ch, st, mo, tk, jm, tj, ts) := by
      simp only [stp, if_pos k1]
    rw [es] at h
    refine go24 (by omega) (fun v3 => c_ab1_52 hw hN hb k1 (fun r => ?_))
    exact h r (up1 g 1 1) gc gr ⟨⟨c3, c4, c5, c6, c7, c8⟩, cs⟩ (fun i q1 _ _ _ _ _ _ => by rw [up1_, if_neg q1]) (fun _ => rfl)
  · by_cases k5 : p 82 b = 5
    · refine go24 (by omega) (fun v3 => c_ab5_52 hw hN hb k5 (by omega) (fun e8 r => ?_) (fun e8 r => ?_))
      · have es : stp p tp (b, ch, st, mo, tk, jm, tj, ts) = (-3, ch, st, mo, tk, jm, tj, ts) := by
          simp only [stp, if_neg k1, if_pos k5, if_pos (show st.length = 8 by omega)]
        rw [es] at h
        exact h r (up1 g 1 2) gc gr ⟨⟨c3, c4, c5, c6, c7, c8⟩, cs⟩ (fun i q1 _ _ _ _ _ _ => by rw [up1_, if_neg q1]) (fun _ => rfl)
      · have es : stp p tp (b, ch, st, mo, tk, jm, tj, ts) = (p 77 (9 * p 86 b), ch, b :: st, max mo ((st.length : Int) + 1), tk, jm, tj, ts) := by
          simp only [stp, if_neg k1, if_pos k5, if_neg (show ¬ st.length = 8 by omega)]
        rw [es] at h
        have hcal := w8' k5
        have el : (((b :: st).length : Nat) : Int) = (st.length : Int) + 1 := by simp
        have hh := h r (up1 (up1 g 4 (g 4 + 1)) 5 (max (g 5) (g 4 + 1))) (up1 gc (g 4) b) (up1 gr (g 4) (ea p lg b + 5)) ⟨⟨c3, by show g 4 + 1 = ((b :: st).length : Int); rw [el, c4], by show max (g 5) (g 4 + 1) = max mo ((st.length : Int) + 1); rw [c4, c5], c6, c7, c8⟩, fun j x hx => ?_⟩ (fun i q1 q3 q4 q5 _ _ _ => by rw [up1_, if_neg q5, up1_, if_neg q4]) (fun q => by
          have q : p 77 (9 * p 86 b) < 0 := q
          omega)
        · have hh2 : Q (some (.inl (if p 77 (9 * p 86 b) < 0 then -1 else p 77 (9 * p 86 b)))) sh0 _ := hh
          rw [if_neg (by omega)] at hh2
          exact hh2
        · show up1 gc (g 4) b (((b :: st).length : Int) - 1 - (j : Int)) = x ∧ up1 gr (g 4) (ea p lg b + 5) (((b :: st).length : Int) - 1 - (j : Int)) = ea p lg x + 5
          rw [up1_, up1_, el, c4]
          cases j with
          | zero =>
            have hx : b = x := by simpa using hx
            rw [if_pos (by omega), if_pos (by omega), hx]
            exact ⟨rfl, rfl⟩
          | succ j =>
            have hx : st[j]? = some x := by simpa using hx
            have hj := (List.getElem?_eq_some_iff.mp hx).1
            have := cs j x hx
            rw [if_neg (by omega), if_neg (by omega), show (st.length : Int) + 1 - 1 - ((j + 1 : Nat) : Int) = (st.length : Int) - 1 - (j : Int) by omega]
            exact this
    · by_cases k0 : p 82 b = 0
      · refine go24 (by omega) (fun v3 => c_ab0_52 hw hN hb k0 (by omega) (by omega) (fun e4 r => ?_) (fun e4 => ?_))
        · have hst : st = [] := List.eq_nil_of_length_eq_zero (by omega)
          subst hst
          have es : stp p tp (b, ch, [], mo, tk, jm, tj, ts) = (-1, ch, [], mo, tk, jm, tj, ts) := by
            simp only [stp, if_neg k1, if_neg k5, if_pos k0]
          rw [es] at h
          exact h r (up1 g 1 0) gc gr ⟨⟨c3, c4, c5, c6, c7, c8⟩, cs⟩ (fun i q1 _ _ _ _ _ _ => by rw [up1_, if_neg q1]) (fun _ => rfl)
        · cases st with
          | nil => exact absurd c4 e4
          | cons f r0 =>
            have hf := s3 f (List.mem_cons_self ..)
            have ef := cs 0 f (by simp)
            have el : (((f :: r0).length : Nat) : Int) = (r0.length : Int) + 1 := by simp
            rw [el] at c4 ef
            have hq := (w_rng hw hf.1).1 (by omega)
            have ew : w0 p f = p 84 (4 * f + 0) := by
              show p 84 (4 * f) = _
              congr 1
              omega
            refine ⟨f, by rw [c4, show (r0.length : Int) + 1 - 1 = (r0.length : Int) + 1 - 1 - ((0 : Nat) : Int) by omega]; exact ef.1, by rw [c4, show (r0.length : Int) + 1 - 1 = (r0.length : Int) + 1 - 1 - ((0 : Nat) : Int) by omega]; exact ef.2, hf.1, hf.2, fun r => ?_⟩
            have es : stp p tp (b, ch, f :: r0, mo, tk, jm, tj, ts) = tkw p ch r0 mo tk jm tj ts f 0 := by
              simp only [stp, if_neg k1, if_neg k5, if_pos k0]
            rw [es] at h
            have hh := h r (if tg1 p f ≠ -1 then up1 (up1 g 4 (g 4 - 1)) 6 (g 6 + 1) else up1 g 4 (g 4 - 1)) gc gr ⟨⟨?_, ?_, ?_, ?_, ?_, ?_⟩, fun j x hx => ?_⟩ (fun i q1 q3 q4 q5 q6 q7 q8 => ?_) (fun q => by
              have q : p 84 (4 * f + 0) < 0 := q
              omega)
            · have hh2 : Q (some (.inl (if p 84 (4 * f + 0) < 0 then -1 else p 84 (4 * f + 0)))) sh0 _ := hh
              rw [if_neg (by omega)] at hh2
              exact hh2
            · split <;> exact c3
            · split
              · show g 4 - 1 = (r0.length : Int)
                omega
              · show g 4 - 1 = (r0.length : Int)
                omega
            · split <;> exact c5
            · rw [tkw_jm (by omega) (by omega)]
              by_cases q : tg1 p f ≠ -1
              · rw [if_pos q, if_pos q]
                show g 6 + 1 = jm + 1
                omega
              · rw [if_neg q, if_neg q]
                exact c6
            · rw [tkw_tj (by omega)]
              split <;> exact c7
            · rw [tkw_ts (by omega)]
              split <;> exact c8
            · have hx : r0[j]? = some x := hx
              have := cs (j + 1) x (by simpa using hx)
              rw [el, show (r0.length : Int) + 1 - 1 - ((j + 1 : Nat) : Int) = (r0.length : Int) - 1 - (j : Int) by omega] at this
              exact this
            · split
              · rw [up1_, if_neg q6, up1_, if_neg q4]
              · rw [up1_, if_neg q4]
      · have ew0 : w0 p b = p 84 (4 * b + 0) := by
          show p 84 (4 * b) = _
          congr 1
          omega
        have ew1 : w1 p b = p 84 (4 * b + 1) := rfl
        have hwr := w_rng hw hb
        have es : stp p tp (b, ch, st, mo, tk, jm, tj, ts) = tkw p (if p 82 b = 2 then ch else ch + 1) st mo tk jm tj ts b (wy p tp b ch) := by
          simp only [stp, if_neg k1, if_neg k5, if_neg k0]
        rw [es] at h
        rcases (show p 82 b = 2 ∨ p 82 b = 4 ∨ p 82 b = 3 ∨ p 82 b = 6 by omega) with kk | kk | kk | kk
        · have ew : wy p tp b ch = 0 := by
            unfold wy
            rw [if_neg (by omega), if_neg (by omega), if_neg (by omega)]
          rw [ew, if_pos kk] at h
          have hq := hwr.1 (by omega)
          refine go24 (by omega) (fun v3 => c_ab_go_52 hw hN hb (Or.inl kk) (by omega) (fun r => ?_))
          have hh := h r (if tg1 p b ≠ -1 then up1 g 6 (g 6 + 1) else g) gc gr ⟨⟨?_, ?_, ?_, ?_, ?_, ?_⟩, cs⟩ (fun i q1 q3 q4 q5 q6 q7 q8 => ?_) (fun q => by
            have q : p 84 (4 * b + 0) < 0 := q
            omega)
          · have hh2 : Q (some (.inl (if p 84 (4 * b + 0) < 0 then -1 else p 84 (4 * b + 0)))) sh0 _ := hh
            rw [if_neg (by omega)] at hh2
            exact hh2
          · split <;> exact c3
          · split <;> exact c4
          · split <;> exact c5
          · rw [tkw_jm (by omega) (by omega)]
            by_cases q : tg1 p b ≠ -1
            · rw [if_pos q, if_pos q]
              show g 6 + 1 = jm + 1
              omega
            · rw [if_neg q, if_neg q]
              exact c6
          · rw [tkw_tj (by omega)]
            split <;> exact c7
          · rw [tkw_ts (by omega)]
            split <;> exact c8
          · split
            · rw [up1_, if_neg q6]
            · rfl
        · have ew : wy p tp b ch = tp ch % p 83 b := by
            unfold wy
            rw [if_neg (by omega), if_pos kk]
          have hn4 := w7' kk
          have a0 := Int.emod_nonneg (tp ch) (show p 83 b ≠ 0 by omega)
          have a1 := Int.emod_lt_of_pos (tp ch) (show 0 < p 83 b by omega)
          have hq := hw.2.2.2.2.2.2 b (tp ch % p 83 b) hb.1 hb.2 a0 a1
          rw [ew, if_neg (by omega)] at h
          refine go24 (by omega) (fun v3 => c_ab4_52 (tv := tp ch) hw hN hb kk n4 ⟨c3, by omega, by omega⟩ ht.1.symm ht.2 (fun r => ?_))
          have hh := h r (up1 g 3 (ch + 1)) gc gr ⟨⟨rfl, c4, c5, ?_, ?_, ?_⟩, cs⟩ (fun i q1 q3 q4 q5 q6 q7 q8 => by rw [up1_, if_neg q3]) (fun q => by
            have q : p 84 (4 * b + tp ch % p 83 b) < 0 := q
            omega)
          · have hh2 : Q (some (.inl (if p 84 (4 * b + tp ch % p 83 b) < 0 then -1 else p 84 (4 * b + tp ch % p 83 b)))) sh0 _ := hh
            rw [if_neg (by omega)] at hh2
            exact hh2
          all_goals (try (simp only [tkw]))
          · rw [if_neg (show ¬ p 82 b = 3 by omega), if_neg (fun z => z.1 kk)]
            exact c6
          · rw [if_neg (fun z => absurd z.1 (by omega))]
            exact c7
          · rw [if_neg (fun z => absurd z.1 (by omega))]
            exact c8
        · have ew : wy p tp b ch = tp ch % 2 := by
            unfold wy
            rw [if_pos kk]
          have hq0 := hwr.1 (by omega)
          have hq1 := hwr.2 (by omega)
          have etu : tu p b = 0 ∨ tu p b = 1 := by
            unfold tu
            split
            · exact Or.inr rfl
            · exact Or.inl rfl
          have e0 : tg0 p b = if tu p b = 1 then w1 p b else w0 p b := by
            unfold tg0
            rw [if_pos kk]
          have e1 : tg1 p b = if tu p b = 1 ∨ w1 p b = nx p b then -1 else w1 p b := by
            unfold tg1
            rw [if_neg (by omega), if_pos kk]
          have etn : tu p b = 1 → w0 p b = nx p b := by
            intro q
            unfold tu at q
            split at q
            · next z => exact z.2.2
            · omega
          rw [ew, if_neg (by omega)] at h
          have hpos : 0 ≤ p 84 (4 * b + tp ch % 2) := by
            rcases (show tp ch % 2 = 0 ∨ tp ch % 2 = 1 by omega) with q | q
            · rw [q, ← ew0]; omega
            · rw [q, ← ew1]; omega
          refine go24 (by omega) (fun v3 => c_ab3_52 (tv := tp ch) hw hN hb kk n4 ⟨c3, by omega, by omega⟩ ht.1.symm (by omega) (by omega) (by omega) (fun qj r => ?_) (fun qj qt r => ?_) (fun qj qt r => ?_))
          · have hJ : (if tu p b = 1 then tp ch % 2 = 1 else tp ch % 2 = 0) := by
              split <;> omega
            have eat : tg0 p b = p 84 (4 * b + tp ch % 2) := by
              rw [e0, qj]
              rcases etu with z | z
              · rw [z, if_neg (by omega), ew0]
              · rw [z, if_pos rfl, ew1]
            have hh := h r (up1 (up1 g 3 (ch + 1)) 7 (g 7 + 1)) gc gr ⟨⟨rfl, c4, c5, ?_, ?_, ?_⟩, cs⟩ (fun i q1 q3 q4 q5 q6 q7 q8 => by rw [up1_, if_neg q7, up1_, if_neg q3]) (fun q => by
              have q : p 84 (4 * b + tp ch % 2) < 0 := q
              omega)
            · have hh2 : Q (some (.inl (if p 84 (4 * b + tp ch % 2) < 0 then -1 else p 84 (4 * b + tp ch % 2)))) sh0 _ := hh
              rw [if_neg (by omega), ← eat] at hh2
              exact hh2
            all_goals (try (simp only [tkw]))
            · rw [if_pos kk, if_pos hJ]
              exact c6
            · rw [if_pos ⟨kk, hJ⟩]
              show g 7 + 1 = tj + 1
              omega
            · rw [if_neg (fun z => z.2 hJ)]
              exact c8
          · have hJ : ¬ (if tu p b = 1 then tp ch % 2 = 1 else tp ch % 2 = 0) := by
              split <;> omega
            have eat : tg1 p b = p 84 (4 * b + tp ch % 2) := by
              rw [e1] at qt ⊢
              by_cases z : tu p b = 1 ∨ w1 p b = nx p b
              · rw [if_pos z] at qt
                exact absurd rfl qt
              · rw [if_neg z, show tp ch % 2 = 1 by omega, ew1]
            have hh := h r (up1 (up1 (up1 g 3 (ch + 1)) 8 (g 8 + 1)) 6 (g 6 + 1)) gc gr ⟨⟨rfl, c4, c5, ?_, ?_, ?_⟩, cs⟩ (fun i q1 q3 q4 q5 q6 q7 q8 => by rw [up1_, if_neg q6, up1_, if_neg q8, up1_, if_neg q3]) (fun q => by
              have q : p 84 (4 * b + tp ch % 2) < 0 := q
              omega)
            · have hh2 : Q (some (.inl (if p 84 (4 * b + tp ch % 2) < 0 then -1 else p 84 (4 * b + tp ch % 2)))) sh0 _ := hh
              rw [if_neg (by omega), ← eat] at hh2
              exact hh2
            all_goals (try (simp only [tkw]))
            · rw [if_pos kk, if_neg hJ, if_pos qt]
              show g 6 + 1 = jm + 1
              omega
            · rw [if_neg (fun z => hJ z.2)]
              exact c7
            · rw [if_pos ⟨kk, hJ⟩]
              show g 8 + 1 = ts + 1
              omega
          · have hJ : ¬ (if tu p b = 1 then tp ch % 2 = 1 else tp ch % 2 = 0) := by
              split <;> omega
            have eat : nx p b = p 84 (4 * b + tp ch % 2) := by
              rcases etu with z | z
              · rw [e1] at qt
                by_cases y : tu p b = 1 ∨ w1 p b = nx p b
                · rw [show tp ch % 2 = 1 by omega, ← ew1]
                  omega
                · rw [if_neg y] at qt
                  omega
              · rw [show tp ch % 2 = 0 by omega, ← ew0, etn z]
            have hh := h r (up1 (up1 g 3 (ch + 1)) 8 (g 8 + 1)) gc gr ⟨⟨rfl, c4, c5, ?_, ?_, ?_⟩, cs⟩ (fun i q1 q3 q4 q5 q6 q7 q8 => by rw [up1_, if_neg q8, up1_, if_neg q3]) (fun q => by
              have q : p 84 (4 * b + tp ch % 2) < 0 := q
              omega)
            · have hh2 : Q (some (.inl (if p 84 (4 * b + tp ch % 2) < 0 then -1 else p 84 (4 * b + tp ch % 2)))) sh0 _ := hh
              rw [if_neg (by omega), ← eat] at hh2
              exact hh2
            all_goals (try (simp only [tkw]))
            · rw [if_pos kk, if_neg hJ, if_neg (fun z => z qt)]
              exact c6
            · rw [if_neg (fun z => hJ z.2)]
              exact c7
            · rw [if_pos ⟨kk, hJ⟩]
              show g 8 + 1 = ts + 1
              omega
        · have hq0 := hwr.1 (by omega)
          have hq1 := hwr.2 (by omega)
          rw [if_pos kk] at hg41
          rw [if_neg (by omega)] at h
          have hcN := cN_40 hw
          have bp := pos_b hw (lg := lg) (k := cN p) (Nat.le_refl _)
          have bg := gd_b (p := p) (k := ix p b)
          have hix := ix_lt hw hb
          have htv' : (if g 3 < N 42 1 then N 43 (g 3) % 256 else 0) = tp ch := by rw [c3]; exact ht.1.symm
          by_cases k255 : tp ch = 255
          · have ew : wy p tp b ch = 1 := by
              unfold wy
              rw [if_neg (by omega), if_neg (by omega), if_pos kk, if_pos k255]
            rw [ew] at h
            have hbk := bn_blk hw hN hq1
            have hqa := (ad_b hw (lg := lg) hq1).1
            have e32t := (hN.2.1 _ hq1.1 hq1.2).2.1
            have hcc := hN.1
            have key : ∀ m, 0 ≤ m → m < 4 → N 40 (N 41 b + 4 + m) % 256 = byo (ad p lg (w1 p b)) m := by
              intro m q0 q1
              have := hN.2.2.1.2.2.2.1 (ix p b) (by omega) (by rw [ln_ix hw hb]; exact kk) (4 + m) (by omega) (by omega)
              rw [ln_ix hw hb, if_neg (by omega), show 4 + m - 4 = m by omega] at this
              rw [hg41, show pos p lg (cN p) + 8 * gd p (ix p b) + 4 + m = pos p lg (cN p) + 8 * gd p (ix p b) + (4 + m) by omega, this]
              exact (sg_mod byo_b).1
            have y0 := key 0 (by omega) (by omega)
            have y1 := key 1 (by omega) (by omega)
            have y2 := key 2 (by omega) (by omega)
            have y3 := key 3 (by omega) (by omega)
            rw [show N 41 b + 4 + 0 = N 41 b + 4 by omega] at y0
            have hh := fun r => h r (up1 g 3 (ch + 1)) gc gr ⟨⟨rfl, c4, c5, by simp only [tkw]; rw [if_neg (show ¬ p 82 b = 3 by omega), if_neg (fun z => absurd z.2.1 (by omega))]; exact c6, by simp only [tkw]; rw [if_neg (fun z => absurd z.1 (by omega))]; exact c7, by simp only [tkw]; rw [if_neg (fun z => absurd z.1 (by omega))]; exact c8⟩, cs⟩ (fun i q1 q3 q4 q5 q6 q7 q8 => by rw [up1_, if_neg q3]) (fun q => by
              have q : p 84 (4 * b + 1) < 0 := q
              rw [← ew1] at q
              omega)
            have hh2 : ∀ r, Q (some (.inl (w1 p b))) sh0 (rw_ (rw_ (rw_ (rw_ N 44 r) 52 (up1 g 3 (ch + 1))) 56 gc) 57 gr) := by
              intro r
              have z : Q (some (.inl (if w1 p b < 0 then -1 else w1 p b))) sh0 _ := hh r
              rw [if_neg (by omega)] at z
              exact z
            clear h hh go24 key hN n1 n2 n3 n5
            refine fr_cgo k96 [some (.inr (.inl 44)), some (.inl b), some (.inr (.inl 52)), none, none] 0 0 [] 400 rfl rfl rfl rfl ?_
            repeat' (first | (refine And.intro (by first | omega | (simp (disch := decide) only [up_n, up_s, cp_n, rw_n, rw_s, up1_, if_true, if_false, ite_true, ite_false, reduceIte, eq_self, Int.reduceEq, true_and, and_true, not_true_eq_false, not_false_eq_true]; omega)) ?_) | (refine And.intro (fun hc => ?_) (fun hc => ?_) <;> (try (simp (disch := decide) only [up_n, up_s, cp_n, rw_n, rw_s, up1_, if_true, if_false, ite_true, ite_false, reduceIte, eq_self, Int.reduceEq, true_and, and_true, not_true_eq_false, not_false_eq_true] at hc)) <;> (try (exfalso; omega))) | (refine fun (hc : ¬ _) => ?_; try (simp (disch := decide) only [up_n, up_s, cp_n, rw_n, rw_s, up1_, if_true, if_false, ite_true, ite_false, reduceIte, eq_self, Int.reduceEq, true_and, and_true, not_true_eq_false, not_false_eq_true] at hc)) | (refine fun (hc : _ = _) => ?_; try (simp (disch := decide) only [up_n, up_s, cp_n, rw_n, rw_s, up1_, if_true, if_false, ite_true, ite_false, reduceIte, eq_self, Int.reduceEq, true_and, and_true, not_true_eq_false, not_false_eq_true] at hc)))
            all_goals first | (exfalso; omega) | (exfalso; simp (disch := decide) only [up_n, up_s, cp_n, rw_n, rw_s, up1_, if_true, if_false, ite_true, ite_false, reduceIte, eq_self, Int.reduceEq, true_and, and_true, not_true_eq_false, not_false_eq_true] at *; omega) | skip
            refine c_choose_52 (by simp (disch := decide) only [up_n, up_s, cp_n, rw_n, rw_s, up1_, if_true, if_false, ite_true, ite_false, reduceIte, eq_self, Int.reduceEq, true_and, and_true, not_true_eq_false, not_false_eq_true]; omega) n4 ?_
            simp (disch := decide) only [up_n, up_s, cp_n, rw_n, rw_s, up1_, if_true, if_false, ite_true, ite_false, reduceIte, eq_self, Int.reduceEq, true_and, and_true, not_true_eq_false, not_false_eq_true]
            rw [htv', c3]
            repeat' (first | (refine And.intro (by first | omega | (simp (disch := decide) only [up_n, up_s, cp_n, rw_n, rw_s, up1_, if_true, if_false, ite_true, ite_false, reduceIte, eq_self, Int.reduceEq, true_and, and_true, not_true_eq_false, not_false_eq_true]; omega)) ?_) | (refine And.intro (fun hc => ?_) (fun hc => ?_) <;> (try (simp (disch := decide) only [up_n, up_s, cp_n, rw_n, rw_s, up1_, if_true, if_false, ite_true, ite_false, reduceIte, eq_self, Int.reduceEq, true_and, and_true, not_true_eq_false, not_false_eq_true] at hc)) <;> (try (exfalso; omega))) | (refine fun (hc : ¬ _) => ?_; try (simp (disch := decide) only [up_n, up_s, cp_n, rw_n, rw_s, up1_, if_true, if_false, ite_true, ite_false, reduceIte, eq_self, Int.reduceEq, true_and, and_true, not_true_eq_false, not_false_eq_true] at hc)) | (refine fun (hc : _ = _) => ?_; try (simp (disch := decide) only [up_n, up_s, cp_n, rw_n, rw_s, up1_, if_true, if_false, ite_true, ite_false, reduceIte, eq_self, Int.reduceEq, true_and, and_true, not_true_eq_false, not_false_eq_true] at hc)))
            all_goals first | (exfalso; omega) | skip
            refine c_wordAt (i := N 41 b + 4) (v := ad p lg (w1 p b)) (by omega) (by omega) (by simp (disch := decide) only [up_n, up_s, cp_n, rw_n, rw_s, up1_, if_true, if_false, ite_true, ite_false, reduceIte, eq_self, Int.reduceEq, true_and, and_true, not_true_eq_false, not_false_eq_true]; exact y0) (by simp (disch := decide) only [up_n, up_s, cp_n, rw_n, rw_s, up1_, if_true, if_false, ite_true, ite_false, reduceIte, eq_self, Int.reduceEq, true_and, and_true, not_true_eq_false, not_false_eq_true]; exact y1) (by simp (disch := decide) only [up_n, up_s, cp_n, rw_n, rw_s, up1_, if_true, if_false, ite_true, ite_false, reduceIte, eq_self, Int.reduceEq, true_and, and_true, not_true_eq_false, not_false_eq_true]; exact y2) (by simp (disch := decide) only [up_n, up_s, cp_n, rw_n, rw_s, up1_, if_true, if_false, ite_true, ite_false, reduceIte, eq_self, Int.reduceEq, true_and, and_true, not_true_eq_false, not_false_eq_true]; exact y3) ?_
            repeat' (first | (refine And.intro (by first | omega | (simp (disch := decide) only [up_n, up_s, cp_n, rw_n, rw_s, up1_, if_true, if_false, ite_true, ite_false, reduceIte, eq_self, Int.reduceEq, true_and, and_true, not_true_eq_false, not_false_eq_true]; omega)) ?_) | (refine And.intro (fun hc => ?_) (fun hc => ?_) <;> (try (simp (disch := decide) only [up_n, up_s, cp_n, rw_n, rw_s, up1_, if_true, if_false, ite_true, ite_false, reduceIte, eq_self, Int.reduceEq, true_and, and_true, not_true_eq_false, not_false_eq_true] at hc)) <;> (try (exfalso; omega))) | (refine fun (hc : ¬ _) => ?_; try (simp (disch := decide) only [up_n, up_s, cp_n, rw_n, rw_s, up1_, if_true, if_false, ite_true, ite_false, reduceIte, eq_self, Int.reduceEq, true_and, and_true, not_true_eq_false, not_false_eq_true] at hc)) | (refine fun (hc : _ = _) => ?_; try (simp (disch := decide) only [up_n, up_s, cp_n, rw_n, rw_s, up1_, if_true, if_false, ite_true, ite_false, reduceIte, eq_self, Int.reduceEq, true_and, and_true, not_true_eq_false, not_false_eq_true] at hc)))
            refine c_blockAt (b := w1 p b) (a := ad p lg (w1 p b)) (by simp (disch := decide) only [up_n, up_s, cp_n, rw_n, rw_s, up1_, if_true, if_false, ite_true, ite_false, reduceIte, eq_self, Int.reduceEq, true_and, and_true, not_true_eq_false, not_false_eq_true]; omega) hbk.2 hbk.1 e32t ?_
            repeat' (first | (refine And.intro (by first | omega | (simp (disch := decide) only [up_n, up_s, cp_n, rw_n, rw_s, up1_, if_true, if_false, ite_true, ite_false, reduceIte, eq_self, Int.reduceEq, true_and, and_true, not_true_eq_false, not_false_eq_true]; omega)) ?_) | (refine And.intro (fun hc => ?_) (fun hc => ?_) <;> (try (simp (disch := decide) only [up_n, up_s, cp_n, rw_n, rw_s, up1_, if_true, if_false, ite_true, ite_false, reduceIte, eq_self, Int.reduceEq, true_and, and_true, not_true_eq_false, not_false_eq_true] at hc)) <;> (try (exfalso; omega))) | (refine fun (hc : ¬ _) => ?_; try (simp (disch := decide) only [up_n, up_s, cp_n, rw_n, rw_s, up1_, if_true, if_false, ite_true, ite_false, reduceIte, eq_self, Int.reduceEq, true_and, and_true, not_true_eq_false, not_false_eq_true] at hc)) | (refine fun (hc : _ = _) => ?_; try (simp (disch := decide) only [up_n, up_s, cp_n, rw_n, rw_s, up1_, if_true, if_false, ite_true, ite_false, reduceIte, eq_self, Int.reduceEq, true_and, and_true, not_true_eq_false, not_false_eq_true] at hc)))
            show Q (some (.inl _)) sh0 _
            try (simp (disch := decide) only [up_n, up_s, cp_n, rw_n, rw_s, up1_, if_true, if_false, ite_true, ite_false, reduceIte, eq_self, Int.reduceEq, true_and, and_true, not_true_eq_false, not_false_eq_true])
            simp (disch := decide) only [up_rw, rw_u, up_up, rw_rw, rw_cm]
            exact hh2 _
          · have ew : wy p tp b ch = 0 := by
              unfold wy
              rw [if_neg (by omega), if_neg (by omega), if_pos kk, if_neg k255]
            rw [ew] at h
            have h24 : ∀ v3, fr_Run 96 none 24 [some (.inr (.inl 44)), some (.inl b), some (.inr (.inl 52)), some (.inl v3), none] [] sh0 (rw_ (rw_ (rw_ (rw_ N 44 r44) 52 (up1 g 3 (ch + 1))) 56 gc) 57 gr) 0 0 Q := by
              intro v3
              refine c_ab_go_52 hw hN hb (Or.inr kk) (by simp (disch := decide) only [up_n, up_s, cp_n, rw_n, rw_s, up1_, if_true, if_false, ite_true, ite_false, reduceIte, eq_self, Int.reduceEq, true_and, and_true, not_true_eq_false, not_false_eq_true]; omega) (fun r => ?_)
              have hh := h r (if tg1 p b ≠ -1 then up1 (up1 g 3 (ch + 1)) 6 (g 6 + 1) else up1 g 3 (ch + 1)) gc gr ⟨⟨?_, ?_, ?_, ?_, ?_, ?_⟩, cs⟩ (fun i q1 q3 q4 q5 q6 q7 q8 => ?_) (fun q => by
                have q : p 84 (4 * b + 0) < 0 := q
                omega)
              · have hh2 : Q (some (.inl (if p 84 (4 * b + 0) < 0 then -1 else p 84 (4 * b + 0)))) sh0 _ := hh
                rw [if_neg (by omega)] at hh2
                exact hh2
              · split <;> rfl
              · split <;> exact c4
              · split <;> exact c5
              · rw [tkw_jm (by omega) (by omega)]
                by_cases q : tg1 p b ≠ -1
                · rw [if_pos q, if_pos q]
                  show g 6 + 1 = jm + 1
                  omega
                · rw [if_neg q, if_neg q]
                  exact c6
              · rw [tkw_tj (by omega)]
                split <;> exact c7
              · rw [tkw_ts (by omega)]
                split <;> exact c8
              · split
                · rw [up1_, if_neg q6, up1_, if_neg q3]
                · rw [up1_, if_neg q3]
            clear h go24 hN n1 n2 n3 n5
            refine fr_cgo k96 [some (.inr (.inl 44)), some (.inl b), some (.inr (.inl 52)), none, none] 0 0 [24] 400 rfl rfl rfl rfl ?_
            repeat' (first | (refine And.intro (by first | omega | (simp (disch := decide) only [up_n, up_s, cp_n, rw_n, rw_s, up1_, if_true, if_false, ite_true, ite_false, reduceIte, eq_self, Int.reduceEq, true_and, and_true, not_true_eq_false, not_false_eq_true]; omega)) ?_) | (refine And.intro (fun hc => ?_) (fun hc => ?_) <;> (try (simp (disch := decide) only [up_n, up_s, cp_n, rw_n, rw_s, up1_, if_true, if_false, ite_true, ite_false, reduceIte, eq_self, Int.reduceEq, true_and, and_true, not_true_eq_false, not_false_eq_true] at hc)) <;> (try (exfalso; omega))) | (refine fun (hc : ¬ _) => ?_; try (simp (disch := decide) only [up_n, up_s, cp_n, rw_n, rw_s, up1_, if_true, if_false, ite_true, ite_false, reduceIte, eq_self, Int.reduceEq, true_and, and_true, not_true_eq_false, not_false_eq_true] at hc)) | (refine fun (hc : _ = _) => ?_; try (simp (disch := decide) only [up_n, up_s, cp_n, rw_n, rw_s, up1_, if_true, if_false, ite_true, ite_false, reduceIte, eq_self, Int.reduceEq, true_and, and_true, not_true_eq_false, not_false_eq_true] at hc)))
            all_goals first | (exfalso; omega) | (exfalso; simp (disch := decide) only [up_n, up_s, cp_n, rw_n, rw_s, up1_, if_true, if_false, ite_true, ite_false, reduceIte, eq_self, Int.reduceEq, true_and, and_true, not_true_eq_false, not_false_eq_true] at *; omega) | skip
            refine c_choose_52 (by simp (disch := decide) only [up_n, up_s, cp_n, rw_n, rw_s, up1_, if_true, if_false, ite_true, ite_false, reduceIte, eq_self, Int.reduceEq, true_and, and_true, not_true_eq_false, not_false_eq_true]; omega) n4 ?_
            simp (disch := decide) only [up_n, up_s, cp_n, rw_n, rw_s, up1_, if_true, if_false, ite_true, ite_false, reduceIte, eq_self, Int.reduceEq, true_and, and_true, not_true_eq_false, not_false_eq_true]
            rw [htv', c3]
            simp (disch := decide) only [up_rw, rw_u, up_up, rw_rw, rw_cm]
            repeat' (first | (refine And.intro (by first | omega | (simp (disch := decide) only [up_n, up_s, cp_n, rw_n, rw_s, up1_, if_true, if_false, ite_true, ite_false, reduceIte, eq_self, Int.reduceEq, true_and, and_true, not_true_eq_false, not_false_eq_true]; omega)) ?_) | (refine And.intro (fun hc => ?_) (fun hc => ?_) <;> (try (simp (disch := decide) only [up_n, up_s, cp_n, rw_n, rw_s, up1_, if_true, if_false, ite_true, ite_false, reduceIte, eq_self, Int.reduceEq, true_and, and_true, not_true_eq_false, not_false_eq_true] at hc)) <;> (try (exfalso; omega))) | (refine fun (hc : ¬ _) => ?_; try (simp (disch := decide) only [up_n, up_s, cp_n, rw_n, rw_s, up1_, if_true, if_false, ite_true, ite_false, reduceIte, eq_self, Int.reduceEq, true_and, and_true, not_true_eq_false, not_false_eq_true] at hc)) | (refine fun (hc : _ = _) => ?_; try (simp (disch := decide) only [up_n, up_s, cp_n, rw_n, rw_s, up1_, if_true, if_false, ite_true, ite_false, reduceIte, eq_self, Int.reduceEq, true_and, and_true, not_true_eq_false, not_false_eq_true] at hc)))
            all_goals first | (exfalso; omega) | exact h24 _
set_option maxHeartbeats 4000000 in
set_option maxRecDepth 100000 in
theorem c_ab3_66 {N p : fr_M} {lg : Int → Int} {b v3 ch tv : Int} {r44 g gc gr : Int → Int} {Q : Option fr_V → fr_H → fr_M → Prop} (hw : WF p) (hN : BN p lg N) (hb : 0 ≤ b ∧ b < p 75 4) (hk : p 82 b = 3) (hl : 0 ≤ N 42 1 ∧ N 42 1 ≤ 200) (hch : g 3 = ch ∧ 0 ≤ ch ∧ ch ≤ 1000) (htv : (if ch < N 42 1 then N 43 ch % 256 else 0) = tv) (h6 : 0 ≤ g 6 ∧ g 6 ≤ 1000) (h7 : 0 ≤ g 7 ∧ g 7 ≤ 1000) (h8 : 0 ≤ g 8 ∧ g 8 ≤ 1000) (hj : tv % 2 = tu p b → ∀ r, Q (some (.inl (tg0 p b))) sh0 (rw_ (rw_ (rw_ (rw_ N 44 r) 66 (up1 (up1 g 3 (ch + 1)) 7 (g 7 + 1))) 70 gc) 71 gr)) (hs1 : tv % 2 ≠ tu p b → tg1 p b ≠ -1 → ∀ r, Q (some (.inl (tg1 p b))) sh0 (rw_ (rw_ (rw_ (rw_ N 44 r) 66 (up1 (up1 (up1 g 3 (ch + 1)) 8 (g 8 + 1)) 6 (g 6 + 1))) 70 gc) 71 gr)) (hs0 : tv % 2 ≠ tu p b → tg1 p b = -1 → ∀ r, Q (some (.inl (nx p b))) sh0 (rw_ (rw_ (rw_ (rw_ N 44 r) 66 (up1 (up1 g 3 (ch + 1)) 8 (g 8 + 1))) 70 gc) 71 gr)) : fr_Run 96 none 24 [some (.inr (.inl 44)), some (.inl b), some (.inr (.inl 66)), some (.inl v3), none] [] sh0 (rw_ (rw_ (rw_ (rw_ N 44 r44) 66 g) 70 gc) 71 gr) 0 0 Q := by
  have h40 := hw.1.1
  obtain ⟨e31, e32, e33, e6⟩ := hN.2.1 b hb.1 hb.2
  have hab := ad_b hw (lg := lg) hb
  have hsz := (hw.2.2.2.2.2.1 b hb.1 hb.2).1
  have hcc := hN.1
  have ht : tg0 p b ≠ -1 := by
    have := w_rng hw hb
    unfold tg0
    rw [if_pos hk]
    split <;> omega
  have tr := (tg0_rng hw hb).resolve_left ht
  have hbk := bn_blk hw hN tr
  have e32t := (hN.2.1 _ tr.1 tr.2).2.1
  have e32' : N 32 b + N 6 b = ea p lg b := by
    rw [e32, e6]
    rfl
  have hz0 := s0_e (p := p) (lg := lg) (b := b)
  rw [if_neg ht] at hz0
  have hs02 : 2 ≤ s0 p lg b := by
    rcases hN.2.2.2.2 (2 * b) with q | q
    · rw [if_neg (by omega)] at hz0
      omega
    · rw [if_pos q] at hz0
      omega
  have z1 := s1_b (p := p) (lg := lg) (b := b)
  have hbe : be p lg b = ea p lg b + 0 + s0 p lg b + s1 p lg b := by
    show ed p lg b (ea p lg b) = _
    unfold ed c5
    rw [if_neg (by omega), if_neg (by omega), if_neg (by omega)]
  refine fr_go k96 [35] 400 rfl ?_
  repeat' (first | (refine And.intro (by first | omega | (simp (disch := decide) only [up_n, up_s, cp_n, rw_n, rw_s, up1_, if_true, if_false, ite_true, ite_false, reduceIte, eq_self, Int.reduceEq, true_and, and_true, not_true_eq_false, not_false_eq_true]; omega)) ?_) | (refine And.intro (fun hc => ?_) (fun hc => ?_) <;> (try (simp (disch := decide) only [up_n, up_s, cp_n, rw_n, rw_s, up1_, if_true, if_false, ite_true, ite_false, reduceIte, eq_self, Int.reduceEq, true_and, and_true, not_true_eq_false, not_false_eq_true] at hc)) <;> (try (exfalso; omega))) | (refine fun (hc : ¬ _) => ?_; try (simp (disch := decide) only [up_n, up_s, cp_n, rw_n, rw_s, up1_, if_true, if_false, ite_true, ite_false, reduceIte, eq_self, Int.reduceEq, true_and, and_true, not_true_eq_false, not_false_eq_true] at hc)) | (refine fun (hc : _ = _) => ?_; try (simp (disch := decide) only [up_n, up_s, cp_n, rw_n, rw_s, up1_, if_true, if_false, ite_true, ite_false, reduceIte, eq_self, Int.reduceEq, true_and, and_true, not_true_eq_false, not_false_eq_true] at hc)))
  refine c_endAddress (by omega) (by simp (disch := decide) only [up_n, up_s, cp_n, rw_n, rw_s, up1_, if_true, if_false, ite_true, ite_false, reduceIte, eq_self, Int.reduceEq, true_and, and_true, not_true_eq_false, not_false_eq_true]; omega) ?_
  repeat' (first | (refine And.intro (by first | omega | (simp (disch := decide) only [up_n, up_s, cp_n, rw_n, rw_s, up1_, if_true, if_false, ite_true, ite_false, reduceIte, eq_self, Int.reduceEq, true_and, and_true, not_true_eq_false, not_false_eq_true]; omega)) ?_) | (refine And.intro (fun hc => ?_) (fun hc => ?_) <;> (try (simp (disch := decide) only [up_n, up_s, cp_n, rw_n, rw_s, up1_, if_true, if_false, ite_true, ite_false, reduceIte, eq_self, Int.reduceEq, true_and, and_true, not_true_eq_false, not_false_eq_true] at hc)) <;> (try (exfalso; omega))) | (refine fun (hc : ¬ _) => ?_; try (simp (disch := decide) only [up_n, up_s, cp_n, rw_n, rw_s, up1_, if_true, if_false, ite_true, ite_false, reduceIte, eq_self, Int.reduceEq, true_and, and_true, not_true_eq_false, not_false_eq_true] at hc)) | (refine fun (hc : _ = _) => ?_; try (simp (disch := decide) only [up_n, up_s, cp_n, rw_n, rw_s, up1_, if_true, if_false, ite_true, ite_false, reduceIte, eq_self, Int.reduceEq, true_and, and_true, not_true_eq_false, not_false_eq_true] at hc)))
  all_goals (show fr_Run 96 none 35 _ _ _ _ 0 0 Q)
  simp (disch := decide) only [up_n, up_s, cp_n, rw_n, rw_s, up1_, if_true, if_false, ite_true, ite_false, reduceIte, eq_self, Int.reduceEq, true_and, and_true, not_true_eq_false, not_false_eq_true]
  rw [e32']
  simp (disch := decide) only [up_rw, rw_u, up_up, rw_rw, rw_cm]
  refine fr_go k96 [35] 400 rfl ?_
  repeat' (first | (refine And.intro (by first | omega | (simp (disch := decide) only [up_n, up_s, cp_n, rw_n, rw_s, up1_, if_true, if_false, ite_true, ite_false, reduceIte, eq_self, Int.reduceEq, true_and, and_true, not_true_eq_false, not_false_eq_true]; omega)) ?_) | (refine And.intro (fun hc => ?_) (fun hc => ?_) <;> (try (simp (disch := decide) only [up_n, up_s, cp_n, rw_n, rw_s, up1_, if_true, if_false, ite_true, ite_false, reduceIte, eq_self, Int.reduceEq, true_and, and_true, not_true_eq_false, not_false_eq_true] at hc)) <;> (try (exfalso; omega))) | (refine fun (hc : ¬ _) => ?_; try (simp (disch := decide) only [up_n, up_s, cp_n, rw_n, rw_s, up1_, if_true, if_false, ite_true, ite_false, reduceIte, eq_self, Int.reduceEq, true_and, and_true, not_true_eq_false, not_false_eq_true] at hc)) | (refine fun (hc : _ = _) => ?_; try (simp (disch := decide) only [up_n, up_s, cp_n, rw_n, rw_s, up1_, if_true, if_false, ite_true, ite_false, reduceIte, eq_self, Int.reduceEq, true_and, and_true, not_true_eq_false, not_false_eq_true] at hc)))
  all_goals first | (exfalso; omega) | (exfalso; simp (disch := decide) only [up_n, up_s, cp_n, rw_n, rw_s, up1_, if_true, if_false, ite_true, ite_false, reduceIte, eq_self, Int.reduceEq, true_and, and_true, not_true_eq_false, not_false_eq_true] at *; omega) | skip
  refine c_rdTest_66 (lg := lg) (ch := ch) (tv := tv) hw hN hb hk rfl hl hch htv h7 h8 (fun q => ?_) (fun q => ?_)
  · have hh := hj q
    clear hj hs1 hs0 hN
    repeat' (first | (refine And.intro (by first | omega | (simp (disch := decide) only [up_n, up_s, cp_n, rw_n, rw_s, up1_, if_true, if_false, ite_true, ite_false, reduceIte, eq_self, Int.reduceEq, true_and, and_true, not_true_eq_false, not_false_eq_true]; omega)) ?_) | (refine And.intro (fun hc => ?_) (fun hc => ?_) <;> (try (simp (disch := decide) only [up_n, up_s, cp_n, rw_n, rw_s, up1_, if_true, if_false, ite_true, ite_false, reduceIte, eq_self, Int.reduceEq, true_and, and_true, not_true_eq_false, not_false_eq_true] at hc)) <;> (try (exfalso; omega))) | (refine fun (hc : ¬ _) => ?_; try (simp (disch := decide) only [up_n, up_s, cp_n, rw_n, rw_s, up1_, if_true, if_false, ite_true, ite_false, reduceIte, eq_self, Int.reduceEq, true_and, and_true, not_true_eq_false, not_false_eq_true] at hc)) | (refine fun (hc : _ = _) => ?_; try (simp (disch := decide) only [up_n, up_s, cp_n, rw_n, rw_s, up1_, if_true, if_false, ite_true, ite_false, reduceIte, eq_self, Int.reduceEq, true_and, and_true, not_true_eq_false, not_false_eq_true] at hc)))
    all_goals first | (exfalso; omega) | (exfalso; simp (disch := decide) only [up_n, up_s, cp_n, rw_n, rw_s, up1_, if_true, if_false, ite_true, ite_false, reduceIte, eq_self, Int.reduceEq, true_and, and_true, not_true_eq_false, not_false_eq_true] at *; omega) | skip
    refine c_blockAt (b := tg0 p b) (a := ad p lg (tg0 p b)) (by simp (disch := decide) only [up_n, up_s, cp_n, rw_n, rw_s, up1_, if_true, if_false, ite_true, ite_false, reduceIte, eq_self, Int.reduceEq, true_and, and_true, not_true_eq_false, not_false_eq_true]; omega) hbk.2 hbk.1 e32t ?_
    repeat' (first | (refine And.intro (by first | omega | (simp (disch := decide) only [up_n, up_s, cp_n, rw_n, rw_s, up1_, if_true, if_false, ite_true, ite_false, reduceIte, eq_self, Int.reduceEq, true_and, and_true, not_true_eq_false, not_false_eq_true]; omega)) ?_) | (refine And.intro (fun hc => ?_) (fun hc => ?_) <;> (try (simp (disch := decide) only [up_n, up_s, cp_n, rw_n, rw_s, up1_, if_true, if_false, ite_true, ite_false, reduceIte, eq_self, Int.reduceEq, true_and, and_true, not_true_eq_false, not_false_eq_true] at hc)) <;> (try (exfalso; omega))) | (refine fun (hc : ¬ _) => ?_; try (simp (disch := decide) only [up_n, up_s, cp_n, rw_n, rw_s, up1_, if_true, if_false, ite_true, ite_false, reduceIte, eq_self, Int.reduceEq, true_and, and_true, not_true_eq_false, not_false_eq_true] at hc)) | (refine fun (hc : _ = _) => ?_; try (simp (disch := decide) only [up_n, up_s, cp_n, rw_n, rw_s, up1_, if_true, if_false, ite_true, ite_false, reduceIte, eq_self, Int.reduceEq, true_and, and_true, not_true_eq_false, not_false_eq_true] at hc)))
    exact hh _
  · have hh1 := hs1 q
    have hh0 := hs0 q
    clear hj hs1 hs0
    repeat' (first | (refine And.intro (by first | omega | (simp (disch := decide) only [up_n, up_s, cp_n, rw_n, rw_s, up1_, if_true, if_false, ite_true, ite_false, reduceIte, eq_self, Int.reduceEq, true_and, and_true, not_true_eq_false, not_false_eq_true]; omega)) ?_) | (refine And.intro (fun hc => ?_) (fun hc => ?_) <;> (try (simp (disch := decide) only [up_n, up_s, cp_n, rw_n, rw_s, up1_, if_true, if_false, ite_true, ite_false, reduceIte, eq_self, Int.reduceEq, true_and, and_true, not_true_eq_false, not_false_eq_true] at hc)) <;> (try (exfalso; omega))) | (refine fun (hc : ¬ _) => ?_; try (simp (disch := decide) only [up_n, up_s, cp_n, rw_n, rw_s, up1_, if_true, if_false, ite_true, ite_false, reduceIte, eq_self, Int.reduceEq, true_and, and_true, not_true_eq_false, not_false_eq_true] at hc)) | (refine fun (hc : _ = _) => ?_; try (simp (disch := decide) only [up_n, up_s, cp_n, rw_n, rw_s, up1_, if_true, if_false, ite_true, ite_false, reduceIte, eq_self, Int.reduceEq, true_and, and_true, not_true_eq_false, not_false_eq_true] at hc)))
    all_goals first | (exfalso; omega) | (exfalso; simp (disch := decide) only [up_n, up_s, cp_n, rw_n, rw_s, up1_, if_true, if_false, ite_true, ite_false, reduceIte, eq_self, Int.reduceEq, true_and, and_true, not_true_eq_false, not_false_eq_true] at *; omega) | skip
    refine c_ab_j_66 hw hN hb (by omega) (by omega) rfl rfl (by simp (disch := decide) only [up_n, up_s, cp_n, rw_n, rw_s, up1_, if_true, if_false, ite_true, ite_false, reduceIte, eq_self, Int.reduceEq, true_and, and_true, not_true_eq_false, not_false_eq_true]; omega) (fun q r => ?_) (fun q => ?_)
    · exact hh1 q r
    · exact hh0 q _
set_option maxHeartbeats 4000000 in
set_option maxRecDepth 100000 in
theorem c_afterBytes_66 {N p : fr_M} {tp lg : Int → Int} {b ch : Int} {st : List Int} {mo : Int} {tk : Int → Int} {jm tj ts : Int} {k : Nat} {r44 g gc gr : Int → Int} {Q : Option fr_V → fr_H → fr_M → Prop} (hw : WF p) (hR : RN p tp N) (hN : BN p lg N) (hS : SI p k (b, ch, st, mo, tk, jm, tj, ts)) (hk : k ≤ 200) (h0 : 0 ≤ b) (hC : CL p lg g gc gr (b, ch, st, mo, tk, jm, tj, ts)) (h : ∀ r g' gc' gr', CL p lg g' gc' gr' (stp p tp (b, ch, st, mo, tk, jm, tj, ts)) → (∀ i, i ≠ 1 → i ≠ 3 → i ≠ 4 → i ≠ 5 → i ≠ 6 → i ≠ 7 → i ≠ 8 → g' i = g i) → ((stp p tp (b, ch, st, mo, tk, jm, tj, ts)).1 < 0 → g' 1 = -1 - (stp p tp (b, ch, st, mo, tk, jm, tj, ts)).1) → Q (some (.inl (if (stp p tp (b, ch, st, mo, tk, jm, tj, ts)).1 < 0 then -1 else (stp p tp (b, ch, st, mo, tk, jm, tj, ts)).1))) sh0 (rw_ (rw_ (rw_ (rw_ N 44 r) 66 g') 70 gc') 71 gr')) : fr_Call 96 [.inr (.inl 44), .inl b, .inr (.inl 66)] sh0 (rw_ (rw_ (rw_ (rw_ N 44 r44) 66 g) 70 gc) 71 gr) Q := by
  obtain ⟨s1, s2, s3, s4, s5, s6, s7, s8, s9⟩ := hS
  have hb : 0 ≤ b ∧ b < p 75 4 := ⟨h0, s1.2⟩
  have h40 := hw.1.1
  replace s2 : 0 ≤ ch ∧ ch ≤ (k : Int) := s2
  replace s4 : st.length ≤ 8 := s4
  replace s5 : 0 ≤ mo ∧ mo ≤ 8 := s5
  replace s7 : 0 ≤ jm ∧ jm ≤ (k : Int) := s7
  replace s8 : 0 ≤ tj ∧ tj ≤ (k : Int) := s8
  replace s9 : 0 ≤ ts ∧ ts ≤ (k : Int) := s9
  clear s1 s6
  obtain ⟨⟨c3, c4, c5, c6, c7, c8⟩, cs⟩ := hC
  replace c3 : g 3 = ch := c3
  replace c4 : g 4 = (st.length : Int) := c4
  replace c5 : g 5 = mo := c5
  replace c6 : g 6 = jm := c6
  replace c7 : g 7 = tj := c7
  replace c8 : g 8 = ts := c8
  replace cs : ∀ (j : Nat) (x : Int), st[j]? = some x → gc ((st.length : Int) - 1 - (j : Int)) = x ∧ gr ((st.length : Int) - 1 - (j : Int)) = ea p lg x + 5 := cs
  obtain ⟨n1, n2, n3, n4, n5⟩ := hR
  have ht := n5 ch s2.1
  have hg41 := pic_g hw hN hb
  obtain ⟨w1', w2', w3', w4', w5', w6', w7', w8'⟩ := hw.2.2.2.2.2.1 b hb.1 hb.2
  have go24 : p 82 b ≠ 6 → (∀ v3, fr_Run 96 none 24 [some (.inr (.inl 44)), some (.inl b), some (.inr (.inl 66)), some (.inl v3), none] [] sh0 (rw_ (rw_ (rw_ (rw_ N 44 r44) 66 g) 70 gc) 71 gr) 0 0 Q) → fr_Call 96 [.inr (.inl 44), .inl b, .inr (.inl 66)] sh0 (rw_ (rw_ (rw_ (rw_ N 44 r44) 66 g) 70 gc) 71 gr) Q := by
    intro k6 hh
    rw [if_neg k6] at hg41
    refine fr_cgo k96 [some (.inr (.inl 44)), some (.inl b), some (.inr (.inl 66)), none, none] 0 0 [24] 400 rfl rfl rfl rfl ?_
    clear h
    repeat' (first | (refine And.intro (by first | omega | (simp (disch := decide) only [up_n, up_s, cp_n, rw_n, rw_s, up1_, if_true, if_false, ite_true, ite_false, reduceIte, eq_self, Int.reduceEq, true_and, and_true, not_true_eq_false, not_false_eq_true]; omega)) ?_) | (refine And.intro (fun hc => ?_) (fun hc => ?_) <;> (try (simp (disch := decide) only [up_n, up_s, cp_n, rw_n, rw_s, up1_, if_true, if_false, ite_true, ite_false, reduceIte, eq_self, Int.reduceEq, true_and, and_true, not_true_eq_false, not_false_eq_true] at hc)) <;> (try (exfalso; omega))) | (refine fun (hc : ¬ _) => ?_; try (simp (disch := decide) only [up_n, up_s, cp_n, rw_n, rw_s, up1_, if_true, if_false, ite_true, ite_false, reduceIte, eq_self, Int.reduceEq, true_and, and_true, not_true_eq_false, not_false_eq_true] at hc)) | (refine fun (hc : _ = _) => ?_; try (simp (disch := decide) only [up_n, up_s, cp_n, rw_n, rw_s, up1_, if_true, if_false, ite_true, ite_false, reduceIte, eq_self, Int.reduceEq, true_and, and_true, not_true_eq_false, not_false_eq_true] at hc)))
    all_goals first | (exfalso; omega) | (exfalso; simp (disch := decide) only [up_n, up_s, cp_n, rw_n, rw_s, up1_, if_true, if_false, ite_true, ite_false, reduceIte, eq_self, Int.reduceEq, true_and, and_true, not_true_eq_false, not_false_eq_true] at *; omega) | exact hh _
  by_cases k1 : p 82 b = 1
  · have es : stp p tp (b, ch, st, mo, tk, jm, tj, ts) = (-2, ch, st, mo, tk, jm, tj, ts) := by
      simp only [stp, if_pos k1]
    rw [es] at h
    refine go24 (by omega) (fun v3 => c_ab1_66 hw hN hb k1 (fun r => ?_))
    exact h r (up1 g 1 1) gc gr ⟨⟨c3, c4, c5, c6, c7, c8⟩, cs⟩ (fun i q1 _ _ _ _ _ _ => by rw [up1_, if_neg q1]) (fun _ => rfl)
  · by_cases k5 : p 82 b = 5
    · refine go24 (by omega) (fun v3 => c_ab5_66 hw hN hb k5 (by omega) (fun e8 r => ?_) (fun e8 r => ?_))
      · have es : stp p tp (b, ch, st, mo, tk, jm, tj, ts) = (-3, ch, st, mo, tk, jm, tj, ts) := by
          simp only [stp, if_neg k1, if_pos k5, if_pos (show st.length = 8 by omega)]
        rw [es] at h
        exact h r (up1 g 1 2) gc gr ⟨⟨c3, c4, c5, c6, c7, c8⟩, cs⟩ (fun i q1 _ _ _ _ _ _ => by rw [up1_, if_neg q1]) (fun _ => rfl)
      · have es : stp p tp (b, ch, st, mo, tk, jm, tj, ts) = (p 77 (9 * p 86 b), ch, b :: st, max mo ((st.length : Int) + 1), tk, jm, tj, ts) := by
          simp only [stp, if_neg k1, if_pos k5, if_neg (show ¬ st.length = 8 by omega)]
        rw [es] at h
        have hcal := w8' k5
        have el : (((b :: st).length : Nat) : Int) = (st.length : Int) + 1 := by simp
        have hh := h r (up1 (up1 g 4 (g 4 + 1)) 5 (max (g 5) (g 4 + 1))) (up1 gc (g 4) b) (up1 gr (g 4) (ea p lg b + 5)) ⟨⟨c3, by show g 4 + 1 = ((b :: st).length : Int); rw [el, c4], by show max (g 5) (g 4 + 1) = max mo ((st.length : Int) + 1); rw [c4, c5], c6, c7, c8⟩, fun j x hx => ?_⟩ (fun i q1 q3 q4 q5 _ _ _ => by rw [up1_, if_neg q5, up1_, if_neg q4]) (fun q => by
          have q : p 77 (9 * p 86 b) < 0 := q
          omega)
        · have hh2 : Q (some (.inl (if p 77 (9 * p 86 b) < 0 then -1 else p 77 (9 * p 86 b)))) sh0 _ := hh
          rw [if_neg (by omega)] at hh2
          exact hh2
        · show up1 gc (g 4) b (((b :: st).length : Int) - 1 - (j : Int)) = x ∧ up1 gr (g 4) (ea p lg b + 5) (((b :: st).length : Int) - 1 - (j : Int)) = ea p lg x + 5
          rw [up1_, up1_, el, c4]
          cases j with
          | zero =>
            have hx : b = x := by simpa using hx
            rw [if_pos (by omega), if_pos (by omega), hx]
            exact ⟨rfl, rfl⟩
          | succ j =>
            have hx : st[j]? = some x := by simpa using hx
            have hj := (List.getElem?_eq_some_iff.mp hx).1
            have := cs j x hx
            rw [if_neg (by omega), if_neg (by omega), show (st.length : Int) + 1 - 1 - ((j + 1 : Nat) : Int) = (st.length : Int) - 1 - (j : Int) by omega]
            exact this
    · by_cases k0 : p 82 b = 0
      · refine go24 (by omega) (fun v3 => c_ab0_66 hw hN hb k0 (by omega) (by omega) (fun e4 r => ?_) (fun e4 => ?_))
        · have hst : st = [] := List.eq_nil_of_length_eq_zero (by omega)
          subst hst
          have es : stp p tp (b, ch, [], mo, tk, jm, tj, ts) = (-1, ch, [], mo, tk, jm, tj, ts) := by
            simp only [stp, if_neg k1, if_neg k5, if_pos k0]
          rw [es] at h
          exact h r (up1 g 1 0) gc gr ⟨⟨c3, c4, c5, c6, c7, c8⟩, cs⟩ (fun i q1 _ _ _ _ _ _ => by rw [up1_, if_neg q1]) (fun _ => rfl)
        · cases st with
          | nil => exact absurd c4 e4
          | cons f r0 =>
            have hf := s3 f (List.mem_cons_self ..)
            have ef := cs 0 f (by simp)
            have el : (((f :: r0).length : Nat) : Int) = (r0.length : Int) + 1 := by simp
            rw [el] at c4 ef
            have hq := (w_rng hw hf.1).1 (by omega)
            have ew : w0 p f = p 84 (4 * f + 0) := by
              show p 84 (4 * f) = _
              congr 1
              omega
            refine ⟨f, by rw [c4, show (r0.length : Int) + 1 - 1 = (r0.length : Int) + 1 - 1 - ((0 : Nat) : Int) by omega]; exact ef.1, by rw [c4, show (r0.length : Int) + 1 - 1 = (r0.length : Int) + 1 - 1 - ((0 : Nat) : Int) by omega]; exact ef.2, hf.1, hf.2, fun r => ?_⟩
            have es : stp p tp (b, ch, f :: r0, mo, tk, jm, tj, ts) = tkw p ch r0 mo tk jm tj ts f 0 := by
              simp only [stp, if_neg k1, if_neg k5, if_pos k0]
            rw [es] at h
            have hh := h r (if tg1 p f ≠ -1 then up1 (up1 g 4 (g 4 - 1)) 6 (g 6 + 1) else up1 g 4 (g 4 - 1)) gc gr ⟨⟨?_, ?_, ?_, ?_, ?_, ?_⟩, fun j x hx => ?_⟩ (fun i q1 q3 q4 q5 q6 q7 q8 => ?_) (fun q => by
              have q : p 84 (4 * f + 0) < 0 := q
              omega)
            · have hh2 : Q (some (.inl (if p 84 (4 * f + 0) < 0 then -1 else p 84 (4 * f + 0)))) sh0 _ := hh
              rw [if_neg (by omega)] at hh2
              exact hh2
            · split <;> exact c3
            · split
              · show g 4 - 1 = (r0.length : Int)
                omega
              · show g 4 - 1 = (r0.length : Int)
                omega
            · split <;> exact c5
            · rw [tkw_jm (by omega) (by omega)]
              by_cases q : tg1 p f ≠ -1
              · rw [if_pos q, if_pos q]
                show g 6 + 1 = jm + 1
                omega
              · rw [if_neg q, if_neg q]
                exact c6
            · rw [tkw_tj (by omega)]
              split <;> exact c7
            · rw [tkw_ts (by omega)]
              split <;> exact c8
            · have hx : r0[j]? = some x := hx
              have := cs (j + 1) x (by simpa using hx)
              rw [el, show (r0.length : Int) + 1 - 1 - ((j + 1 : Nat) : Int) = (r0.length : Int) - 1 - (j : Int) by omega] at this
              exact this
            · split
              · rw [up1_, if_neg q6, up1_, if_neg q4]
              · rw [up1_, if_neg q4]
      · have ew0 : w0 p b = p 84 (4 * b + 0) := by
          show p 84 (4 * b) = _
          congr 1
          omega
        have ew1 : w1 p b = p 84 (4 * b + 1) := rfl
        have hwr := w_rng hw hb
        have es : stp p tp (b, ch, st, mo, tk, jm, tj, ts) = tkw p (if p 82 b = 2 then ch else ch + 1) st mo tk jm tj ts b (wy p tp b ch) := by
          simp only [stp, if_neg k1, if_neg k5, if_neg k0]
        rw [es] at h
        rcases (show p 82 b = 2 ∨ p 82 b = 4 ∨ p 82 b = 3 ∨ p 82 b = 6 by omega) with kk | kk | kk | kk
        · have ew : wy p tp b ch = 0 := by
            unfold wy
            rw [if_neg (by omega), if_neg (by omega), if_neg (by omega)]
          rw [ew, if_pos kk] at h
          have hq := hwr.1 (by omega)
          refine go24 (by omega) (fun v3 => c_ab_go_66 hw hN hb (Or.inl kk) (by omega) (fun r => ?_))
          have hh := h r (if tg1 p b ≠ -1 then up1 g 6 (g 6 + 1) else g) gc gr ⟨⟨?_, ?_, ?_, ?_, ?_, ?_⟩, cs⟩ (fun i q1 q3 q4 q5 q6 q7 q8 => ?_) (fun q => by
            have q : p 84 (4 * b + 0) < 0 := q
            omega)
          · have hh2 : Q (some (.inl (if p 84 (4 * b + 0) < 0 then -1 else p 84 (4 * b + 0)))) sh0 _ := hh
            rw [if_neg (by omega)] at hh2
            exact hh2
          · split <;> exact c3
          · split <;> exact c4
          · split <;> exact c5
          · rw [tkw_jm (by omega) (by omega)]
            by_cases q : tg1 p b ≠ -1
            · rw [if_pos q, if_pos q]
              show g 6 + 1 = jm + 1
              omega
            · rw [if_neg q, if_neg q]
              exact c6
          · rw [tkw_tj (by omega)]
            split <;> exact c7
          · rw [tkw_ts (by omega)]
            split <;> exact c8
          · split
            · rw [up1_, if_neg q6]
            · rfl
        · have ew : wy p tp b ch = tp ch % p 83 b := by
            unfold wy
            rw [if_neg (by omega), if_pos kk]
          have hn4 := w7' kk
          have a0 := Int.emod_nonneg (tp ch) (show p 83 b ≠ 0 by omega)
          have a1 := Int.emod_lt_of_pos (tp ch) (show 0 < p 83 b by omega)
          have hq := hw.2.2.2.2.2.2 b (tp ch % p 83 b) hb.1 hb.2 a0 a1
          rw [ew, if_neg (by omega)] at h
          refine go24 (by omega) (fun v3 => c_ab4_66 (tv := tp ch) hw hN hb kk n4 ⟨c3, by omega, by omega⟩ ht.1.symm ht.2 (fun r => ?_))
          have hh := h r (up1 g 3 (ch + 1)) gc gr ⟨⟨rfl, c4, c5, ?_, ?_, ?_⟩, cs⟩ (fun i q1 q3 q4 q5 q6 q7 q8 => by rw [up1_, if_neg q3]) (fun q => by
            have q : p 84 (4 * b + tp ch % p 83 b) < 0 := q
            omega)
          · have hh2 : Q (some (.inl (if p 84 (4 * b + tp ch % p 83 b) < 0 then -1 else p 84 (4 * b + tp ch % p 83 b)))) sh0 _ := hh
            rw [if_neg (by omega)] at hh2
            exact hh2
          all_goals (try (simp only [tkw]))
          · rw [if_neg (show ¬ p 82 b = 3 by omega), if_neg (fun z => z.1 kk)]
            exact c6
          · rw [if_neg (fun z => absurd z.1 (by omega))]
            exact c7
          · rw [if_neg (fun z => absurd z.1 (by omega))]
            exact c8
        · have ew : wy p tp b ch = tp ch % 2 := by
            unfold wy
            rw [if_pos kk]
          have hq0 := hwr.1 (by omega)
          have hq1 := hwr.2 (by omega)
          have etu : tu p b = 0 ∨ tu p b = 1 := by
            unfold tu
            split
            · exact Or.inr rfl
            · exact Or.inl rfl
          have e0 : tg0 p b = if tu p b = 1 then w1 p b else w0 p b := by
            unfold tg0
            rw [if_pos kk]
          have e1 : tg1 p b = if tu p b = 1 ∨ w1 p b = nx p b then -1 else w1 p b := by
            unfold tg1
            rw [if_neg (by omega), if_pos kk]
          have etn : tu p b = 1 → w0 p b = nx p b := by
            intro q
            unfold tu at q
            split at q
            · next z => exact z.2.2
            · omega
          rw [ew, if_neg (by omega)] at h
          have hpos : 0 ≤ p 84 (4 * b + tp ch % 2) := by
            rcases (show tp ch % 2 = 0 ∨ tp ch % 2 = 1 by omega) with q | q
            · rw [q, ← ew0]; omega
            · rw [q, ← ew1]; omega
          refine go24 (by omega) (fun v3 => c_ab3_66 (tv := tp ch) hw hN hb kk n4 ⟨c3, by omega, by omega⟩ ht.1.symm (by omega) (by omega) (by omega) (fun qj r => ?_) (fun qj qt r => ?_) (fun qj qt r => ?_))
          · have hJ : (if tu p b = 1 then tp ch % 2 = 1 else tp ch % 2 = 0) := by
              split <;> omega
            have eat : tg0 p b = p 84 (4 * b + tp ch % 2) := by
              rw [e0, qj]
              rcases etu with z | z
              · rw [z, if_neg (by omega), ew0]
              · rw [z, if_pos rfl, ew1]
            have hh := h r (up1 (up1 g 3 (ch + 1)) 7 (g 7 + 1)) gc gr ⟨⟨rfl, c4, c5, ?_, ?_, ?_⟩, cs⟩ (fun i q1 q3 q4 q5 q6 q7 q8 => by rw [up1_, if_neg q7, up1_, if_neg q3]) (fun q => by
              have q : p 84 (4 * b + tp ch % 2) < 0 := q
              omega)
            · have hh2 : Q (some (.inl (if p 84 (4 * b + tp ch % 2) < 0 then -1 else p 84 (4 * b + tp ch % 2)))) sh0 _ := hh
              rw [if_neg (by omega), ← eat] at hh2
              exact hh2
            all_goals (try (simp only [tkw]))
            · rw [if_pos kk, if_pos hJ]
              exact c6
            · rw [if_pos ⟨kk, hJ⟩]
              show g 7 + 1 = tj + 1
              omega
            · rw [if_neg (fun z => z.2 hJ)]
              exact c8
          · have hJ : ¬ (if tu p b = 1 then tp ch % 2 = 1 else tp ch % 2 = 0) := by
              split <;> omega
            have eat : tg1 p b = p 84 (4 * b + tp ch % 2) := by
              rw [e1] at qt ⊢
              by_cases z : tu p b = 1 ∨ w1 p b = nx p b
              · rw [if_pos z] at qt
                exact absurd rfl qt
              · rw [if_neg z, show tp ch % 2 = 1 by omega, ew1]
            have hh := h r (up1 (up1 (up1 g 3 (ch + 1)) 8 (g 8 + 1)) 6 (g 6 + 1)) gc gr ⟨⟨rfl, c4, c5, ?_, ?_, ?_⟩, cs⟩ (fun i q1 q3 q4 q5 q6 q7 q8 => by rw [up1_, if_neg q6, up1_, if_neg q8, up1_, if_neg q3]) (fun q => by
              have q : p 84 (4 * b + tp ch % 2) < 0 := q
              omega)
            · have hh2 : Q (some (.inl (if p 84 (4 * b + tp ch % 2) < 0 then -1 else p 84 (4 * b + tp ch % 2)))) sh0 _ := hh
              rw [if_neg (by omega), ← eat] at hh2
              exact hh2
            all_goals (try (simp only [tkw]))
            · rw [if_pos kk, if_neg hJ, if_pos qt]
              show g 6 + 1 = jm + 1
              omega
            · rw [if_neg (fun z => hJ z.2)]
              exact c7
            · rw [if_pos ⟨kk, hJ⟩]
              show g 8 + 1 = ts + 1
              omega
          · have hJ : ¬ (if tu p b = 1 then tp ch % 2 = 1 else tp ch % 2 = 0) := by
              split <;> omega
            have eat : nx p b = p 84 (4 * b + tp ch % 2) := by
              rcases etu with z | z
              · rw [e1] at qt
                by_cases y : tu p b = 1 ∨ w1 p b = nx p b
                · rw [show tp ch % 2 = 1 by omega, ← ew1]
                  omega
                · rw [if_neg y] at qt
                  omega
              · rw [show tp ch % 2 = 0 by omega, ← ew0, etn z]
            have hh := h r (up1 (up1 g 3 (ch + 1)) 8 (g 8 + 1)) gc gr ⟨⟨rfl, c4, c5, ?_, ?_, ?_⟩, cs⟩ (fun i q1 q3 q4 q5 q6 q7 q8 => by rw [up1_, if_neg q8, up1_, if_neg q3]) (fun q => by
              have q : p 84 (4 * b + tp ch % 2) < 0 := q
              omega)
            · have hh2 : Q (some (.inl (if p 84 (4 * b + tp ch % 2) < 0 then -1 else p 84 (4 * b + tp ch % 2)))) sh0 _ := hh
              rw [if_neg (by omega), ← eat] at hh2
              exact hh2
            all_goals (try (simp only [tkw]))
            · rw [if_pos kk, if_neg hJ, if_neg (fun z => z qt)]
              exact c6
            · rw [if_neg (fun z => hJ z.2)]
              exact c7
            · rw [if_pos ⟨kk, hJ⟩]
              show g 8 + 1 = ts + 1
              omega
        · have hq0 := hwr.1 (by omega)
          have hq1 := hwr.2 (by omega)
          rw [if_pos kk] at hg41
          rw [if_neg (by omega)] at h
          have hcN := cN_40 hw
          have bp := pos_b hw (lg := lg) (k := cN p) (Nat.le_refl _)
          have bg := gd_b (p := p) (k := ix p b)
          have hix := ix_lt hw hb
          have htv' : (if g 3 < N 42 1 then N 43 (g 3) % 256 else 0) = tp ch := by rw [c3]; exact ht.1.symm
          by_cases k255 : tp ch = 255
          · have ew : wy p tp b ch = 1 := by
              unfold wy
              rw [if_neg (by omega), if_neg (by omega), if_pos kk, if_pos k255]
            rw [ew] at h
            have hbk := bn_blk hw hN hq1
            have hqa := (ad_b hw (lg := lg) hq1).1
            have e32t := (hN.2.1 _ hq1.1 hq1.2).2.1
            have hcc := hN.1
            have key : ∀ m, 0 ≤ m → m < 4 → N 40 (N 41 b + 4 + m) % 256 = byo (ad p lg (w1 p b)) m := by
              intro m q0 q1
              have := hN.2.2.1.2.2.2.1 (ix p b) (by omega) (by rw [ln_ix hw hb]; exact kk) (4 + m) (by omega) (by omega)
              rw [ln_ix hw hb, if_neg (by omega), show 4 + m - 4 = m by omega] at this
              rw [hg41, show pos p lg (cN p) + 8 * gd p (ix p b) + 4 + m = pos p lg (cN p) + 8 * gd p (ix p b) + (4 + m) by omega, this]
              exact (sg_mod byo_b).1
            have y0 := key 0 (by omega) (by omega)
            have y1 := key 1 (by omega) (by omega)
            have y2 := key 2 (by omega) (by omega)
            have y3 := key 3 (by omega) (by omega)
            rw [show N 41 b + 4 + 0 = N 41 b + 4 by omega] at y0
            have hh := fun r => h r (up1 g 3 (ch + 1)) gc gr ⟨⟨rfl, c4, c5, by simp only [tkw]; rw [if_neg (show ¬ p 82 b = 3 by omega), if_neg (fun z => absurd z.2.1 (by omega))]; exact c6, by simp only [tkw]; rw [if_neg (fun z => absurd z.1 (by omega))]; exact c7, by simp only [tkw]; rw [if_neg (fun z => absurd z.1 (by omega))]; exact c8⟩, cs⟩ (fun i q1 q3 q4 q5 q6 q7 q8 => by rw [up1_, if_neg q3]) (fun q => by
              have q : p 84 (4 * b + 1) < 0 := q
              rw [← ew1] at q
              omega)
            have hh2 : ∀ r, Q (some (.inl (w1 p b))) sh0 (rw_ (rw_ (rw_ (rw_ N 44 r) 66 (up1 g 3 (ch + 1))) 70 gc) 71 gr) := by
              intro r
              have z : Q (some (.inl (if w1 p b < 0 then -1 else w1 p b))) sh0 _ := hh r
              rw [if_neg (by omega)] at z
              exact z
            clear h hh go24 key hN n1 n2 n3 n5
            refine fr_cgo k96 [some (.inr (.inl 44)), some (.inl b), some (.inr (.inl 66)), none, none] 0 0 [] 400 rfl rfl rfl rfl ?_
            repeat' (first | (refine And.intro (by first | omega | (simp (disch := decide) only [up_n, up_s, cp_n, rw_n, rw_s, up1_, if_true, if_false, ite_true, ite_false, reduceIte, eq_self, Int.reduceEq, true_and, and_true, not_true_eq_false, not_false_eq_true]; omega)) ?_) | (refine And.intro (fun hc => ?_) (fun hc => ?_) <;> (try (simp (disch := decide) only [up_n, up_s, cp_n, rw_n, rw_s, up1_, if_true, if_false, ite_true, ite_false, reduceIte, eq_self, Int.reduceEq, true_and, and_true, not_true_eq_false, not_false_eq_true] at hc)) <;> (try (exfalso; omega))) | (refine fun (hc : ¬ _) => ?_; try (simp (disch := decide) only [up_n, up_s, cp_n, rw_n, rw_s, up1_, if_true, if_false, ite_true, ite_false, reduceIte, eq_self, Int.reduceEq, true_and, and_true, not_true_eq_false, not_false_eq_true] at hc)) | (refine fun (hc : _ = _) => ?_; try (simp (disch := decide) only [up_n, up_s, cp_n, rw_n, rw_s, up1_, if_true, if_false, ite_true, ite_false, reduceIte, eq_self, Int.reduceEq, true_and, and_true, not_true_eq_false, not_false_eq_true] at hc)))
            all_goals first | (exfalso; omega) | (exfalso; simp (disch := decide) only [up_n, up_s, cp_n, rw_n, rw_s, up1_, if_true, if_false, ite_true, ite_false, reduceIte, eq_self, Int.reduceEq, true_and, and_true, not_true_eq_false, not_false_eq_true] at *; omega) | skip
            refine c_choose_66 (by simp (disch := decide) only [up_n, up_s, cp_n, rw_n, rw_s, up1_, if_true, if_false, ite_true, ite_false, reduceIte, eq_self, Int.reduceEq, true_and, and_true, not_true_eq_false, not_false_eq_true]; omega) n4 ?_
            simp (disch := decide) only [up_n, up_s, cp_n, rw_n, rw_s, up1_, if_true, if_false, ite_true, ite_false, reduceIte, eq_self, Int.reduceEq, true_and, and_true, not_true_eq_false, not_false_eq_true]
            rw [htv', c3]
            repeat' (first | (refine And.intro (by first | omega | (simp (disch := decide) only [up_n, up_s, cp_n, rw_n, rw_s, up1_, if_true, if_false, ite_true, ite_false, reduceIte, eq_self, Int.reduceEq, true_and, and_true, not_true_eq_false, not_false_eq_true]; omega)) ?_) | (refine And.intro (fun hc => ?_) (fun hc => ?_) <;> (try (simp (disch := decide) only [up_n, up_s, cp_n, rw_n, rw_s, up1_, if_true, if_false, ite_true, ite_false, reduceIte, eq_self, Int.reduceEq, true_and, and_true, not_true_eq_false, not_false_eq_true] at hc)) <;> (try (exfalso; omega))) | (refine fun (hc : ¬ _) => ?_; try (simp (disch := decide) only [up_n, up_s, cp_n, rw_n, rw_s, up1_, if_true, if_false, ite_true, ite_false, reduceIte, eq_self, Int.reduceEq, true_and, and_true, not_true_eq_false, not_false_eq_true] at hc)) | (refine fun (hc : _ = _) => ?_; try (simp (disch := decide) only [up_n, up_s, cp_n, rw_n, rw_s, up1_, if_true, if_false, ite_true, ite_false, reduceIte, eq_self, Int.reduceEq, true_and, and_true, not_true_eq_false, not_false_eq_true] at hc)))
            all_goals first | (exfalso; omega) | skip
            refine c_wordAt (i := N 41 b + 4) (v := ad p lg (w1 p b)) (by omega) (by omega) (by simp (disch := decide) only [up_n, up_s, cp_n, rw_n, rw_s, up1_, if_true, if_false, ite_true, ite_false, reduceIte, eq_self, Int.reduceEq, true_and, and_true, not_true_eq_false, not_false_eq_true]; exact y0) (by simp (disch := decide) only [up_n, up_s, cp_n, rw_n, rw_s, up1_, if_true, if_false, ite_true, ite_false, reduceIte, eq_self, Int.reduceEq, true_and, and_true, not_true_eq_false, not_false_eq_true]; exact y1) (by simp (disch := decide) only [up_n, up_s, cp_n, rw_n, rw_s, up1_, if_true, if_false, ite_true, ite_false, reduceIte, eq_self, Int.reduceEq, true_and, and_true, not_true_eq_false, not_false_eq_true]; exact y2) (by simp (disch := decide) only [up_n, up_s, cp_n, rw_n, rw_s, up1_, if_true, if_false, ite_true, ite_false, reduceIte, eq_self, Int.reduceEq, true_and, and_true, not_true_eq_false, not_false_eq_true]; exact y3) ?_
            repeat' (first | (refine And.intro (by first | omega | (simp (disch := decide) only [up_n, up_s, cp_n, rw_n, rw_s, up1_, if_true, if_false, ite_true, ite_false, reduceIte, eq_self, Int.reduceEq, true_and, and_true, not_true_eq_false, not_false_eq_true]; omega)) ?_) | (refine And.intro (fun hc => ?_) (fun hc => ?_) <;> (try (simp (disch := decide) only [up_n, up_s, cp_n, rw_n, rw_s, up1_, if_true, if_false, ite_true, ite_false, reduceIte, eq_self, Int.reduceEq, true_and, and_true, not_true_eq_false, not_false_eq_true] at hc)) <;> (try (exfalso; omega))) | (refine fun (hc : ¬ _) => ?_; try (simp (disch := decide) only [up_n, up_s, cp_n, rw_n, rw_s, up1_, if_true, if_false, ite_true, ite_false, reduceIte, eq_self, Int.reduceEq, true_and, and_true, not_true_eq_false, not_false_eq_true] at hc)) | (refine fun (hc : _ = _) => ?_; try (simp (disch := decide) only [up_n, up_s, cp_n, rw_n, rw_s, up1_, if_true, if_false, ite_true, ite_false, reduceIte, eq_self, Int.reduceEq, true_and, and_true, not_true_eq_false, not_false_eq_true] at hc)))
            refine c_blockAt (b := w1 p b) (a := ad p lg (w1 p b)) (by simp (disch := decide) only [up_n, up_s, cp_n, rw_n, rw_s, up1_, if_true, if_false, ite_true, ite_false, reduceIte, eq_self, Int.reduceEq, true_and, and_true, not_true_eq_false, not_false_eq_true]; omega) hbk.2 hbk.1 e32t ?_
            repeat' (first | (refine And.intro (by first | omega | (simp (disch := decide) only [up_n, up_s, cp_n, rw_n, rw_s, up1_, if_true, if_false, ite_true, ite_false, reduceIte, eq_self, Int.reduceEq, true_and, and_true, not_true_eq_false, not_false_eq_true]; omega)) ?_) | (refine And.intro (fun hc => ?_) (fun hc => ?_) <;> (try (simp (disch := decide) only [up_n, up_s, cp_n, rw_n, rw_s, up1_, if_true, if_false, ite_true, ite_false, reduceIte, eq_self, Int.reduceEq, true_and, and_true, not_true_eq_false, not_false_eq_true] at hc)) <;> (try (exfalso; omega))) | (refine fun (hc : ¬ _) => ?_; try (simp (disch := decide) only [up_n, up_s, cp_n, rw_n, rw_s, up1_, if_true, if_false, ite_true, ite_false, reduceIte, eq_self, Int.reduceEq, true_and, and_true, not_true_eq_false, not_false_eq_true] at hc)) | (refine fun (hc : _ = _) => ?_; try (simp (disch := decide) only [up_n, up_s, cp_n, rw_n, rw_s, up1_, if_true, if_false, ite_true, ite_false, reduceIte, eq_self, Int.reduceEq, true_and, and_true, not_true_eq_false, not_false_eq_true] at hc)))
            show Q (some (.inl _)) sh0 _
            try (simp (disch := decide) only [up_n, up_s, cp_n, rw_n, rw_s, up1_, if_true, if_false, ite_true, ite_false, reduceIte, eq_self, Int.reduceEq, true_and, and_true, not_true_eq_false, not_false_eq_true])
            simp (disch := decide) only [up_rw, rw_u, up_up, rw_rw, rw_cm]
            exact hh2 _
          · have ew : wy p tp b ch = 0 := by
              unfold wy
              rw [if_neg (by omega), if_neg (by omega), if_pos kk, if_neg k255]
            rw [ew] at h
            have h24 : ∀ v3, fr_Run 96 none 24 [some (.inr (.inl 44)), some (.inl b), some (.inr (.inl 66)), some (.inl v3), none] [] sh0 (rw_ (rw_ (rw_ (rw_ N 44 r44) 66 (up1 g 3 (ch + 1))) 70 gc) 71 gr) 0 0 Q := by
              intro v3
              refine c_ab_go_66 hw hN hb (Or.inr kk) (by simp (disch := decide) only [up_n, up_s, cp_n, rw_n, rw_s, up1_, if_true, if_false, ite_true, ite_false, reduceIte, eq_self, Int.reduceEq, true_and, and_true, not_true_eq_false, not_false_eq_true]; omega) (fun r => ?_)
              have hh := h r (if tg1 p b ≠ -1 then up1 (up1 g 3 (ch + 1)) 6 (g 6 + 1) else up1 g 3 (ch + 1)) gc gr ⟨⟨?_, ?_, ?_, ?_, ?_, ?_⟩, cs⟩ (fun i q1 q3 q4 q5 q6 q7 q8 => ?_) (fun q => by
                have q : p 84 (4 * b + 0) < 0 := q
                omega)
              · have hh2 : Q (some (.inl (if p 84 (4 * b + 0) < 0 then -1 else p 84 (4 * b + 0)))) sh0 _ := hh
                rw [if_neg (by omega)] at hh2
                exact hh2
              · split <;> rfl
              · split <;> exact c4
              · split <;> exact c5
              · rw [tkw_jm (by omega) (by omega)]
                by_cases q : tg1 p b ≠ -1
                · rw [if_pos q, if_pos q]
                  show g 6 + 1 = jm + 1
                  omega
                · rw [if_neg q, if_neg q]
                  exact c6
              · rw [tkw_tj (by omega)]
                split <;> exact c7
              · rw [tkw_ts (by omega)]
                split <;> exact c8
              · split
                · rw [up1_, if_neg q6, up1_, if_neg q3]
                · rw [up1_, if_neg q3]
            clear h go24 hN n1 n2 n3 n5
            refine fr_cgo k96 [some (.inr (.inl 44)), some (.inl b), some (.inr (.inl 66)), none, none] 0 0 [24] 400 rfl rfl rfl rfl ?_
            repeat' (first | (refine And.intro (by first | omega | (simp (disch := decide) only [up_n, up_s, cp_n, rw_n, rw_s, up1_, if_true, if_false, ite_true, ite_false, reduceIte, eq_self, Int.reduceEq, true_and, and_true, not_true_eq_false, not_false_eq_true]; omega)) ?_) | (refine And.intro (fun hc => ?_) (fun hc => ?_) <;> (try (simp (disch := decide) only [up_n, up_s, cp_n, rw_n, rw_s, up1_, if_true, if_false, ite_true, ite_false, reduceIte, eq_self, Int.reduceEq, true_and, and_true, not_true_eq_false, not_false_eq_true] at hc)) <;> (try (exfalso; omega))) | (refine fun (hc : ¬ _) => ?_; try (simp (disch := decide) only [up_n, up_s, cp_n, rw_n, rw_s, up1_, if_true, if_false, ite_true, ite_false, reduceIte, eq_self, Int.reduceEq, true_and, and_true, not_true_eq_false, not_false_eq_true] at hc)) | (refine fun (hc : _ = _) => ?_; try (simp (disch := decide) only [up_n, up_s, cp_n, rw_n, rw_s, up1_, if_true, if_false, ite_true, ite_false, reduceIte, eq_self, Int.reduceEq, true_and, and_true, not_true_eq_false, not_false_eq_true] at hc)))
            all_goals first | (exfalso; omega) | (exfalso; simp (disch := decide) only [up_n, up_s, cp_n, rw_n, rw_s, up1_, if_true, if_false, ite_true, ite_false, reduceIte, eq_self, Int.reduceEq, true_and, and_true, not_true_eq_false, not_false_eq_true] at *; omega) | skip
            refine c_choose_66 (by simp (disch := decide) only [up_n, up_s, cp_n, rw_n, rw_s, up1_, if_true, if_false, ite_true, ite_false, reduceIte, eq_self, Int.reduceEq, true_and, and_true, not_true_eq_false, not_false_eq_true]; omega) n4 ?_
            simp (disch := decide) only [up_n, up_s, cp_n, rw_n, rw_s, up1_, if_true, if_false, ite_true, ite_false, reduceIte, eq_self, Int.reduceEq, true_and, and_true, not_true_eq_false, not_false_eq_true]
            rw [htv', c3]
            simp (disch := decide) only [up_rw, rw_u, up_up, rw_rw, rw_cm]
            repeat' (first | (refine And.intro (by first | omega | (simp (disch := decide) only [up_n, up_s, cp_n, rw_n, rw_s, up1_, if_true, if_false, ite_true, ite_false, reduceIte, eq_self, Int.reduceEq, true_and, and_true, not_true_eq_false, not_false_eq_true]; omega)) ?_) | (refine And.intro (fun hc => ?_) (fun hc => ?_) <;> (try (simp (disch := decide) only [up_n, up_s, cp_n, rw_n, rw_s, up1_, if_true, if_false, ite_true, ite_false, reduceIte, eq_self, Int.reduceEq, true_and, and_true, not_true_eq_false, not_false_eq_true] at hc)) <;> (try (exfalso; omega))) | (refine fun (hc : ¬ _) => ?_; try (simp (disch := decide) only [up_n, up_s, cp_n, rw_n, rw_s, up1_, if_true, if_false, ite_true, ite_false, reduceIte, eq_self, Int.reduceEq, true_and, and_true, not_true_eq_false, not_false_eq_true] at hc)) | (refine fun (hc : _ = _) => ?_; try (simp (disch := decide) only [up_n, up_s, cp_n, rw_n, rw_s, up1_, if_true, if_false, ite_true, ite_false, reduceIte, eq_self, Int.reduceEq, true_and, and_true, not_true_eq_false, not_false_eq_true] at hc)))
            all_goals first | (exfalso; omega) | exact h24 _
