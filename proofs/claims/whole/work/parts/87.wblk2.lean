theorem jb_d {p : fr_M} (hw : WF p) {lg : Int → Int} {s : Int} (h : 0 ≤ s ∧ s < 2 * p 75 4) (ht : tg p s ≠ -1) : -20000 ≤ ad p lg (tg p s) - jb p lg s ∧ ad p lg (tg p s) - jb p lg s ≤ 20000 := by
  have a := (ad_b hw (lg := lg) ((tg_rng hw h).resolve_left ht)).1
  have b := jb_b hw (lg := lg) h
  omega
theorem s0_e {p : fr_M} {lg : Int → Int} {b : Int} : s0 p lg b = if tg0 p b = -1 then 0 else if lg (2 * b) = 1 then 6 else 2 := rfl
theorem s1_e {p : fr_M} {lg : Int → Int} {b : Int} : s1 p lg b = if tg1 p b = -1 then 0 else if lg (2 * b + 1) = 1 then 5 else 2 := rfl
theorem eb_j {p : fr_M} {lg : Int → Int} {b m : Int} (h0 : p 82 b ≠ 0) (h1 : p 82 b ≠ 1) (h4 : p 82 b ≠ 4) (h5 : p 82 b = 5 → 5 ≤ m) (hm : jb0 p lg b - ea p lg b ≤ m) : eb p lg b m = if ea p lg b + m = jb0 p lg b then (if lg (2 * b + 1) = 1 then 233 else 235) else byo (ad p lg (tg1 p b) - jb1 p lg b) (ea p lg b + m - jb0 p lg b - 1) := by
  unfold eb
  rw [if_neg h0, if_neg h1, if_neg h4, if_neg (fun q => by have := h5 q.1; omega), if_neg (fun q => by omega)]
theorem eb_t {p : fr_M} {lg : Int → Int} {b m : Int} (hk : p 82 b = 3) (ht : tg0 p b ≠ -1) (hm : ea p lg b + m < jb0 p lg b) : eb p lg b m = if lg (2 * b) = 1 then (if m = 0 then 15 else if m = 1 then 128 + tu p b else byo (ad p lg (tg0 p b) - jb0 p lg b) (m - 2)) else (if m = 0 then 112 + tu p b else byo (ad p lg (tg0 p b) - jb0 p lg b) (m - 1)) := by
  unfold eb
  rw [if_neg (by omega), if_neg (by omega), if_neg (by omega), if_neg (by omega), if_pos ⟨ht, hm⟩]
set_option maxHeartbeats 4000000 in
set_option maxRecDepth 100000 in
theorem c_wend {N p : fr_M} {lg : Int → Int} {b : Int} {g2 : Int → Int} {Q : Option fr_V → fr_H → fr_M → Prop} (hw : WF p) (hb : 0 ≤ b ∧ b < p 75 4) (hN : WN p lg N) (h : ∀ g', (∀ m, 0 ≤ m → m < be p lg b - ea p lg b → g' (ea p lg b + m) = sg (eb p lg b m)) → (∀ j, j < ea p lg b ∨ be p lg b ≤ j → g' j = g2 j) → Q none sh0 (rw_ (fr_up N 39 5 (be p lg b)) 40 g')) : fr_Run 69 none 15 [some (.inr (.inl 39)), some (.inl b)] [] sh0 (rw_ (fr_up N 39 5 (ea p lg b)) 40 g2) 0 0 Q := by
  have h40 := hw.1.1
  obtain ⟨n1, n2, n3, n4⟩ := hN
  obtain ⟨e32, e37, e6, e7, e8⟩ := n1 b hb.1 hb.2
  have hab := ad_b hw (lg := lg) hb
  obtain ⟨w1', w2', w3', w4', w5', w6', w7', w8'⟩ := hw.2.2.2.2.2.1 b hb.1 hb.2
  have hbe : be p lg b = ed p lg b (ea p lg b) := rfl
  have hed : ed p lg b (ea p lg b) = if p 82 b ≤ 1 then ea p lg b + 1 else if p 82 b = 4 then (ea p lg b + 5) / 4 * 4 + 4 * p 83 b else ea p lg b + c5 p b + s0 p lg b + s1 p lg b := rfl
  rw [hed] at hbe
  clear hed
  have sl0 := n2 (2 * b) (by omega) (by omega)
  have sl1 := n2 (2 * b + 1) (by omega) (by omega)
  have tr0 := tg0_rng hw hb
  have tr1 := tg1_rng hw hb
  have dd0 : tg0 p b ≠ -1 → N 32 (N 34 (2 * b)) - N 35 (2 * b) = ad p lg (tg0 p b) - jb0 p lg b := by
    intro q
    rw [tg_even, jb_even] at sl0
    rw [sl0.1, sl0.2.2.2 q, (n1 _ (tr0.resolve_left q).1 (tr0.resolve_left q).2).1]
  have dd1 : tg1 p b ≠ -1 → N 32 (N 34 (2 * b + 1)) - N 35 (2 * b + 1) = ad p lg (tg1 p b) - jb1 p lg b := by
    intro q
    rw [tg_odd, jb_odd] at sl1
    rw [sl1.1, sl1.2.2.2 q, (n1 _ (tr1.resolve_left q).1 (tr1.resolve_left q).2).1]
  have di0 : tg0 p b ≠ -1 → -20000 ≤ ad p lg (tg0 p b) - jb0 p lg b ∧ ad p lg (tg0 p b) - jb0 p lg b ≤ 20000 := by
    intro q
    have := jb_d hw (lg := lg) (s := 2 * b) (by omega) (by rw [tg_even]; exact q)
    rw [tg_even, jb_even] at this
    exact this
  have di1 : tg1 p b ≠ -1 → -20000 ≤ ad p lg (tg1 p b) - jb1 p lg b ∧ ad p lg (tg1 p b) - jb1 p lg b ≤ 20000 := by
    intro q
    have := jb_d hw (lg := lg) (s := 2 * b + 1) (by omega) (by rw [tg_odd]; exact q)
    rw [tg_odd, jb_odd] at this
    exact this
  rw [tg_even] at sl0
  rw [tg_odd] at sl1
  have hj0 : jb0 p lg b = ea p lg b + c5 p b + s0 p lg b := rfl
  have hj1 : jb1 p lg b = ea p lg b + c5 p b + s0 p lg b + s1 p lg b := rfl
  have z1 := s1_b (p := p) (lg := lg) (b := b)
  have z0 := s0_b (p := p) (lg := lg) (b := b)
  have hz1 := s1_e (p := p) (lg := lg) (b := b)
  have hz0 := s0_e (p := p) (lg := lg) (b := b)
  have zc : (c5 p b = 0 ∨ c5 p b = 5) ∧ (p 82 b = 5 → c5 p b = 5) ∧ (p 82 b ≠ 5 → c5 p b = 0) := by
    unfold c5
    split <;> omega
  have hjump : ∀ (g3 : Int → Int), ¬ p 82 b ≤ 1 → p 82 b ≠ 4 → (∀ m, 0 ≤ m → m < jb0 p lg b - ea p lg b → g3 (ea p lg b + m) = sg (eb p lg b m)) → (∀ j, j < ea p lg b ∨ jb0 p lg b ≤ j → g3 j = g2 j) → (∀ m, 0 ≤ m → jb0 p lg b - ea p lg b ≤ m → m < be p lg b - ea p lg b → eb p lg b m = if ea p lg b + m = jb0 p lg b then (if lg (2 * b + 1) = 1 then 233 else 235) else byo (ad p lg (tg1 p b) - jb1 p lg b) (ea p lg b + m - jb0 p lg b - 1)) → fr_Call 67 [.inr (.inl 39), .inl (2 * b + 1)] sh0 (rw_ (fr_up N 39 5 (jb0 p lg b)) 40 g3) (fun r sh M => r = none ∧ sh = sh0 ∧ Q none sh0 M) := by
    intro g3 k1 k4 a1 a2 a3
    rw [if_neg k1, if_neg k4] at hbe
    refine c_wjump (z := lg (2 * b + 1)) (d := if tg1 p b = -1 then 0 else ad p lg (tg1 p b) - jb1 p lg b) (by omega) (by omega) ⟨sl1.2.1, sl1.2.2.1⟩ (by rw [sl1.1]; omega) ?_ ?_ (fun q => ?_) (fun q => ?_)
    · intro q
      rw [sl1.1] at q
      rw [if_neg q]
      exact dd1 q
    · by_cases q : tg1 p b = -1
      · rw [if_pos q]; omega
      · rw [if_neg q]
        exact di1 q
    · rw [sl1.1] at q
      rw [if_pos q] at hz1
      refine ⟨rfl, rfl, ?_⟩
      have eb0 : jb0 p lg b = be p lg b := by omega
      have hh := h g3 (by rw [← eb0]; exact a1) (by rw [← eb0]; exact a2)
      rw [← eb0] at hh
      exact hh
    · rw [sl1.1] at q
      rw [if_neg q] at hz1 ⊢
      refine ⟨rfl, rfl, ?_⟩
      have eb1 : (jb0 p lg b + if lg (2 * b + 1) = 1 then 5 else 2) = be p lg b := by
        rw [hbe, ← hz1]
        omega
      rw [eb1]
      refine h _ (fun m y0 y1 => ?_) (fun j y => ?_)
      · by_cases e : m < jb0 p lg b - ea p lg b
        · rw [jwr_n (by omega)]
          exact a1 m y0 e
        · have := jwr_at (g := g3) (a := jb0 p lg b) (z := lg (2 * b + 1)) (d := ad p lg (tg1 p b) - jb1 p lg b) (m := ea p lg b + m - jb0 p lg b) (by omega)
          rw [show jb0 p lg b + (ea p lg b + m - jb0 p lg b) = ea p lg b + m by omega] at this
          rw [this, a3 m y0 (by omega) y1]
          congr 1
          by_cases e2 : ea p lg b + m = jb0 p lg b
          · rw [if_pos (by omega), if_pos e2]
          · rw [if_neg (by omega), if_neg e2]
      · rw [jwr_n (by omega)]
        exact a2 j (by omega)
  rcases (show p 82 b = 0 ∨ p 82 b = 1 ∨ p 82 b = 4 ∨ p 82 b = 5 ∨ p 82 b = 3 ∨ (p 82 b = 2 ∨ p 82 b = 6) by omega) with hk | hk | hk | hk | hk | hk
  · rw [if_pos (by omega)] at hbe
    have hh := h (up1 g2 (ea p lg b) (sg 195)) (fun m y0 y1 => by
      rw [up1_, if_pos (by omega)]
      unfold eb
      rw [if_pos hk]) (fun j y => by rw [up1_, if_neg (by omega)])
    rw [hbe] at hh
    clear h hjump n1 n2 n3 n4
    refine fr_go k69 [] 400 rfl ?_
    repeat' (first | (refine And.intro (by first | omega | (simp (disch := decide) only [up_n, up_s, cp_n, rw_n, rw_s, up1_, if_true, if_false, ite_true, ite_false, reduceIte, eq_self, Int.reduceEq, true_and, and_true, not_true_eq_false, not_false_eq_true]; omega)) ?_) | (refine c_bput (by omega) (by omega) ?_) | (refine And.intro (fun hc => ?_) (fun hc => ?_) <;> (try (simp (disch := decide) only [up_n, up_s, cp_n, rw_n, rw_s, up1_, if_true, if_false, ite_true, ite_false, reduceIte, eq_self, Int.reduceEq, true_and, and_true, not_true_eq_false, not_false_eq_true] at hc)) <;> (try (exfalso; omega))) | (refine fun (hc : ¬ _) => ?_; try (simp (disch := decide) only [up_n, up_s, cp_n, rw_n, rw_s, up1_, if_true, if_false, ite_true, ite_false, reduceIte, eq_self, Int.reduceEq, true_and, and_true, not_true_eq_false, not_false_eq_true] at hc)) | (refine fun (hc : _ = _) => ?_; try (simp (disch := decide) only [up_n, up_s, cp_n, rw_n, rw_s, up1_, if_true, if_false, ite_true, ite_false, reduceIte, eq_self, Int.reduceEq, true_and, and_true, not_true_eq_false, not_false_eq_true] at hc)))
    all_goals first | (exfalso; omega) | (exfalso; simp (disch := decide) only [up_n, up_s, cp_n, rw_n, rw_s, up1_, if_true, if_false, ite_true, ite_false, reduceIte, eq_self, Int.reduceEq, true_and, and_true, not_true_eq_false, not_false_eq_true] at *; omega) | exact hh
  · rw [if_pos (by omega)] at hbe
    have hh := h (up1 g2 (ea p lg b) (sg 204)) (fun m y0 y1 => by
      rw [up1_, if_pos (by omega)]
      unfold eb
      rw [if_neg (by omega), if_pos hk]) (fun j y => by rw [up1_, if_neg (by omega)])
    rw [hbe] at hh
    clear h hjump n1 n2 n3 n4
    refine fr_go k69 [] 400 rfl ?_
    repeat' (first | (refine And.intro (by first | omega | (simp (disch := decide) only [up_n, up_s, cp_n, rw_n, rw_s, up1_, if_true, if_false, ite_true, ite_false, reduceIte, eq_self, Int.reduceEq, true_and, and_true, not_true_eq_false, not_false_eq_true]; omega)) ?_) | (refine c_bput (by omega) (by omega) ?_) | (refine And.intro (fun hc => ?_) (fun hc => ?_) <;> (try (simp (disch := decide) only [up_n, up_s, cp_n, rw_n, rw_s, up1_, if_true, if_false, ite_true, ite_false, reduceIte, eq_self, Int.reduceEq, true_and, and_true, not_true_eq_false, not_false_eq_true] at hc)) <;> (try (exfalso; omega))) | (refine fun (hc : ¬ _) => ?_; try (simp (disch := decide) only [up_n, up_s, cp_n, rw_n, rw_s, up1_, if_true, if_false, ite_true, ite_false, reduceIte, eq_self, Int.reduceEq, true_and, and_true, not_true_eq_false, not_false_eq_true] at hc)) | (refine fun (hc : _ = _) => ?_; try (simp (disch := decide) only [up_n, up_s, cp_n, rw_n, rw_s, up1_, if_true, if_false, ite_true, ite_false, reduceIte, eq_self, Int.reduceEq, true_and, and_true, not_true_eq_false, not_false_eq_true] at hc)))
    all_goals first | (exfalso; omega) | (exfalso; simp (disch := decide) only [up_n, up_s, cp_n, rw_n, rw_s, up1_, if_true, if_false, ite_true, ite_false, reduceIte, eq_self, Int.reduceEq, true_and, and_true, not_true_eq_false, not_false_eq_true] at *; omega) | exact hh
  · rw [if_neg (by omega), if_pos hk] at hbe
    have hww : ∀ w, 0 ≤ w → w < p 83 b → N 11 (b * 4 + w) = p 84 (4 * b + w) ∧ (0 ≤ p 84 (4 * b + w) ∧ p 84 (4 * b + w) < 40) ∧ N 32 (p 84 (4 * b + w)) = ad p lg (p 84 (4 * b + w)) ∧ 0 ≤ ad p lg (p 84 (4 * b + w)) ∧ ad p lg (p 84 (4 * b + w)) ≤ 10000 := by
      intro w y0 y1
      have q := hw.2.2.2.2.2.2 b w hb.1 hb.2 y0 y1
      have q2 := (ad_b hw (lg := lg) q).1
      exact ⟨n3 b w hb.1 hb.2 y0 y1, by omega, (n1 _ q.1 q.2).1, by omega, by omega⟩
    have hcont : ∀ g', TW p lg b (ea p lg b) ((ea p lg b + 5) / 4 * 4) g2 (p 83 b) g' → Q none sh0 (rw_ (fr_up N 39 5 ((ea p lg b + 5) / 4 * 4 + 4 * p 83 b)) 40 g') := by
      rintro g' ⟨a1, a2, a3, a4, a5⟩
      rw [← hbe]
      refine h g' (fun m y0 y1 => ?_) (fun j y => a1 j (by omega))
      unfold eb
      rw [if_neg (by omega), if_neg (by omega), if_pos hk]
      by_cases m0 : m = 0
      · rw [if_pos m0, m0, show ea p lg b + 0 = ea p lg b by omega]
        exact a2
      · rw [if_neg m0]
        by_cases m1 : m = 1
        · rw [if_pos m1, m1]
          exact a3
        · rw [if_neg m1, show be p lg b - 4 * p 83 b - ea p lg b = (ea p lg b + 5) / 4 * 4 - ea p lg b by omega]
          by_cases m2 : m < (ea p lg b + 5) / 4 * 4 - ea p lg b
          · rw [if_pos m2]
            exact a4 _ (by omega) (by omega)
          · rw [if_neg m2]
            have := a5 ((m - ((ea p lg b + 5) / 4 * 4 - ea p lg b)) / 4) ((m - ((ea p lg b + 5) / 4 * 4 - ea p lg b)) % 4) (by omega) (by omega) (by omega) (by omega)
            rw [show (ea p lg b + 5) / 4 * 4 + 4 * ((m - ((ea p lg b + 5) / 4 * 4 - ea p lg b)) / 4) + (m - ((ea p lg b + 5) / 4 * 4 - ea p lg b)) % 4 = ea p lg b + m by omega] at this
            exact this
    clear h hjump n1 n2 n3 n4
    refine fr_go k69 [] 400 rfl ?_
    repeat' (first | (refine And.intro (by first | omega | (simp (disch := decide) only [up_n, up_s, cp_n, rw_n, rw_s, up1_, if_true, if_false, ite_true, ite_false, reduceIte, eq_self, Int.reduceEq, true_and, and_true, not_true_eq_false, not_false_eq_true]; omega)) ?_) | (refine c_wtable (p := p) (lg := lg) (n := p 83 b) (by omega) (by omega) (by omega) hww (fun g' hg' => ?_)) | (refine And.intro (fun hc => ?_) (fun hc => ?_) <;> (try (simp (disch := decide) only [up_n, up_s, cp_n, rw_n, rw_s, up1_, if_true, if_false, ite_true, ite_false, reduceIte, eq_self, Int.reduceEq, true_and, and_true, not_true_eq_false, not_false_eq_true] at hc)) <;> (try (exfalso; omega))) | (refine fun (hc : ¬ _) => ?_; try (simp (disch := decide) only [up_n, up_s, cp_n, rw_n, rw_s, up1_, if_true, if_false, ite_true, ite_false, reduceIte, eq_self, Int.reduceEq, true_and, and_true, not_true_eq_false, not_false_eq_true] at hc)) | (refine fun (hc : _ = _) => ?_; try (simp (disch := decide) only [up_n, up_s, cp_n, rw_n, rw_s, up1_, if_true, if_false, ite_true, ite_false, reduceIte, eq_self, Int.reduceEq, true_and, and_true, not_true_eq_false, not_false_eq_true] at hc)))
    all_goals first | (exfalso; omega) | (exfalso; simp (disch := decide) only [up_n, up_s, cp_n, rw_n, rw_s, up1_, if_true, if_false, ite_true, ite_false, reduceIte, eq_self, Int.reduceEq, true_and, and_true, not_true_eq_false, not_false_eq_true] at *; omega) | exact hcont g' hg'
  · have es0 := z0.2 (by omega)
    have ec5 := zc.2.1 hk
    have hcal := w8' hk
    have had := (ad_b hw (lg := lg) ⟨hcal.2.2.1, hcal.2.2.2⟩).1
    have e9 := n4 b hb.1 hb.2 hk
    have e32c := (n1 _ hcal.2.2.1 hcal.2.2.2).1
    have e3' : N 3 (N 9 b * 9 + 0) = p 77 (9 * p 86 b) := by rw [e9.1]; exact e9.2
    have e32' : N 32 (N 3 (N 9 b * 9 + 0)) = ad p lg (p 77 (9 * p 86 b)) := by rw [e3']; exact e32c
    have hj := hjump (wr (up1 g2 (ea p lg b) (sg 232)) (ea p lg b + 1) (ad p lg (p 77 (9 * p 86 b)) - ea p lg b - 5)) (by omega) (by omega) (fun m y0 y1 => by
      unfold eb
      rw [if_neg (by omega), if_neg (by omega), if_neg (by omega), if_pos ⟨hk, by omega⟩]
      by_cases m0 : m = 0
      · rw [if_pos m0, wr_n (by omega), up1_, if_pos (by omega)]
      · rw [if_neg m0]
        have := wr_at (g := up1 g2 (ea p lg b) (sg 232)) (a := ea p lg b + 1) (v := ad p lg (p 77 (9 * p 86 b)) - ea p lg b - 5) (m := m - 1) (by omega)
        rw [show ea p lg b + 1 + (m - 1) = ea p lg b + m by omega] at this
        exact this) (fun j y => by rw [wr_n (by omega), up1_, if_neg (by omega)]) (fun m y0 y1 y2 => eb_j (by omega) (by omega) (by omega) (fun _ => by omega) y1)
    rw [show jb0 p lg b = ea p lg b + 1 + 4 by omega] at hj
    clear h hjump n1 n2 n3 n4
    refine fr_go k69 [] 400 rfl ?_
    repeat' (first | (refine And.intro (by first | omega | (simp (disch := decide) only [up_n, up_s, cp_n, rw_n, rw_s, up1_, if_true, if_false, ite_true, ite_false, reduceIte, eq_self, Int.reduceEq, true_and, and_true, not_true_eq_false, not_false_eq_true]; omega)) ?_) | (refine c_bput (by omega) (by omega) ?_) | (refine c_ownBlock (by simp (disch := decide) only [up_n, up_s, cp_n, rw_n, rw_s, up1_, if_true, if_false, ite_true, ite_false, reduceIte, eq_self, Int.reduceEq, true_and, and_true, not_true_eq_false, not_false_eq_true]; omega) (by omega) ?_) | (refine And.intro (fun hc => ?_) (fun hc => ?_) <;> (try (simp (disch := decide) only [up_n, up_s, cp_n, rw_n, rw_s, up1_, if_true, if_false, ite_true, ite_false, reduceIte, eq_self, Int.reduceEq, true_and, and_true, not_true_eq_false, not_false_eq_true] at hc)) <;> (try (exfalso; omega))) | (refine fun (hc : ¬ _) => ?_; try (simp (disch := decide) only [up_n, up_s, cp_n, rw_n, rw_s, up1_, if_true, if_false, ite_true, ite_false, reduceIte, eq_self, Int.reduceEq, true_and, and_true, not_true_eq_false, not_false_eq_true] at hc)) | (refine fun (hc : _ = _) => ?_; try (simp (disch := decide) only [up_n, up_s, cp_n, rw_n, rw_s, up1_, if_true, if_false, ite_true, ite_false, reduceIte, eq_self, Int.reduceEq, true_and, and_true, not_true_eq_false, not_false_eq_true] at hc)))
    all_goals first | (exfalso; omega) | (exfalso; simp (disch := decide) only [up_n, up_s, cp_n, rw_n, rw_s, up1_, if_true, if_false, ite_true, ite_false, reduceIte, eq_self, Int.reduceEq, true_and, and_true, not_true_eq_false, not_false_eq_true] at *; omega) | skip
    · show fr_Call 65 [.inr (.inl 39), .inl _] sh0 _ _
      simp (disch := decide) only [up_n, up_s, cp_n, rw_n, rw_s, up1_, if_true, if_false, ite_true, ite_false, reduceIte, eq_self, Int.reduceEq, true_and, and_true, not_true_eq_false, not_false_eq_true]
      rw [e32', show ad p lg (p 77 (9 * p 86 b)) - (ea p lg b + 1 + 4) = ad p lg (p 77 (9 * p 86 b)) - ea p lg b - 5 by omega]
      refine c_word (by omega) (by omega) ?_
      repeat' (first | (refine And.intro (by first | omega | (simp (disch := decide) only [up_n, up_s, cp_n, rw_n, rw_s, up1_, if_true, if_false, ite_true, ite_false, reduceIte, eq_self, Int.reduceEq, true_and, and_true, not_true_eq_false, not_false_eq_true]; omega)) ?_) | (refine And.intro (fun hc => ?_) (fun hc => ?_) <;> (try (simp (disch := decide) only [up_n, up_s, cp_n, rw_n, rw_s, up1_, if_true, if_false, ite_true, ite_false, reduceIte, eq_self, Int.reduceEq, true_and, and_true, not_true_eq_false, not_false_eq_true] at hc)) <;> (try (exfalso; omega))) | (refine fun (hc : ¬ _) => ?_; try (simp (disch := decide) only [up_n, up_s, cp_n, rw_n, rw_s, up1_, if_true, if_false, ite_true, ite_false, reduceIte, eq_self, Int.reduceEq, true_and, and_true, not_true_eq_false, not_false_eq_true] at hc)) | (refine fun (hc : _ = _) => ?_; try (simp (disch := decide) only [up_n, up_s, cp_n, rw_n, rw_s, up1_, if_true, if_false, ite_true, ite_false, reduceIte, eq_self, Int.reduceEq, true_and, and_true, not_true_eq_false, not_false_eq_true] at hc)))
      refine fr_Call.mono hj ?_
      rintro r sh M ⟨rfl, rfl, hq⟩
      exact hq
  · have etu : tu p b = 0 ∨ tu p b = 1 := by
      unfold tu
      split
      · exact Or.inr rfl
      · exact Or.inl rfl
    have ec5 := zc.2.2 (by omega)
    have ht0 : tg0 p b ≠ -1 := by
      have := w_rng hw hb
      unfold tg0
      rw [if_pos hk]
      split <;> omega
    rw [if_neg ht0] at hz0
    have hj := hjump (twr g2 (ea p lg b) (lg (2 * b)) (tu p b) (ad p lg (tg0 p b) - jb0 p lg b)) (by omega) (by omega) (fun m y0 y1 => by
      rw [twr_at ⟨y0, by omega⟩, eb_t hk ht0 (by omega)]) (fun j y => twr_n (by omega)) (fun m y0 y1 y2 => eb_j (by omega) (by omega) (by omega) (fun _ => by omega) y1)
    rw [show jb0 p lg b = ea p lg b + (if lg (2 * b) = 1 then 6 else 2) by omega] at hj
    have dd0 := dd0 ht0
    have di0 := di0 ht0
    rw [show jb0 p lg b = ea p lg b + (if lg (2 * b) = 1 then 6 else 2) by omega] at dd0 di0
    clear h hjump n1 n2 n3 n4
    refine fr_go k69 [] 400 rfl ?_
    repeat' (first | (refine And.intro (by first | omega | (simp (disch := decide) only [up_n, up_s, cp_n, rw_n, rw_s, up1_, if_true, if_false, ite_true, ite_false, reduceIte, eq_self, Int.reduceEq, true_and, and_true, not_true_eq_false, not_false_eq_true]; omega)) ?_) | (refine c_wtest (z := lg (2 * b)) (u := tu p b) (by omega) (by omega) ⟨sl0.2.1, sl0.2.2.1⟩ ⟨e37, etu⟩ (by rw [sl0.1]; omega) (fun _ => dd0) di0 (fun q => absurd q (by rw [sl0.1]; exact ht0)) (fun _ => ?_)) | (refine And.intro (fun hc => ?_) (fun hc => ?_) <;> (try (simp (disch := decide) only [up_n, up_s, cp_n, rw_n, rw_s, up1_, if_true, if_false, ite_true, ite_false, reduceIte, eq_self, Int.reduceEq, true_and, and_true, not_true_eq_false, not_false_eq_true] at hc)) <;> (try (exfalso; omega))) | (refine fun (hc : ¬ _) => ?_; try (simp (disch := decide) only [up_n, up_s, cp_n, rw_n, rw_s, up1_, if_true, if_false, ite_true, ite_false, reduceIte, eq_self, Int.reduceEq, true_and, and_true, not_true_eq_false, not_false_eq_true] at hc)) | (refine fun (hc : _ = _) => ?_; try (simp (disch := decide) only [up_n, up_s, cp_n, rw_n, rw_s, up1_, if_true, if_false, ite_true, ite_false, reduceIte, eq_self, Int.reduceEq, true_and, and_true, not_true_eq_false, not_false_eq_true] at hc)))
    all_goals first | (exfalso; omega) | (exfalso; simp (disch := decide) only [up_n, up_s, cp_n, rw_n, rw_s, up1_, if_true, if_false, ite_true, ite_false, reduceIte, eq_self, Int.reduceEq, true_and, and_true, not_true_eq_false, not_false_eq_true] at *; omega) | skip
    · refine fr_Call.mono hj ?_
      rintro r sh M ⟨rfl, rfl, hq⟩
      exact hq
  · have es0 := z0.2 (by omega)
    have ec5 := zc.2.2 (by omega)
    have ht0 : tg0 p b = -1 := by
      unfold tg0
      rw [if_neg (by omega)]
    have etu : tu p b = 0 ∨ tu p b = 1 := by
      unfold tu
      split
      · exact Or.inr rfl
      · exact Or.inl rfl
    have hj := hjump g2 (by omega) (by omega) (fun m y0 y1 => by omega) (fun j y => rfl) (fun m y0 y1 y2 => eb_j (by omega) (by omega) (by omega) (fun _ => by omega) y1)
    rw [show jb0 p lg b = ea p lg b by omega] at hj
    clear h hjump n1 n2 n3 n4
    refine fr_go k69 [] 400 rfl ?_
    repeat' (first | (refine And.intro (by first | omega | (simp (disch := decide) only [up_n, up_s, cp_n, rw_n, rw_s, up1_, if_true, if_false, ite_true, ite_false, reduceIte, eq_self, Int.reduceEq, true_and, and_true, not_true_eq_false, not_false_eq_true]; omega)) ?_) | (refine c_wtest (z := lg (2 * b)) (u := tu p b) (d := 0) (by omega) (by omega) ⟨sl0.2.1, sl0.2.2.1⟩ ⟨e37, etu⟩ (by rw [sl0.1]; omega) (fun q => absurd (show N 34 (2 * b) = -1 by rw [sl0.1]; exact ht0) q) (by omega) (fun q => ?_) (fun q => absurd (show N 34 (2 * b) = -1 by rw [sl0.1]; exact ht0) q)) | (refine And.intro (fun hc => ?_) (fun hc => ?_) <;> (try (simp (disch := decide) only [up_n, up_s, cp_n, rw_n, rw_s, up1_, if_true, if_false, ite_true, ite_false, reduceIte, eq_self, Int.reduceEq, true_and, and_true, not_true_eq_false, not_false_eq_true] at hc)) <;> (try (exfalso; omega))) | (refine fun (hc : ¬ _) => ?_; try (simp (disch := decide) only [up_n, up_s, cp_n, rw_n, rw_s, up1_, if_true, if_false, ite_true, ite_false, reduceIte, eq_self, Int.reduceEq, true_and, and_true, not_true_eq_false, not_false_eq_true] at hc)) | (refine fun (hc : _ = _) => ?_; try (simp (disch := decide) only [up_n, up_s, cp_n, rw_n, rw_s, up1_, if_true, if_false, ite_true, ite_false, reduceIte, eq_self, Int.reduceEq, true_and, and_true, not_true_eq_false, not_false_eq_true] at hc)))
    all_goals first | (exfalso; omega) | (exfalso; simp (disch := decide) only [up_n, up_s, cp_n, rw_n, rw_s, up1_, if_true, if_false, ite_true, ite_false, reduceIte, eq_self, Int.reduceEq, true_and, and_true, not_true_eq_false, not_false_eq_true] at *; omega) | skip
    all_goals (refine fr_Call.mono hj ?_)
    all_goals (rintro r sh M ⟨rfl, rfl, hq⟩; exact hq)
