set_option maxHeartbeats 4000000 in
set_option maxRecDepth 100000 in
theorem c_signedAt {N : fr_M} {i v : Int} {Q : Option fr_V → fr_H → fr_M → Prop} (hi : 0 ≤ i ∧ i < 9760) (hv : N 40 i % 256 = v % 256) (h : Q (some (.inl (sg (v % 256)))) sh0 N) : fr_Call 59 [.inr (.inl 39), .inl i] sh0 N Q := by
  have e := i2b_any (v := N 40 i % 256) (by omega)
  rw [show N 40 i % 256 % 256 = v % 256 by omega] at e
  rw [← e] at h
  refine fr_cgo k59 [some (.inr (.inl 39)), some (.inl i)] 0 0 [] 400 rfl rfl rfl rfl ?_
  repeat' (first | (refine And.intro (by first | omega | (simp (disch := decide) only [up_n, up_s, cp_n, rw_n, rw_s, up1_, if_true, if_false, ite_true, ite_false, reduceIte, eq_self, Int.reduceEq, true_and, and_true, not_true_eq_false, not_false_eq_true]; omega)) ?_) | (refine c_byteAt hi ?_) | (refine And.intro (fun hc => ?_) (fun hc => ?_) <;> (try (simp (disch := decide) only [up_n, up_s, cp_n, rw_n, rw_s, up1_, if_true, if_false, ite_true, ite_false, reduceIte, eq_self, Int.reduceEq, true_and, and_true, not_true_eq_false, not_false_eq_true] at hc)) <;> (try (exfalso; omega))) | (refine fun (hc : ¬ _) => ?_; try (simp (disch := decide) only [up_n, up_s, cp_n, rw_n, rw_s, up1_, if_true, if_false, ite_true, ite_false, reduceIte, eq_self, Int.reduceEq, true_and, and_true, not_true_eq_false, not_false_eq_true] at hc)) | (refine fun (hc : _ = _) => ?_; try (simp (disch := decide) only [up_n, up_s, cp_n, rw_n, rw_s, up1_, if_true, if_false, ite_true, ite_false, reduceIte, eq_self, Int.reduceEq, true_and, and_true, not_true_eq_false, not_false_eq_true] at hc)))
  exact h
set_option maxHeartbeats 4000000 in
set_option maxRecDepth 100000 in
theorem c_wordAt {N : fr_M} {i v : Int} {Q : Option fr_V → fr_H → fr_M → Prop} (hi : 0 ≤ i ∧ i + 3 < 9760) (hv : fr_in v) (h0 : N 40 i % 256 = byo v 0) (h1 : N 40 (i + 1) % 256 = byo v 1) (h2 : N 40 (i + 2) % 256 = byo v 2) (h3 : N 40 (i + 3) % 256 = byo v 3) (h : Q (some (.inl v)) sh0 N) : fr_Call 60 [.inr (.inl 39), .inl i] sh0 N Q := by
  have e := word_v hv
  rw [← h0, ← h1, ← h2, ← h3] at e
  rw [← e] at h
  refine fr_cgo k60 [some (.inr (.inl 39)), some (.inl i)] 0 0 [] 400 rfl rfl rfl rfl ?_
  repeat' (first | (refine And.intro (by first | omega | (simp (disch := decide) only [up_n, up_s, cp_n, rw_n, rw_s, up1_, if_true, if_false, ite_true, ite_false, reduceIte, eq_self, Int.reduceEq, true_and, and_true, not_true_eq_false, not_false_eq_true]; omega)) ?_) | (refine c_byteAt (by omega) ?_) | (refine And.intro (fun hc => ?_) (fun hc => ?_) <;> (try (simp (disch := decide) only [up_n, up_s, cp_n, rw_n, rw_s, up1_, if_true, if_false, ite_true, ite_false, reduceIte, eq_self, Int.reduceEq, true_and, and_true, not_true_eq_false, not_false_eq_true] at hc)) <;> (try (exfalso; omega))) | (refine fun (hc : ¬ _) => ?_; try (simp (disch := decide) only [up_n, up_s, cp_n, rw_n, rw_s, up1_, if_true, if_false, ite_true, ite_false, reduceIte, eq_self, Int.reduceEq, true_and, and_true, not_true_eq_false, not_false_eq_true] at hc)) | (refine fun (hc : _ = _) => ?_; try (simp (disch := decide) only [up_n, up_s, cp_n, rw_n, rw_s, up1_, if_true, if_false, ite_true, ite_false, reduceIte, eq_self, Int.reduceEq, true_and, and_true, not_true_eq_false, not_false_eq_true] at hc)))
  exact h
set_option maxHeartbeats 4000000 in
set_option maxRecDepth 100000 in
theorem c_blockAt {N : fr_M} {b a : Int} {Q : Option fr_V → fr_H → fr_M → Prop} (hb : 0 ≤ b ∧ b < N 1 1 ∧ b < 40) (ha : 0 ≤ a ∧ a < 9760) (h40 : N 40 a % 256 = b) (h32 : N 32 b = a) (h : Q (some (.inl b)) sh0 N) : fr_Call 62 [.inr (.inl 39), .inl a] sh0 N Q := by
  rw [← h40] at h hb h32
  refine fr_cgo k62 [some (.inr (.inl 39)), some (.inl a), none] 0 0 [] 400 rfl rfl rfl rfl ?_
  repeat' (first | (refine And.intro (by first | omega | (simp (disch := decide) only [up_n, up_s, cp_n, rw_n, rw_s, up1_, if_true, if_false, ite_true, ite_false, reduceIte, eq_self, Int.reduceEq, true_and, and_true, not_true_eq_false, not_false_eq_true]; omega)) ?_) | (refine c_byteAt ha ?_) | (refine c_isBlock (fun hc => ?_) (fun hc => ?_) <;> (try (simp (disch := decide) only [up_n, up_s, cp_n, rw_n, rw_s, up1_, if_true, if_false, ite_true, ite_false, reduceIte, eq_self, Int.reduceEq, true_and, and_true, not_true_eq_false, not_false_eq_true] at hc))) | (refine And.intro (fun hc => ?_) (fun hc => ?_) <;> (try (simp (disch := decide) only [up_n, up_s, cp_n, rw_n, rw_s, up1_, if_true, if_false, ite_true, ite_false, reduceIte, eq_self, Int.reduceEq, true_and, and_true, not_true_eq_false, not_false_eq_true] at hc)) <;> (try (exfalso; omega))) | (refine fun (hc : ¬ _) => ?_; try (simp (disch := decide) only [up_n, up_s, cp_n, rw_n, rw_s, up1_, if_true, if_false, ite_true, ite_false, reduceIte, eq_self, Int.reduceEq, true_and, and_true, not_true_eq_false, not_false_eq_true] at hc)) | (refine fun (hc : _ = _) => ?_; try (simp (disch := decide) only [up_n, up_s, cp_n, rw_n, rw_s, up1_, if_true, if_false, ite_true, ite_false, reduceIte, eq_self, Int.reduceEq, true_and, and_true, not_true_eq_false, not_false_eq_true] at hc)))
  all_goals first | (exfalso; omega) | exact h
/-- what is laid, as a run reads it -/
def BN (p : fr_M) (lg : Int → Int) (N : fr_M) : Prop := N 1 1 = p 75 4 ∧ (∀ b, 0 ≤ b → b < p 75 4 → N 31 b = nx p b ∧ N 32 b = ad p lg b ∧ N 33 b = be p lg b ∧ N 6 b = p 80 b) ∧ PicP p lg N ∧ (∀ s, 0 ≤ s → s < 2 * p 75 4 → tg p s ≠ -1 → lg s = 0 → -128 ≤ ad p lg (tg p s) - jb p lg s ∧ ad p lg (tg p s) - jb p lg s ≤ 127) ∧ (∀ s, lg s = 0 ∨ lg s = 1)
theorem bn_end {p : fr_M} {lg : Int → Int} {N : fr_M} (h : BN p lg N) {b m : Int} (hb : 0 ≤ b ∧ b < p 75 4) (hm : 0 ≤ m ∧ m < be p lg b - ea p lg b) : N 40 (ea p lg b + m) % 256 = eb p lg b m := by
  have := h.2.2.1.2.2.1 b hb.1 hb.2 m hm.1 hm.2
  rw [this]
  exact (sg_mod eb_b).1
theorem bn_blk {p : fr_M} (hw : WF p) {lg : Int → Int} {N : fr_M} (h : BN p lg N) {b : Int} (hb : 0 ≤ b ∧ b < p 75 4) : N 40 (ad p lg b) % 256 = b ∧ 0 ≤ ad p lg b ∧ ad p lg b < 9760 := by
  have h40 := hw.1.1
  have hsz := (hw.2.2.2.2.2.1 b hb.1 hb.2).1
  have ha := ad_b hw (lg := lg) hb
  have := h.2.2.1.2.1 b hb.1 hb.2 (ad p lg b) (by omega) (by omega)
  rw [this]
  omega
theorem sg_d {d : Int} (h : -128 ≤ d ∧ d ≤ 127) : sg (d % 256) = d := by
  unfold sg
  split <;> omega
set_option maxHeartbeats 4000000 in
set_option maxRecDepth 100000 in
theorem c_rdJump_52 {N p : fr_M} {lg : Int → Int} {b : Int} {r44 g gc gr : Int → Int} {Q : Option fr_V → fr_H → fr_M → Prop} (hw : WF p) (hN : BN p lg N) (hb : 0 ≤ b ∧ b < p 75 4) (hk : p 82 b = 2 ∨ p 82 b = 3 ∨ p 82 b = 5 ∨ p 82 b = 6) (ht : tg1 p b ≠ -1) (hat : r44 5 = jb0 p lg b) (hg : 0 ≤ g 6 ∧ g 6 ≤ 1000) (h : Q (some (.inl 0)) sh0 (rw_ (rw_ (rw_ (rw_ N 44 (up1 r44 5 (ad p lg (tg1 p b)))) 52 (up1 g 6 (g 6 + 1))) 56 gc) 57 gr)) : fr_Call 95 [.inr (.inl 44), .inr (.inl 52)] sh0 (rw_ (rw_ (rw_ (rw_ N 44 r44) 52 g) 56 gc) 57 gr) Q := by
  have h40 := hw.1.1
  have hab := ad_b hw (lg := lg) hb
  have hsz := (hw.2.2.2.2.2.1 b hb.1 hb.2).1
  have tr := (tg1_rng hw hb).resolve_left ht
  have hta := (ad_b hw (lg := lg) tr).1
  have zc : (c5 p b = 0 ∨ c5 p b = 5) ∧ (p 82 b = 5 → c5 p b = 5) ∧ (p 82 b ≠ 5 → c5 p b = 0) := by
    unfold c5
    split <;> omega
  have z0 := s0_b (p := p) (lg := lg) (b := b)
  have hj0 : jb0 p lg b = ea p lg b + c5 p b + s0 p lg b := rfl
  have hj1 : jb1 p lg b = ea p lg b + c5 p b + s0 p lg b + s1 p lg b := rfl
  have hz1 := s1_e (p := p) (lg := lg) (b := b)
  rw [if_neg ht] at hz1
  have hbe : be p lg b = ea p lg b + c5 p b + s0 p lg b + s1 p lg b := by
    show ed p lg b (ea p lg b) = _
    unfold ed
    rw [if_neg (by omega), if_neg (by omega)]
  have hdi : -20000 ≤ ad p lg (tg1 p b) - jb1 p lg b ∧ ad p lg (tg1 p b) - jb1 p lg b ≤ 20000 := by
    have := jb_d hw (lg := lg) (s := 2 * b + 1) (by omega) (by rw [tg_odd]; exact ht)
    rw [tg_odd, jb_odd] at this
    exact this
  have key : ∀ m, 0 ≤ m → m < be p lg b - jb0 p lg b → N 40 (jb0 p lg b + m) % 256 = if m = 0 then (if lg (2 * b + 1) = 1 then 233 else 235) else byo (ad p lg (tg1 p b) - jb1 p lg b) (m - 1) := by
    intro m q0 q1
    have a := bn_end hN hb (m := jb0 p lg b - ea p lg b + m) (by omega)
    rw [show ea p lg b + (jb0 p lg b - ea p lg b + m) = jb0 p lg b + m by omega, eb_j (by omega) (by omega) (by omega) (by omega) (by omega)] at a
    rw [a]
    by_cases e : m = 0
    · rw [if_pos (by omega), if_pos e]
    · rw [if_neg (by omega), if_neg e]
      congr 1
      omega
  have k0 := key 0 (by omega) (by rcases hN.2.2.2.2 (2 * b + 1) with e | e <;> rw [e] at hz1 <;> simp at hz1 <;> omega)
  rw [if_pos rfl, show jb0 p lg b + 0 = jb0 p lg b by omega, ← hat] at k0
  have k0' : rw_ (rw_ (rw_ (rw_ N 44 r44) 52 g) 56 gc) 57 gr 40 (r44 5) % 256 = if lg (2 * b + 1) = 1 then 233 else 235 := k0
  rcases hN.2.2.2.2 (2 * b + 1) with l1 | l1
  · rw [if_neg (by omega)] at k0' hz1
    have hsh := hN.2.2.2.1 (2 * b + 1) (by omega) (by omega) (by rw [tg_odd]; exact ht) l1
    rw [tg_odd, jb_odd] at hsh
    have k1 := key 1 (by omega) (by omega)
    rw [if_neg (by omega), ← hat] at k1
    have hsg := sg_d hsh
    have hfin : r44 5 + 2 + sg ((ad p lg (tg1 p b) - jb1 p lg b) % 256) = ad p lg (tg1 p b) := by
      rw [hsg]
      omega
    clear key hN
    refine fr_cgo k95 [some (.inr (.inl 44)), some (.inr (.inl 52)), none] 0 0 [] 400 rfl rfl rfl rfl ?_
    refine c_byteAt (i := r44 5) (by omega) ?_
    rw [k0']
    repeat' (first | (refine And.intro (by first | omega | (simp (disch := decide) only [up_n, up_s, cp_n, rw_n, rw_s, up1_, if_true, if_false, ite_true, ite_false, reduceIte, eq_self, Int.reduceEq, true_and, and_true, not_true_eq_false, not_false_eq_true]; omega)) ?_) | (refine And.intro (fun hc => ?_) (fun hc => ?_) <;> (try (simp (disch := decide) only [up_n, up_s, cp_n, rw_n, rw_s, up1_, if_true, if_false, ite_true, ite_false, reduceIte, eq_self, Int.reduceEq, true_and, and_true, not_true_eq_false, not_false_eq_true] at hc)) <;> (try (exfalso; omega))) | (refine fun (hc : ¬ _) => ?_; try (simp (disch := decide) only [up_n, up_s, cp_n, rw_n, rw_s, up1_, if_true, if_false, ite_true, ite_false, reduceIte, eq_self, Int.reduceEq, true_and, and_true, not_true_eq_false, not_false_eq_true] at hc)) | (refine fun (hc : _ = _) => ?_; try (simp (disch := decide) only [up_n, up_s, cp_n, rw_n, rw_s, up1_, if_true, if_false, ite_true, ite_false, reduceIte, eq_self, Int.reduceEq, true_and, and_true, not_true_eq_false, not_false_eq_true] at hc)))
    all_goals first | (exfalso; omega) | skip
    refine c_signedAt (i := r44 5 + 1) (v := ad p lg (tg1 p b) - jb1 p lg b) (by omega) (by simp (disch := decide) only [up_n, up_s, cp_n, rw_n, rw_s, up1_, if_true, if_false, ite_true, ite_false, reduceIte, eq_self, Int.reduceEq, true_and, and_true, not_true_eq_false, not_false_eq_true]; rw [k1]; rfl) ?_
    repeat' (first | (refine And.intro (by first | omega | (simp (disch := decide) only [up_n, up_s, cp_n, rw_n, rw_s, up1_, if_true, if_false, ite_true, ite_false, reduceIte, eq_self, Int.reduceEq, true_and, and_true, not_true_eq_false, not_false_eq_true]; omega)) ?_) | (refine And.intro (fun hc => ?_) (fun hc => ?_) <;> (try (simp (disch := decide) only [up_n, up_s, cp_n, rw_n, rw_s, up1_, if_true, if_false, ite_true, ite_false, reduceIte, eq_self, Int.reduceEq, true_and, and_true, not_true_eq_false, not_false_eq_true] at hc)) <;> (try (exfalso; omega))) | (refine fun (hc : ¬ _) => ?_; try (simp (disch := decide) only [up_n, up_s, cp_n, rw_n, rw_s, up1_, if_true, if_false, ite_true, ite_false, reduceIte, eq_self, Int.reduceEq, true_and, and_true, not_true_eq_false, not_false_eq_true] at hc)) | (refine fun (hc : _ = _) => ?_; try (simp (disch := decide) only [up_n, up_s, cp_n, rw_n, rw_s, up1_, if_true, if_false, ite_true, ite_false, reduceIte, eq_self, Int.reduceEq, true_and, and_true, not_true_eq_false, not_false_eq_true] at hc)))
    all_goals (show fr_Call 91 [.inr (.inl 44), .inl _] sh0 _ _)
    simp (disch := decide) only [up_n, up_s, cp_n, rw_n, rw_s, up1_, if_true, if_false, ite_true, ite_false, reduceIte, eq_self, Int.reduceEq, true_and, and_true, not_true_eq_false, not_false_eq_true]
    rw [hfin]
    refine fr_cgo k91 [some (.inr (.inl 44)), some (.inl _)] 0 0 [] 400 rfl rfl rfl rfl ?_
    repeat' (first | (refine And.intro (by first | omega | (simp (disch := decide) only [up_n, up_s, cp_n, rw_n, rw_s, up1_, if_true, if_false, ite_true, ite_false, reduceIte, eq_self, Int.reduceEq, true_and, and_true, not_true_eq_false, not_false_eq_true]; omega)) ?_) | (refine And.intro (fun hc => ?_) (fun hc => ?_) <;> (try (simp (disch := decide) only [up_n, up_s, cp_n, rw_n, rw_s, up1_, if_true, if_false, ite_true, ite_false, reduceIte, eq_self, Int.reduceEq, true_and, and_true, not_true_eq_false, not_false_eq_true] at hc)) <;> (try (exfalso; omega))) | (refine fun (hc : ¬ _) => ?_; try (simp (disch := decide) only [up_n, up_s, cp_n, rw_n, rw_s, up1_, if_true, if_false, ite_true, ite_false, reduceIte, eq_self, Int.reduceEq, true_and, and_true, not_true_eq_false, not_false_eq_true] at hc)) | (refine fun (hc : _ = _) => ?_; try (simp (disch := decide) only [up_n, up_s, cp_n, rw_n, rw_s, up1_, if_true, if_false, ite_true, ite_false, reduceIte, eq_self, Int.reduceEq, true_and, and_true, not_true_eq_false, not_false_eq_true] at hc)))
    show Q (some (.inl _)) sh0 _
    try (simp (disch := decide) only [up_n, up_s, cp_n, rw_n, rw_s, up1_, if_true, if_false, ite_true, ite_false, reduceIte, eq_self, Int.reduceEq, true_and, and_true, not_true_eq_false, not_false_eq_true])
    simp (disch := decide) only [up_rw, rw_u, up_up, rw_rw, rw_cm]
    exact h
  · rw [if_pos l1] at k0' hz1
    have k1 := key 1 (by omega) (by omega)
    have k2 := key 2 (by omega) (by omega)
    have k3 := key 3 (by omega) (by omega)
    have k4 := key 4 (by omega) (by omega)
    rw [if_neg (by omega), ← hat] at k1 k2 k3 k4
    have hfin : r44 5 + 5 + (ad p lg (tg1 p b) - jb1 p lg b) = ad p lg (tg1 p b) := by omega
    clear key hN
    refine fr_cgo k95 [some (.inr (.inl 44)), some (.inr (.inl 52)), none] 0 0 [] 400 rfl rfl rfl rfl ?_
    refine c_byteAt (i := r44 5) (by omega) ?_
    rw [k0']
    repeat' (first | (refine And.intro (by first | omega | (simp (disch := decide) only [up_n, up_s, cp_n, rw_n, rw_s, up1_, if_true, if_false, ite_true, ite_false, reduceIte, eq_self, Int.reduceEq, true_and, and_true, not_true_eq_false, not_false_eq_true]; omega)) ?_) | (refine And.intro (fun hc => ?_) (fun hc => ?_) <;> (try (simp (disch := decide) only [up_n, up_s, cp_n, rw_n, rw_s, up1_, if_true, if_false, ite_true, ite_false, reduceIte, eq_self, Int.reduceEq, true_and, and_true, not_true_eq_false, not_false_eq_true] at hc)) <;> (try (exfalso; omega))) | (refine fun (hc : ¬ _) => ?_; try (simp (disch := decide) only [up_n, up_s, cp_n, rw_n, rw_s, up1_, if_true, if_false, ite_true, ite_false, reduceIte, eq_self, Int.reduceEq, true_and, and_true, not_true_eq_false, not_false_eq_true] at hc)) | (refine fun (hc : _ = _) => ?_; try (simp (disch := decide) only [up_n, up_s, cp_n, rw_n, rw_s, up1_, if_true, if_false, ite_true, ite_false, reduceIte, eq_self, Int.reduceEq, true_and, and_true, not_true_eq_false, not_false_eq_true] at hc)))
    all_goals first | (exfalso; omega) | skip
    refine c_wordAt (i := r44 5 + 1) (v := ad p lg (tg1 p b) - jb1 p lg b) (by omega) (by omega) (by simp (disch := decide) only [up_n, up_s, cp_n, rw_n, rw_s, up1_, if_true, if_false, ite_true, ite_false, reduceIte, eq_self, Int.reduceEq, true_and, and_true, not_true_eq_false, not_false_eq_true]; exact k1) (by simp (disch := decide) only [up_n, up_s, cp_n, rw_n, rw_s, up1_, if_true, if_false, ite_true, ite_false, reduceIte, eq_self, Int.reduceEq, true_and, and_true, not_true_eq_false, not_false_eq_true]; rw [show r44 5 + 1 + 1 = r44 5 + 2 by omega]; exact k2) (by simp (disch := decide) only [up_n, up_s, cp_n, rw_n, rw_s, up1_, if_true, if_false, ite_true, ite_false, reduceIte, eq_self, Int.reduceEq, true_and, and_true, not_true_eq_false, not_false_eq_true]; rw [show r44 5 + 1 + 2 = r44 5 + 3 by omega]; exact k3) (by simp (disch := decide) only [up_n, up_s, cp_n, rw_n, rw_s, up1_, if_true, if_false, ite_true, ite_false, reduceIte, eq_self, Int.reduceEq, true_and, and_true, not_true_eq_false, not_false_eq_true]; rw [show r44 5 + 1 + 3 = r44 5 + 4 by omega]; exact k4) ?_
    repeat' (first | (refine And.intro (by first | omega | (simp (disch := decide) only [up_n, up_s, cp_n, rw_n, rw_s, up1_, if_true, if_false, ite_true, ite_false, reduceIte, eq_self, Int.reduceEq, true_and, and_true, not_true_eq_false, not_false_eq_true]; omega)) ?_) | (refine And.intro (fun hc => ?_) (fun hc => ?_) <;> (try (simp (disch := decide) only [up_n, up_s, cp_n, rw_n, rw_s, up1_, if_true, if_false, ite_true, ite_false, reduceIte, eq_self, Int.reduceEq, true_and, and_true, not_true_eq_false, not_false_eq_true] at hc)) <;> (try (exfalso; omega))) | (refine fun (hc : ¬ _) => ?_; try (simp (disch := decide) only [up_n, up_s, cp_n, rw_n, rw_s, up1_, if_true, if_false, ite_true, ite_false, reduceIte, eq_self, Int.reduceEq, true_and, and_true, not_true_eq_false, not_false_eq_true] at hc)) | (refine fun (hc : _ = _) => ?_; try (simp (disch := decide) only [up_n, up_s, cp_n, rw_n, rw_s, up1_, if_true, if_false, ite_true, ite_false, reduceIte, eq_self, Int.reduceEq, true_and, and_true, not_true_eq_false, not_false_eq_true] at hc)))
    all_goals (show fr_Call 91 [.inr (.inl 44), .inl _] sh0 _ _)
    simp (disch := decide) only [up_n, up_s, cp_n, rw_n, rw_s, up1_, if_true, if_false, ite_true, ite_false, reduceIte, eq_self, Int.reduceEq, true_and, and_true, not_true_eq_false, not_false_eq_true]
    rw [hfin]
    refine fr_cgo k91 [some (.inr (.inl 44)), some (.inl _)] 0 0 [] 400 rfl rfl rfl rfl ?_
    repeat' (first | (refine And.intro (by first | omega | (simp (disch := decide) only [up_n, up_s, cp_n, rw_n, rw_s, up1_, if_true, if_false, ite_true, ite_false, reduceIte, eq_self, Int.reduceEq, true_and, and_true, not_true_eq_false, not_false_eq_true]; omega)) ?_) | (refine And.intro (fun hc => ?_) (fun hc => ?_) <;> (try (simp (disch := decide) only [up_n, up_s, cp_n, rw_n, rw_s, up1_, if_true, if_false, ite_true, ite_false, reduceIte, eq_self, Int.reduceEq, true_and, and_true, not_true_eq_false, not_false_eq_true] at hc)) <;> (try (exfalso; omega))) | (refine fun (hc : ¬ _) => ?_; try (simp (disch := decide) only [up_n, up_s, cp_n, rw_n, rw_s, up1_, if_true, if_false, ite_true, ite_false, reduceIte, eq_self, Int.reduceEq, true_and, and_true, not_true_eq_false, not_false_eq_true] at hc)) | (refine fun (hc : _ = _) => ?_; try (simp (disch := decide) only [up_n, up_s, cp_n, rw_n, rw_s, up1_, if_true, if_false, ite_true, ite_false, reduceIte, eq_self, Int.reduceEq, true_and, and_true, not_true_eq_false, not_false_eq_true] at hc)))
    show Q (some (.inl _)) sh0 _
    try (simp (disch := decide) only [up_n, up_s, cp_n, rw_n, rw_s, up1_, if_true, if_false, ite_true, ite_false, reduceIte, eq_self, Int.reduceEq, true_and, and_true, not_true_eq_false, not_false_eq_true])
    simp (disch := decide) only [up_rw, rw_u, up_up, rw_rw, rw_cm]
    exact h
set_option maxHeartbeats 4000000 in
set_option maxRecDepth 100000 in
theorem c_rdJump_66 {N p : fr_M} {lg : Int → Int} {b : Int} {r44 g gc gr : Int → Int} {Q : Option fr_V → fr_H → fr_M → Prop} (hw : WF p) (hN : BN p lg N) (hb : 0 ≤ b ∧ b < p 75 4) (hk : p 82 b = 2 ∨ p 82 b = 3 ∨ p 82 b = 5 ∨ p 82 b = 6) (ht : tg1 p b ≠ -1) (hat : r44 5 = jb0 p lg b) (hg : 0 ≤ g 6 ∧ g 6 ≤ 1000) (h : Q (some (.inl 0)) sh0 (rw_ (rw_ (rw_ (rw_ N 44 (up1 r44 5 (ad p lg (tg1 p b)))) 66 (up1 g 6 (g 6 + 1))) 70 gc) 71 gr)) : fr_Call 95 [.inr (.inl 44), .inr (.inl 66)] sh0 (rw_ (rw_ (rw_ (rw_ N 44 r44) 66 g) 70 gc) 71 gr) Q := by
  have h40 := hw.1.1
  have hab := ad_b hw (lg := lg) hb
  have hsz := (hw.2.2.2.2.2.1 b hb.1 hb.2).1
  have tr := (tg1_rng hw hb).resolve_left ht
  have hta := (ad_b hw (lg := lg) tr).1
  have zc : (c5 p b = 0 ∨ c5 p b = 5) ∧ (p 82 b = 5 → c5 p b = 5) ∧ (p 82 b ≠ 5 → c5 p b = 0) := by
    unfold c5
    split <;> omega
  have z0 := s0_b (p := p) (lg := lg) (b := b)
  have hj0 : jb0 p lg b = ea p lg b + c5 p b + s0 p lg b := rfl
  have hj1 : jb1 p lg b = ea p lg b + c5 p b + s0 p lg b + s1 p lg b := rfl
  have hz1 := s1_e (p := p) (lg := lg) (b := b)
  rw [if_neg ht] at hz1
  have hbe : be p lg b = ea p lg b + c5 p b + s0 p lg b + s1 p lg b := by
    show ed p lg b (ea p lg b) = _
    unfold ed
    rw [if_neg (by omega), if_neg (by omega)]
  have hdi : -20000 ≤ ad p lg (tg1 p b) - jb1 p lg b ∧ ad p lg (tg1 p b) - jb1 p lg b ≤ 20000 := by
    have := jb_d hw (lg := lg) (s := 2 * b + 1) (by omega) (by rw [tg_odd]; exact ht)
    rw [tg_odd, jb_odd] at this
    exact this
  have key : ∀ m, 0 ≤ m → m < be p lg b - jb0 p lg b → N 40 (jb0 p lg b + m) % 256 = if m = 0 then (if lg (2 * b + 1) = 1 then 233 else 235) else byo (ad p lg (tg1 p b) - jb1 p lg b) (m - 1) := by
    intro m q0 q1
    have a := bn_end hN hb (m := jb0 p lg b - ea p lg b + m) (by omega)
    rw [show ea p lg b + (jb0 p lg b - ea p lg b + m) = jb0 p lg b + m by omega, eb_j (by omega) (by omega) (by omega) (by omega) (by omega)] at a
    rw [a]
    by_cases e : m = 0
    · rw [if_pos (by omega), if_pos e]
    · rw [if_neg (by omega), if_neg e]
      congr 1
      omega
  have k0 := key 0 (by omega) (by rcases hN.2.2.2.2 (2 * b + 1) with e | e <;> rw [e] at hz1 <;> simp at hz1 <;> omega)
  rw [if_pos rfl, show jb0 p lg b + 0 = jb0 p lg b by omega, ← hat] at k0
  have k0' : rw_ (rw_ (rw_ (rw_ N 44 r44) 66 g) 70 gc) 71 gr 40 (r44 5) % 256 = if lg (2 * b + 1) = 1 then 233 else 235 := k0
  rcases hN.2.2.2.2 (2 * b + 1) with l1 | l1
  · rw [if_neg (by omega)] at k0' hz1
    have hsh := hN.2.2.2.1 (2 * b + 1) (by omega) (by omega) (by rw [tg_odd]; exact ht) l1
    rw [tg_odd, jb_odd] at hsh
    have k1 := key 1 (by omega) (by omega)
    rw [if_neg (by omega), ← hat] at k1
    have hsg := sg_d hsh
    have hfin : r44 5 + 2 + sg ((ad p lg (tg1 p b) - jb1 p lg b) % 256) = ad p lg (tg1 p b) := by
      rw [hsg]
      omega
    clear key hN
    refine fr_cgo k95 [some (.inr (.inl 44)), some (.inr (.inl 66)), none] 0 0 [] 400 rfl rfl rfl rfl ?_
    refine c_byteAt (i := r44 5) (by omega) ?_
    rw [k0']
    repeat' (first | (refine And.intro (by first | omega | (simp (disch := decide) only [up_n, up_s, cp_n, rw_n, rw_s, up1_, if_true, if_false, ite_true, ite_false, reduceIte, eq_self, Int.reduceEq, true_and, and_true, not_true_eq_false, not_false_eq_true]; omega)) ?_) | (refine And.intro (fun hc => ?_) (fun hc => ?_) <;> (try (simp (disch := decide) only [up_n, up_s, cp_n, rw_n, rw_s, up1_, if_true, if_false, ite_true, ite_false, reduceIte, eq_self, Int.reduceEq, true_and, and_true, not_true_eq_false, not_false_eq_true] at hc)) <;> (try (exfalso; omega))) | (refine fun (hc : ¬ _) => ?_; try (simp (disch := decide) only [up_n, up_s, cp_n, rw_n, rw_s, up1_, if_true, if_false, ite_true, ite_false, reduceIte, eq_self, Int.reduceEq, true_and, and_true, not_true_eq_false, not_false_eq_true] at hc)) | (refine fun (hc : _ = _) => ?_; try (simp (disch := decide) only [up_n, up_s, cp_n, rw_n, rw_s, up1_, if_true, if_false, ite_true, ite_false, reduceIte, eq_self, Int.reduceEq, true_and, and_true, not_true_eq_false, not_false_eq_true] at hc)))
    all_goals first | (exfalso; omega) | skip
    refine c_signedAt (i := r44 5 + 1) (v := ad p lg (tg1 p b) - jb1 p lg b) (by omega) (by simp (disch := decide) only [up_n, up_s, cp_n, rw_n, rw_s, up1_, if_true, if_false, ite_true, ite_false, reduceIte, eq_self, Int.reduceEq, true_and, and_true, not_true_eq_false, not_false_eq_true]; rw [k1]; rfl) ?_
    repeat' (first | (refine And.intro (by first | omega | (simp (disch := decide) only [up_n, up_s, cp_n, rw_n, rw_s, up1_, if_true, if_false, ite_true, ite_false, reduceIte, eq_self, Int.reduceEq, true_and, and_true, not_true_eq_false, not_false_eq_true]; omega)) ?_) | (refine And.intro (fun hc => ?_) (fun hc => ?_) <;> (try (simp (disch := decide) only [up_n, up_s, cp_n, rw_n, rw_s, up1_, if_true, if_false, ite_true, ite_false, reduceIte, eq_self, Int.reduceEq, true_and, and_true, not_true_eq_false, not_false_eq_true] at hc)) <;> (try (exfalso; omega))) | (refine fun (hc : ¬ _) => ?_; try (simp (disch := decide) only [up_n, up_s, cp_n, rw_n, rw_s, up1_, if_true, if_false, ite_true, ite_false, reduceIte, eq_self, Int.reduceEq, true_and, and_true, not_true_eq_false, not_false_eq_true] at hc)) | (refine fun (hc : _ = _) => ?_; try (simp (disch := decide) only [up_n, up_s, cp_n, rw_n, rw_s, up1_, if_true, if_false, ite_true, ite_false, reduceIte, eq_self, Int.reduceEq, true_and, and_true, not_true_eq_false, not_false_eq_true] at hc)))
    all_goals (show fr_Call 91 [.inr (.inl 44), .inl _] sh0 _ _)
    simp (disch := decide) only [up_n, up_s, cp_n, rw_n, rw_s, up1_, if_true, if_false, ite_true, ite_false, reduceIte, eq_self, Int.reduceEq, true_and, and_true, not_true_eq_false, not_false_eq_true]
    rw [hfin]
    refine fr_cgo k91 [some (.inr (.inl 44)), some (.inl _)] 0 0 [] 400 rfl rfl rfl rfl ?_
    repeat' (first | (refine And.intro (by first | omega | (simp (disch := decide) only [up_n, up_s, cp_n, rw_n, rw_s, up1_, if_true, if_false, ite_true, ite_false, reduceIte, eq_self, Int.reduceEq, true_and, and_true, not_true_eq_false, not_false_eq_true]; omega)) ?_) | (refine And.intro (fun hc => ?_) (fun hc => ?_) <;> (try (simp (disch := decide) only [up_n, up_s, cp_n, rw_n, rw_s, up1_, if_true, if_false, ite_true, ite_false, reduceIte, eq_self, Int.reduceEq, true_and, and_true, not_true_eq_false, not_false_eq_true] at hc)) <;> (try (exfalso; omega))) | (refine fun (hc : ¬ _) => ?_; try (simp (disch := decide) only [up_n, up_s, cp_n, rw_n, rw_s, up1_, if_true, if_false, ite_true, ite_false, reduceIte, eq_self, Int.reduceEq, true_and, and_true, not_true_eq_false, not_false_eq_true] at hc)) | (refine fun (hc : _ = _) => ?_; try (simp (disch := decide) only [up_n, up_s, cp_n, rw_n, rw_s, up1_, if_true, if_false, ite_true, ite_false, reduceIte, eq_self, Int.reduceEq, true_and, and_true, not_true_eq_false, not_false_eq_true] at hc)))
    show Q (some (.inl _)) sh0 _
    try (simp (disch := decide) only [up_n, up_s, cp_n, rw_n, rw_s, up1_, if_true, if_false, ite_true, ite_false, reduceIte, eq_self, Int.reduceEq, true_and, and_true, not_true_eq_false, not_false_eq_true])
    simp (disch := decide) only [up_rw, rw_u, up_up, rw_rw, rw_cm]
    exact h
  · rw [if_pos l1] at k0' hz1
    have k1 := key 1 (by omega) (by omega)
    have k2 := key 2 (by omega) (by omega)
    have k3 := key 3 (by omega) (by omega)
    have k4 := key 4 (by omega) (by omega)
    rw [if_neg (by omega), ← hat] at k1 k2 k3 k4
    have hfin : r44 5 + 5 + (ad p lg (tg1 p b) - jb1 p lg b) = ad p lg (tg1 p b) := by omega
    clear key hN
    refine fr_cgo k95 [some (.inr (.inl 44)), some (.inr (.inl 66)), none] 0 0 [] 400 rfl rfl rfl rfl ?_
    refine c_byteAt (i := r44 5) (by omega) ?_
    rw [k0']
    repeat' (first | (refine And.intro (by first | omega | (simp (disch := decide) only [up_n, up_s, cp_n, rw_n, rw_s, up1_, if_true, if_false, ite_true, ite_false, reduceIte, eq_self, Int.reduceEq, true_and, and_true, not_true_eq_false, not_false_eq_true]; omega)) ?_) | (refine And.intro (fun hc => ?_) (fun hc => ?_) <;> (try (simp (disch := decide) only [up_n, up_s, cp_n, rw_n, rw_s, up1_, if_true, if_false, ite_true, ite_false, reduceIte, eq_self, Int.reduceEq, true_and, and_true, not_true_eq_false, not_false_eq_true] at hc)) <;> (try (exfalso; omega))) | (refine fun (hc : ¬ _) => ?_; try (simp (disch := decide) only [up_n, up_s, cp_n, rw_n, rw_s, up1_, if_true, if_false, ite_true, ite_false, reduceIte, eq_self, Int.reduceEq, true_and, and_true, not_true_eq_false, not_false_eq_true] at hc)) | (refine fun (hc : _ = _) => ?_; try (simp (disch := decide) only [up_n, up_s, cp_n, rw_n, rw_s, up1_, if_true, if_false, ite_true, ite_false, reduceIte, eq_self, Int.reduceEq, true_and, and_true, not_true_eq_false, not_false_eq_true] at hc)))
    all_goals first | (exfalso; omega) | skip
    refine c_wordAt (i := r44 5 + 1) (v := ad p lg (tg1 p b) - jb1 p lg b) (by omega) (by omega) (by simp (disch := decide) only [up_n, up_s, cp_n, rw_n, rw_s, up1_, if_true, if_false, ite_true, ite_false, reduceIte, eq_self, Int.reduceEq, true_and, and_true, not_true_eq_false, not_false_eq_true]; exact k1) (by simp (disch := decide) only [up_n, up_s, cp_n, rw_n, rw_s, up1_, if_true, if_false, ite_true, ite_false, reduceIte, eq_self, Int.reduceEq, true_and, and_true, not_true_eq_false, not_false_eq_true]; rw [show r44 5 + 1 + 1 = r44 5 + 2 by omega]; exact k2) (by simp (disch := decide) only [up_n, up_s, cp_n, rw_n, rw_s, up1_, if_true, if_false, ite_true, ite_false, reduceIte, eq_self, Int.reduceEq, true_and, and_true, not_true_eq_false, not_false_eq_true]; rw [show r44 5 + 1 + 2 = r44 5 + 3 by omega]; exact k3) (by simp (disch := decide) only [up_n, up_s, cp_n, rw_n, rw_s, up1_, if_true, if_false, ite_true, ite_false, reduceIte, eq_self, Int.reduceEq, true_and, and_true, not_true_eq_false, not_false_eq_true]; rw [show r44 5 + 1 + 3 = r44 5 + 4 by omega]; exact k4) ?_
    repeat' (first | (refine And.intro (by first | omega | (simp (disch := decide) only [up_n, up_s, cp_n, rw_n, rw_s, up1_, if_true, if_false, ite_true, ite_false, reduceIte, eq_self, Int.reduceEq, true_and, and_true, not_true_eq_false, not_false_eq_true]; omega)) ?_) | (refine And.intro (fun hc => ?_) (fun hc => ?_) <;> (try (simp (disch := decide) only [up_n, up_s, cp_n, rw_n, rw_s, up1_, if_true, if_false, ite_true, ite_false, reduceIte, eq_self, Int.reduceEq, true_and, and_true, not_true_eq_false, not_false_eq_true] at hc)) <;> (try (exfalso; omega))) | (refine fun (hc : ¬ _) => ?_; try (simp (disch := decide) only [up_n, up_s, cp_n, rw_n, rw_s, up1_, if_true, if_false, ite_true, ite_false, reduceIte, eq_self, Int.reduceEq, true_and, and_true, not_true_eq_false, not_false_eq_true] at hc)) | (refine fun (hc : _ = _) => ?_; try (simp (disch := decide) only [up_n, up_s, cp_n, rw_n, rw_s, up1_, if_true, if_false, ite_true, ite_false, reduceIte, eq_self, Int.reduceEq, true_and, and_true, not_true_eq_false, not_false_eq_true] at hc)))
    all_goals (show fr_Call 91 [.inr (.inl 44), .inl _] sh0 _ _)
    simp (disch := decide) only [up_n, up_s, cp_n, rw_n, rw_s, up1_, if_true, if_false, ite_true, ite_false, reduceIte, eq_self, Int.reduceEq, true_and, and_true, not_true_eq_false, not_false_eq_true]
    rw [hfin]
    refine fr_cgo k91 [some (.inr (.inl 44)), some (.inl _)] 0 0 [] 400 rfl rfl rfl rfl ?_
    repeat' (first | (refine And.intro (by first | omega | (simp (disch := decide) only [up_n, up_s, cp_n, rw_n, rw_s, up1_, if_true, if_false, ite_true, ite_false, reduceIte, eq_self, Int.reduceEq, true_and, and_true, not_true_eq_false, not_false_eq_true]; omega)) ?_) | (refine And.intro (fun hc => ?_) (fun hc => ?_) <;> (try (simp (disch := decide) only [up_n, up_s, cp_n, rw_n, rw_s, up1_, if_true, if_false, ite_true, ite_false, reduceIte, eq_self, Int.reduceEq, true_and, and_true, not_true_eq_false, not_false_eq_true] at hc)) <;> (try (exfalso; omega))) | (refine fun (hc : ¬ _) => ?_; try (simp (disch := decide) only [up_n, up_s, cp_n, rw_n, rw_s, up1_, if_true, if_false, ite_true, ite_false, reduceIte, eq_self, Int.reduceEq, true_and, and_true, not_true_eq_false, not_false_eq_true] at hc)) | (refine fun (hc : _ = _) => ?_; try (simp (disch := decide) only [up_n, up_s, cp_n, rw_n, rw_s, up1_, if_true, if_false, ite_true, ite_false, reduceIte, eq_self, Int.reduceEq, true_and, and_true, not_true_eq_false, not_false_eq_true] at hc)))
    show Q (some (.inl _)) sh0 _
    try (simp (disch := decide) only [up_n, up_s, cp_n, rw_n, rw_s, up1_, if_true, if_false, ite_true, ite_false, reduceIte, eq_self, Int.reduceEq, true_and, and_true, not_true_eq_false, not_false_eq_true])
    simp (disch := decide) only [up_rw, rw_u, up_up, rw_rw, rw_cm]
    exact h
