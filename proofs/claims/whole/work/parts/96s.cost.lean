theorem q_v {Q : Option fr_V → fr_H → fr_M → Prop} {v w : Int} {M : fr_M} (h : Q (some (.inl v)) sh0 M) (e : v = w) : Q (some (.inl w)) sh0 M := e ▸ h
def cs (p : fr_M) (b x : Int) : Int := if p 82 b = 2 ∨ p 82 b = 5 ∨ p 82 b = 6 then (if p 84 (4 * b) = x then 0 else 2 * p 85 (4 * b)) else if p 82 b = 3 then (if p 84 (4 * b + 1) = x then 3 * p 85 (4 * b) + p 85 (4 * b + 1) else if p 84 (4 * b) = x then p 85 (4 * b) + 3 * p 85 (4 * b + 1) else 3 * p 85 (4 * b) + 3 * p 85 (4 * b + 1)) else 0
def cf (p : fr_M) (r i j : Int) : Int := cs p (p 77 (9 * r + i)) (if j = 9 then -9 else p 77 (9 * r + j))
def RC (p : fr_M) (r n : Int) : Prop := (0 ≤ r ∧ r < 6) ∧ p 76 r = n ∧ (0 < n ∧ n ≤ 9) ∧ (∀ k, 0 ≤ k → k < n → (0 ≤ p 77 (9 * r + k) ∧ p 77 (9 * r + k) < 40) ∧ (0 ≤ p 82 (p 77 (9 * r + k)) ∧ p 82 (p 77 (9 * r + k)) ≤ 6) ∧ (0 ≤ p 83 (p 77 (9 * r + k)) ∧ p 83 (p 77 (9 * r + k)) ≤ 4) ∧ (p 82 (p 77 (9 * r + k)) = 2 ∨ p 82 (p 77 (9 * r + k)) = 5 ∨ p 82 (p 77 (9 * r + k)) = 6 → 1 ≤ p 83 (p 77 (9 * r + k))) ∧ (p 82 (p 77 (9 * r + k)) = 3 → 2 ≤ p 83 (p 77 (9 * r + k))) ∧ (∀ w, 0 ≤ w → w < p 83 (p 77 (9 * r + k)) → 0 ≤ p 84 (4 * p 77 (9 * r + k) + w) ∧ ∃ j, (0 ≤ j ∧ j < n) ∧ p 77 (9 * r + j) = p 84 (4 * p 77 (9 * r + k) + w))) ∧ (∀ i j, 0 ≤ i → i < n → 0 ≤ j → j < n → p 77 (9 * r + i) = p 77 (9 * r + j) → i = j) ∧ (∀ i, 0 ≤ i → i < 160 → 0 ≤ p 85 i ∧ p 85 i ≤ 1000000)
theorem RC.cg {p q : fr_M} {r n : Int} (h : RC p r n) (e : ∀ k i, (76 ≤ k ∧ k ≤ 77) ∨ (82 ≤ k ∧ k ≤ 85) → q k i = p k i) : RC q r n := by
  have e' : ∀ k, (76 ≤ k ∧ k ≤ 77) ∨ (82 ≤ k ∧ k ≤ 85) → q k = p k := fun k hk => funext (fun i => e k i hk)
  unfold RC at h ⊢
  rw [e' 76 (by omega), e' 77 (by omega), e' 82 (by omega), e' 83 (by omega), e' 84 (by omega), e' 85 (by omega)]
  exact h
theorem cs_cg {p q : fr_M} {b x : Int} (e : ∀ k i, (76 ≤ k ∧ k ≤ 77) ∨ (82 ≤ k ∧ k ≤ 85) → q k i = p k i) : cs q b x = cs p b x := by
  unfold cs
  rw [e 82 _ (by omega), e 84 _ (by omega), e 84 _ (by omega), e 85 _ (by omega), e 85 _ (by omega)]
theorem cf_cg {p q : fr_M} {r i j : Int} (e : ∀ k i, (76 ≤ k ∧ k ≤ 77) ∨ (82 ≤ k ∧ k ≤ 85) → q k i = p k i) : cf q r i j = cf p r i j := by
  unfold cf
  rw [cs_cg e, e 77 _ (by omega), e 77 _ (by omega)]
theorem cs_b {p : fr_M} {b x : Int} (hb : 0 ≤ b ∧ b < 40) (h : ∀ i, 0 ≤ i → i < 160 → 0 ≤ p 85 i ∧ p 85 i ≤ 1000000) : 0 ≤ cs p b x ∧ cs p b x ≤ 6000000 := by
  have h0 := h (4 * b) (by omega) (by omega)
  have h1 := h (4 * b + 1) (by omega) (by omega)
  unfold cs
  (repeat' split) <;> omega
theorem cf_b {p : fr_M} {r n i j : Int} (h : RC p r n) (hi : 0 ≤ i ∧ i < n) : 0 ≤ cf p r i j ∧ cf p r i j ≤ 6000000 := cs_b (h.2.2.2.1 i hi.1 hi.2).1 h.2.2.2.2.2
theorem RC.bl {p : fr_M} {r n k : Int} (h : RC p r n) (hk : 0 ≤ k ∧ k < n) : (0 ≤ p 77 (9 * r + k) ∧ p 77 (9 * r + k) < 40) ∧ (0 ≤ p 82 (p 77 (9 * r + k)) ∧ p 82 (p 77 (9 * r + k)) ≤ 6) ∧ (0 ≤ p 83 (p 77 (9 * r + k)) ∧ p 83 (p 77 (9 * r + k)) ≤ 4) :=
  ⟨(h.2.2.2.1 k hk.1 hk.2).1, (h.2.2.2.1 k hk.1 hk.2).2.1, (h.2.2.2.1 k hk.1 hk.2).2.2.1⟩
def PC (M : fr_M) : Prop := P1 M ∧ P2 M ∧ P3 M ∧ P4 M ∧ P5 M ∧ P6 M ∧ P7 M
abbrev pk (k : Nat) (i : Int) : Prop := (1 ≤ k ∧ k ≤ 12) ∨ (k = 75 ∧ (i = 0 ∨ i = 4)) ∨ (76 ≤ k ∧ k ≤ 86)
def corP (M : fr_M) : fr_M := fun k i => if pk k i then M k i else 0
theorem PC.cg {M Y : fr_M} (h : PC M) (e : ∀ k i, pk k i → Y k i = M k i) : PC Y := by
  have ec : corP Y = corP M := by
    funext k i
    unfold corP
    split
    · next q => exact e k i q
    · rfl
  have c : ∀ (Z : fr_M → Prop), (∀ M, Z (corP M) = Z M) → Z M → Z Y := by
    intro Z hz hm
    rw [← hz, ec, hz]
    exact hm
  obtain ⟨h1, h2, h3, h4, h5, h6, h7⟩ := h
  exact ⟨c P1 (fun _ => rfl) h1, c P2 (fun _ => rfl) h2, c P3 (fun _ => rfl) h3, c P4 (fun _ => rfl) h4, c P5 (fun _ => rfl) h5, c P6 (fun _ => rfl) h6, c P7 (fun _ => rfl) h7⟩
theorem Rel.pc {n : Int} {M : fr_M} (h : Rel n M) : PC M := by
  obtain ⟨h0, h1, h2, h3, h4, h5, h6, h7, h8, o1, o2, o3, k1, k2, k3, k4, k5, t1, t2, s1, r1, r1', r2, r2', r3, r4, l⟩ := h
  exact ⟨h1, h2, h3, h4, h5, h6, h7⟩
theorem PC.rc {M : fr_M} (h : PC M) {r : Int} (hr : 0 ≤ r ∧ r < M 75 0) (h0 : 0 < M 76 r) : RC M r (M 76 r) := by
  obtain ⟨h1, h2, h3, h4, h5, h6, h7⟩ := h
  have p0 := h1.2.2.1
  have p4 := h1.2.2.2.2.2
  have hr6 : 0 ≤ r ∧ r < 6 := by omega
  have h2r := h2 r hr6.1 hr6.2
  refine ⟨hr6, rfl, ⟨h0, h2r.2.2.1⟩, fun k q0 q1 => ?_, fun i j a0 a1 b0 b1 e => ?_, fun i a0 a1 => (h7 i a0 a1).2⟩
  · have a := h3 r k hr6.1 hr6.2 q0 q1
    obtain ⟨a1, a2, a3, a4, a5, a6, a7, a8, -, -⟩ := h5 (M 77 (9 * r + k)) a.2.1 a.2.2.1
    refine ⟨⟨a.2.1, by omega⟩, ⟨a2, a3⟩, by omega, by omega, by omega, fun w w0 w1 => ?_⟩
    have c := h6 (M 77 (9 * r + k)) w a.2.1 a.2.2.1 w0 w1
    have d := h4 (M 84 (4 * M 77 (9 * r + k) + w)) c.2.1 c.2.2.1
    have e1 : M 79 (M 84 (4 * M 77 (9 * r + k) + w)) = r := c.2.2.2.trans a.2.2.2.1
    rw [e1] at d
    exact ⟨c.2.1, M 5 (M 84 (4 * M 77 (9 * r + k) + w)), ⟨d.2.2.2.1, d.2.2.2.2.1⟩, d.2.2.2.2.2.1⟩
  · have a := h3 r i hr6.1 hr6.2 a0 a1
    have b := h3 r j hr6.1 hr6.2 b0 b1
    rw [e] at a
    omega
set_option maxHeartbeats 4000000 in
set_option maxRecDepth 100000 in
theorem m_cost {M : fr_M} {b x : Int} {Q : Option fr_V → fr_H → fr_M → Prop} (hb : 0 ≤ b ∧ b < 40) (hk : 0 ≤ M 82 b ∧ M 82 b ≤ 6) (h85 : ∀ i, 0 ≤ i → i < 160 → 0 ≤ M 85 i ∧ M 85 i ≤ 1000000) (h : Q (some (.inl (cs M b x))) sh0 M) : fr_Call 159 [.inr (.inl 75), .inl b, .inl x] sh0 M Q := by
  have h0 := h85 (4 * b) (by omega) (by omega)
  have h1 := h85 (4 * b + 1) (by omega) (by omega)
  clear h85
  refine fr_cgo k159 [some (.inr (.inl 75)), some (.inl b), some (.inl x), none, none] 0 0 [] 400 rfl rfl rfl rfl ?_
  repeat' (first | (refine And.intro (by first | omega | (simp (disch := decide) only [up_n, up_s, cp_n, rw_n, rw_s, up1_, if_true, if_false, ite_true, ite_false, reduceIte, eq_self, Int.reduceEq, true_and, and_true, not_true_eq_false, not_false_eq_true]; omega)) ?_) | (refine And.intro (fun hc => ?_) (fun hc => ?_) <;> (try (simp (disch := decide) only [up_n, up_s, cp_n, rw_n, rw_s, up1_, if_true, if_false, ite_true, ite_false, reduceIte, eq_self, Int.reduceEq, true_and, and_true, not_true_eq_false, not_false_eq_true] at hc)) <;> (try (exfalso; omega))) | (refine fun (hc : ¬ _) => ?_; try (simp (disch := decide) only [up_n, up_s, cp_n, rw_n, rw_s, up1_, if_true, if_false, ite_true, ite_false, reduceIte, eq_self, Int.reduceEq, true_and, and_true, not_true_eq_false, not_false_eq_true] at hc)) | (refine fun (hc : _ = _) => ?_; try (simp (disch := decide) only [up_n, up_s, cp_n, rw_n, rw_s, up1_, if_true, if_false, ite_true, ite_false, reduceIte, eq_self, Int.reduceEq, true_and, and_true, not_true_eq_false, not_false_eq_true] at hc)))
  all_goals first | (exfalso; omega) | exact q_v h (by unfold cs; (repeat' split) <;> omega)
set_option maxHeartbeats 4000000 in
set_option maxRecDepth 100000 in
theorem c_priceOf {M : fr_M} {b x : Int} {Q : Option fr_V → fr_H → fr_M → Prop} (hP : PC M) (hb : 0 ≤ b ∧ b < M 75 4) (h : Q (some (.inl (cs M b x))) sh0 M) : fr_Call 21 [.inr (.inl 18), .inl b, .inl x] sh0 M Q := by
  obtain ⟨h1, h2, h3, h4, h5, h6, h7⟩ := hP
  have h40 := h1.2.2.2.2.2
  obtain ⟨a1, a2, a3, a4, a5, a6, a7, a8, -, -⟩ := h5 b hb.1 hb.2
  have w0 : 0 < M 83 b → M 11 (b * 4 + 0) = M 84 (4 * b) := fun q => by
    have := (h6 b 0 hb.1 hb.2 (by omega) q).1
    rw [this]
    congr 1
    omega
  have w1 : 1 < M 83 b → M 11 (b * 4 + 1) = M 84 (4 * b + 1) := fun q => (h6 b 1 hb.1 hb.2 (by omega) q).1
  have c0 : M 12 (b * 4 + 0) = M 85 (4 * b) ∧ 0 ≤ M 85 (4 * b) ∧ M 85 (4 * b) ≤ 1000000 := by
    have := h7 (4 * b) (by omega) (by omega)
    rw [show b * 4 + 0 = 4 * b by omega]
    exact this
  have c1 : M 12 (b * 4 + 1) = M 85 (4 * b + 1) ∧ 0 ≤ M 85 (4 * b + 1) ∧ M 85 (4 * b + 1) ≤ 1000000 := by
    have := h7 (4 * b + 1) (by omega) (by omega)
    rw [show b * 4 + 1 = 4 * b + 1 by omega]
    exact this
  clear h1 h2 h3 h4 h5 h6 h7
  refine fr_cgo k21 [some (.inr (.inl 18)), some (.inl b), some (.inl x), none, none] 0 0 [] 400 rfl rfl rfl rfl ?_
  repeat' (first | (refine And.intro (by first | omega | (simp (disch := decide) only [up_n, up_s, cp_n, rw_n, rw_s, up1_, if_true, if_false, ite_true, ite_false, reduceIte, eq_self, Int.reduceEq, true_and, and_true, not_true_eq_false, not_false_eq_true]; omega)) ?_) | (refine c_countOf (by omega) (by omega) (fun hc => ?_) (fun hc => ?_) <;> (try (simp (disch := decide) only [up_n, up_s, cp_n, rw_n, rw_s, up1_, if_true, if_false, ite_true, ite_false, reduceIte, eq_self, Int.reduceEq, true_and, and_true, not_true_eq_false, not_false_eq_true] at hc))) | (refine c_goesOn (by omega) (fun hc => ?_) (fun hc => ?_) <;> (try (simp (disch := decide) only [up_n, up_s, cp_n, rw_n, rw_s, up1_, if_true, if_false, ite_true, ite_false, reduceIte, eq_self, Int.reduceEq, true_and, and_true, not_true_eq_false, not_false_eq_true] at hc))) | (refine c_wayOf (by omega) (by omega) (fun hc => ?_) (fun hc => ?_) <;> (try (simp (disch := decide) only [up_n, up_s, cp_n, rw_n, rw_s, up1_, if_true, if_false, ite_true, ite_false, reduceIte, eq_self, Int.reduceEq, true_and, and_true, not_true_eq_false, not_false_eq_true] at hc))) | (refine And.intro (fun hc => ?_) (fun hc => ?_) <;> (try (simp (disch := decide) only [up_n, up_s, cp_n, rw_n, rw_s, up1_, if_true, if_false, ite_true, ite_false, reduceIte, eq_self, Int.reduceEq, true_and, and_true, not_true_eq_false, not_false_eq_true] at hc)) <;> (try (exfalso; omega))) | (refine fun (hc : ¬ _) => ?_; try (simp (disch := decide) only [up_n, up_s, cp_n, rw_n, rw_s, up1_, if_true, if_false, ite_true, ite_false, reduceIte, eq_self, Int.reduceEq, true_and, and_true, not_true_eq_false, not_false_eq_true] at hc)) | (refine fun (hc : _ = _) => ?_; try (simp (disch := decide) only [up_n, up_s, cp_n, rw_n, rw_s, up1_, if_true, if_false, ite_true, ite_false, reduceIte, eq_self, Int.reduceEq, true_and, and_true, not_true_eq_false, not_false_eq_true] at hc)))
  all_goals first | (exfalso; omega) | exact q_v h (by unfold cs; (repeat' split) <;> omega)
theorem cs_none {M : fr_M} {r n k : Int} (h : RC M r n) (hk : 0 ≤ k ∧ k < n) {x : Int} (hx : ∀ w, 0 ≤ w → w < M 83 (M 77 (9 * r + k)) → M 84 (4 * M 77 (9 * r + k) + w) ≠ x) : cs M (M 77 (9 * r + k)) x = cs M (M 77 (9 * r + k)) (-9) := by
  obtain ⟨b1, b2, b3, b4, b5, b6⟩ := h.2.2.2.1 k hk.1 hk.2
  generalize M 77 (9 * r + k) = b at *
  have e0 : 0 < M 83 b → M 84 (4 * b) ≠ x ∧ M 84 (4 * b) ≠ -9 := fun q => by
    have a := hx 0 (by omega) q
    have c := (b6 0 (by omega) q).1
    rw [show 4 * b + 0 = 4 * b by omega] at a c
    omega
  have e1 : 1 < M 83 b → M 84 (4 * b + 1) ≠ x ∧ M 84 (4 * b + 1) ≠ -9 := fun q => by
    have a := hx 1 (by omega) q
    have c := (b6 1 (by omega) q).1
    omega
  clear b6 hx
  unfold cs
  (repeat' split) <;> omega
/-- the prices that are written -/
def PT (f : Int → Int → Int) (n i : Int) (g : Int → Int) : Prop := ∀ i' j, 0 ≤ i' → i' < i → (0 ≤ j ∧ j < n) ∨ j = 9 → g (i' * 10 + j) = f i' j
set_option maxHeartbeats 4000000 in
set_option maxRecDepth 100000 in
theorem c_ld2 {M : fr_M} {r n i : Int} {Q : Option fr_V → fr_H → fr_M → Prop} (hP : PC M) (hR : RC M r n) (hn : M 18 2 = n) (hi : 0 ≤ i ∧ i < n) (h : ∀ g, PT (cf M r) n (i + 1) g → fr_Run 22 none 9 [some (.inr (.inl 18)), some (.inl r), some (.inl (i + 1)), some (.inl (M 77 (9 * r + i))), some (.inl n)] [] sh0 (rw_ M 19 g) 0 0 Q) : ∀ (t : Nat) (j : Int) (g : Int → Int), 0 ≤ j → j + t = n → PT (cf M r) n i g → (∀ j', 0 ≤ j' → j' < j → g (i * 10 + j') = cf M r i j') → fr_Run 22 none 21 [some (.inr (.inl 18)), some (.inl r), some (.inl i), some (.inl (M 77 (9 * r + i))), some (.inl j)] [] sh0 (rw_ M 19 g) 0 0 Q := by
  have hr := hR.1
  have hn9 := hR.2.2.1
  have hPg : ∀ g, PC (rw_ M 19 g) := fun g => hP.cg (fun k i hk => by rw [rw_n (by omega)])
  have hbi := hP.2.2.1 r i hr.1 hr.2 hi.1 (by rw [hR.2.1]; exact hi.2)
  have hp4 := hP.1.2.2.2.2.2
  intro t
  induction t with
  | zero =>
    intro j g q0 q1 q2 q3
    have e : j = n := by omega
    subst e
    have ec : cs (rw_ M 19 g) (M 77 (9 * r + i)) (-1) = cf M r i 9 := by
      show cs M (M 77 (9 * r + i)) (-1) = cs M (M 77 (9 * r + i)) (-9)
      exact cs_none hR hi (fun w w0 w1 => by
        have := ((hR.2.2.2.1 i hi.1 hi.2).2.2.2.2.2 w w0 w1).1
        omega)
    have hh := h (up1 g (i * 10 + 9) (cf M r i 9)) (fun i' j' a0 a1 a2 => by
      rw [up1_]
      by_cases e : i' = i
      · subst e
        split
        · next e2 => rw [show j' = 9 by omega]
        · exact q3 j' (by omega) (by omega)
      · rw [if_neg (by omega)]
        exact q2 i' j' a0 (by omega) a2)
    clear h
    refine fr_go k22 [9, 21] 400 rfl ?_
    repeat' (first | (refine And.intro (by first | omega | (simp (disch := decide) only [up_n, up_s, cp_n, rw_n, rw_s, up1_, if_true, if_false, ite_true, ite_false, reduceIte, eq_self, Int.reduceEq, true_and, and_true, not_true_eq_false, not_false_eq_true]; omega)) ?_) | (refine c_priceOf (hPg g) ⟨hbi.2.1, hbi.2.2.1⟩ ?_) | (refine And.intro (fun hc => ?_) (fun hc => ?_) <;> (try (simp (disch := decide) only [up_n, up_s, cp_n, rw_n, rw_s, up1_, if_true, if_false, ite_true, ite_false, reduceIte, eq_self, Int.reduceEq, true_and, and_true, not_true_eq_false, not_false_eq_true] at hc)) <;> (try (exfalso; omega))) | (refine fun (hc : ¬ _) => ?_; try (simp (disch := decide) only [up_n, up_s, cp_n, rw_n, rw_s, up1_, if_true, if_false, ite_true, ite_false, reduceIte, eq_self, Int.reduceEq, true_and, and_true, not_true_eq_false, not_false_eq_true] at hc)) | (refine fun (hc : _ = _) => ?_; try (simp (disch := decide) only [up_n, up_s, cp_n, rw_n, rw_s, up1_, if_true, if_false, ite_true, ite_false, reduceIte, eq_self, Int.reduceEq, true_and, and_true, not_true_eq_false, not_false_eq_true] at hc)))
    all_goals first | (exfalso; omega) | skip
    rw [ec]
    simp (disch := decide) only [up_rw, rw_u, up_up, rw_rw, rw_cm]
    exact hh
  | succ t ih =>
    intro j g q0 q1 q2 q3
    have hbj := hP.2.2.1 r j hr.1 hr.2 q0 (by rw [hR.2.1]; omega)
    have ec : cs (rw_ M 19 g) (M 77 (9 * r + i)) (M 77 (9 * r + j)) = cf M r i j := by
      show cs M (M 77 (9 * r + i)) (M 77 (9 * r + j)) = cs M (M 77 (9 * r + i)) (if j = 9 then -9 else M 77 (9 * r + j))
      rw [if_neg (by omega)]
    have hh := ih (j + 1) (up1 g (i * 10 + j) (cf M r i j)) (by omega) (by omega) (fun i' j' a0 a1 a2 => by
      rw [up1_, if_neg (by omega)]
      exact q2 i' j' a0 a1 a2) (fun j' a0 a1 => by
      rw [up1_]
      by_cases e : j' = j
      · rw [if_pos (by omega), e]
      · rw [if_neg (by omega)]
        exact q3 j' a0 (by omega))
    clear ih h
    refine fr_go k22 [9, 21] 400 rfl ?_
    repeat' (first | (refine And.intro (by first | omega | (simp (disch := decide) only [up_n, up_s, cp_n, rw_n, rw_s, up1_, if_true, if_false, ite_true, ite_false, reduceIte, eq_self, Int.reduceEq, true_and, and_true, not_true_eq_false, not_false_eq_true]; omega)) ?_) | (refine c_ownBlock (by omega) (by omega) ?_) | (refine And.intro (fun hc => ?_) (fun hc => ?_) <;> (try (simp (disch := decide) only [up_n, up_s, cp_n, rw_n, rw_s, up1_, if_true, if_false, ite_true, ite_false, reduceIte, eq_self, Int.reduceEq, true_and, and_true, not_true_eq_false, not_false_eq_true] at hc)) <;> (try (exfalso; omega))) | (refine fun (hc : ¬ _) => ?_; try (simp (disch := decide) only [up_n, up_s, cp_n, rw_n, rw_s, up1_, if_true, if_false, ite_true, ite_false, reduceIte, eq_self, Int.reduceEq, true_and, and_true, not_true_eq_false, not_false_eq_true] at hc)) | (refine fun (hc : _ = _) => ?_; try (simp (disch := decide) only [up_n, up_s, cp_n, rw_n, rw_s, up1_, if_true, if_false, ite_true, ite_false, reduceIte, eq_self, Int.reduceEq, true_and, and_true, not_true_eq_false, not_false_eq_true] at hc)))
    all_goals first | (exfalso; omega) | skip
    all_goals (show fr_Call 21 _ sh0 _ _)
    simp (disch := decide) only [up_n, up_s, cp_n, rw_n, rw_s, up1_, if_true, if_false, ite_true, ite_false, reduceIte, eq_self, Int.reduceEq, true_and, and_true, not_true_eq_false, not_false_eq_true]
    rw [hbj.1]
    refine c_priceOf (hPg g) ⟨hbi.2.1, hbi.2.2.1⟩ ?_
    rw [ec]
    repeat' (first | (refine And.intro (by first | omega | (simp (disch := decide) only [up_n, up_s, cp_n, rw_n, rw_s, up1_, if_true, if_false, ite_true, ite_false, reduceIte, eq_self, Int.reduceEq, true_and, and_true, not_true_eq_false, not_false_eq_true]; omega)) ?_) | (refine And.intro (fun hc => ?_) (fun hc => ?_) <;> (try (simp (disch := decide) only [up_n, up_s, cp_n, rw_n, rw_s, up1_, if_true, if_false, ite_true, ite_false, reduceIte, eq_self, Int.reduceEq, true_and, and_true, not_true_eq_false, not_false_eq_true] at hc)) <;> (try (exfalso; omega))) | (refine fun (hc : ¬ _) => ?_; try (simp (disch := decide) only [up_n, up_s, cp_n, rw_n, rw_s, up1_, if_true, if_false, ite_true, ite_false, reduceIte, eq_self, Int.reduceEq, true_and, and_true, not_true_eq_false, not_false_eq_true] at hc)) | (refine fun (hc : _ = _) => ?_; try (simp (disch := decide) only [up_n, up_s, cp_n, rw_n, rw_s, up1_, if_true, if_false, ite_true, ite_false, reduceIte, eq_self, Int.reduceEq, true_and, and_true, not_true_eq_false, not_false_eq_true] at hc)))
    all_goals first | (exfalso; omega) | skip
    simp (disch := decide) only [up_rw, rw_u, up_up, rw_rw, rw_cm]
    exact hh
set_option maxHeartbeats 4000000 in
set_option maxRecDepth 100000 in
theorem c_ld1 {M : fr_M} {r n : Int} {Q : Option fr_V → fr_H → fr_M → Prop} (hP : PC M) (hR : RC M r n) (hn : M 18 2 = n) (h : ∀ g, PT (cf M r) n n g → Q none sh0 (rw_ M 19 g)) : ∀ (t : Nat) (i : Int) (g : Int → Int) (x3 x4 : Option fr_V), 0 ≤ i → i + t = n → PT (cf M r) n i g → fr_Run 22 none 9 [some (.inr (.inl 18)), some (.inl r), some (.inl i), x3, x4] [] sh0 (rw_ M 19 g) 0 0 Q := by
  have hr := hR.1
  have hn9 := hR.2.2.1
  intro t
  induction t with
  | zero =>
    intro i g x3 x4 q0 q1 q2
    have e : i = n := by omega
    subst e
    have hh := h g q2
    clear h
    refine fr_go k22 [9] 400 rfl ?_
    repeat' (first | (refine And.intro (by first | omega | (simp (disch := decide) only [up_n, up_s, cp_n, rw_n, rw_s, up1_, if_true, if_false, ite_true, ite_false, reduceIte, eq_self, Int.reduceEq, true_and, and_true, not_true_eq_false, not_false_eq_true]; omega)) ?_) | (refine And.intro (fun hc => ?_) (fun hc => ?_) <;> (try (simp (disch := decide) only [up_n, up_s, cp_n, rw_n, rw_s, up1_, if_true, if_false, ite_true, ite_false, reduceIte, eq_self, Int.reduceEq, true_and, and_true, not_true_eq_false, not_false_eq_true] at hc)) <;> (try (exfalso; omega))) | (refine fun (hc : ¬ _) => ?_; try (simp (disch := decide) only [up_n, up_s, cp_n, rw_n, rw_s, up1_, if_true, if_false, ite_true, ite_false, reduceIte, eq_self, Int.reduceEq, true_and, and_true, not_true_eq_false, not_false_eq_true] at hc)) | (refine fun (hc : _ = _) => ?_; try (simp (disch := decide) only [up_n, up_s, cp_n, rw_n, rw_s, up1_, if_true, if_false, ite_true, ite_false, reduceIte, eq_self, Int.reduceEq, true_and, and_true, not_true_eq_false, not_false_eq_true] at hc)))
    all_goals first | (exfalso; omega) | exact hh
  | succ t ih =>
    intro i g x3 x4 q0 q1 q2
    have hbi := hP.2.2.1 r i hr.1 hr.2 q0 (by rw [hR.2.1]; omega)
    have hh := c_ld2 (Q := Q) (i := i) hP hR hn (by omega) (fun g' hg' => ih (i + 1) g' _ _ (by omega) (by omega) hg') n.toNat 0 g (by omega) (by omega) q2 (fun j' a0 a1 => by omega)
    rw [← hbi.1] at hh
    clear ih h
    refine fr_go k22 [9, 21] 400 rfl ?_
    repeat' (first | (refine And.intro (by first | omega | (simp (disch := decide) only [up_n, up_s, cp_n, rw_n, rw_s, up1_, if_true, if_false, ite_true, ite_false, reduceIte, eq_self, Int.reduceEq, true_and, and_true, not_true_eq_false, not_false_eq_true]; omega)) ?_) | (refine c_ownBlock (by omega) (by omega) ?_) | (refine And.intro (fun hc => ?_) (fun hc => ?_) <;> (try (simp (disch := decide) only [up_n, up_s, cp_n, rw_n, rw_s, up1_, if_true, if_false, ite_true, ite_false, reduceIte, eq_self, Int.reduceEq, true_and, and_true, not_true_eq_false, not_false_eq_true] at hc)) <;> (try (exfalso; omega))) | (refine fun (hc : ¬ _) => ?_; try (simp (disch := decide) only [up_n, up_s, cp_n, rw_n, rw_s, up1_, if_true, if_false, ite_true, ite_false, reduceIte, eq_self, Int.reduceEq, true_and, and_true, not_true_eq_false, not_false_eq_true] at hc)) | (refine fun (hc : _ = _) => ?_; try (simp (disch := decide) only [up_n, up_s, cp_n, rw_n, rw_s, up1_, if_true, if_false, ite_true, ite_false, reduceIte, eq_self, Int.reduceEq, true_and, and_true, not_true_eq_false, not_false_eq_true] at hc)))
    all_goals first | (exfalso; omega) | exact hh
set_option maxHeartbeats 4000000 in
set_option maxRecDepth 100000 in
theorem c_load {M : fr_M} {r n : Int} {Q : Option fr_V → fr_H → fr_M → Prop} (hP : PC M) (hR : RC M r n) (h : ∀ g, PT (cf M r) n n g → Q none sh0 (rw_ (fr_up M 18 2 n) 19 g)) : fr_Call 22 [.inr (.inl 18), .inl r] sh0 M Q := by
  have hr := hR.1
  have h2 := (hP.2.1 r hr.1 hr.2).1
  have hn := hR.2.1
  have hPu : PC (fr_up M 18 2 n) := hP.cg (fun k i hk => up_x (by omega))
  have hRu : RC (fr_up M 18 2 n) r n := hR.cg (fun k i hk => up_x (by omega))
  have hh := c_ld1 (M := fr_up M 18 2 n) (Q := Q) hPu hRu rfl (fun g hg => h g hg) n.toNat 0 (M 19) none none (by omega) (by have := hR.2.2.1; omega) (fun i' j a0 a1 => by omega)
  clear h
  refine fr_cgo k22 [some (.inr (.inl 18)), some (.inl r), none, none, none] 0 0 [9] 400 rfl rfl rfl rfl ?_
  repeat' (first | (refine And.intro (by first | omega | (simp (disch := decide) only [up_n, up_s, cp_n, rw_n, rw_s, up1_, if_true, if_false, ite_true, ite_false, reduceIte, eq_self, Int.reduceEq, true_and, and_true, not_true_eq_false, not_false_eq_true]; omega)) ?_) | (refine And.intro (fun hc => ?_) (fun hc => ?_) <;> (try (simp (disch := decide) only [up_n, up_s, cp_n, rw_n, rw_s, up1_, if_true, if_false, ite_true, ite_false, reduceIte, eq_self, Int.reduceEq, true_and, and_true, not_true_eq_false, not_false_eq_true] at hc)) <;> (try (exfalso; omega))) | (refine fun (hc : ¬ _) => ?_; try (simp (disch := decide) only [up_n, up_s, cp_n, rw_n, rw_s, up1_, if_true, if_false, ite_true, ite_false, reduceIte, eq_self, Int.reduceEq, true_and, and_true, not_true_eq_false, not_false_eq_true] at hc)) | (refine fun (hc : _ = _) => ?_; try (simp (disch := decide) only [up_n, up_s, cp_n, rw_n, rw_s, up1_, if_true, if_false, ite_true, ite_false, reduceIte, eq_self, Int.reduceEq, true_and, and_true, not_true_eq_false, not_false_eq_true] at hc)))
  all_goals first | (exfalso; omega) | skip
  rw [show M 2 r = n by omega]
  exact q_run hh rw_id
set_option maxHeartbeats 4000000 in
set_option maxRecDepth 100000 in
theorem c_rr_l {M : fr_M} {r n : Int} {Q : Option fr_V → fr_H → fr_M → Prop} (hr : 0 ≤ r ∧ r < 6) (hn : M 2 r = n ∧ 0 ≤ n ∧ n ≤ 9) (hb : ∀ i, 0 ≤ i → i < n → 0 ≤ M 14 (r * 9 + i) ∧ M 14 (r * 9 + i) < 40) (h : ∀ g, (∀ i, 0 ≤ i → i < n → g i = M 5 (M 14 (r * 9 + i))) → Q none sh0 (rw_ M 74 g)) : ∀ (t : Nat) (i : Int) (g : Int → Int), 0 ≤ i → i + t = n → (∀ j, 0 ≤ j → j < i → g j = M 5 (M 14 (r * 9 + j))) → fr_Run 50 none 2 [some (.inr (.inl 13)), some (.inl r), some (.inr (.inl 74)), some (.inl i)] [] sh0 (rw_ M 74 g) 0 0 Q := by
  intro t
  induction t with
  | zero =>
    intro i g q0 q1 q2
    have e : i = n := by omega
    subst e
    have hh := h g q2
    clear h
    refine fr_go k50 [2] 400 rfl ?_
    repeat' (first | (refine And.intro (by first | omega | (simp (disch := decide) only [up_n, up_s, cp_n, rw_n, rw_s, up1_, if_true, if_false, ite_true, ite_false, reduceIte, eq_self, Int.reduceEq, true_and, and_true, not_true_eq_false, not_false_eq_true]; omega)) ?_) | (refine And.intro (fun hc => ?_) (fun hc => ?_) <;> (try (simp (disch := decide) only [up_n, up_s, cp_n, rw_n, rw_s, up1_, if_true, if_false, ite_true, ite_false, reduceIte, eq_self, Int.reduceEq, true_and, and_true, not_true_eq_false, not_false_eq_true] at hc)) <;> (try (exfalso; omega))) | (refine fun (hc : ¬ _) => ?_; try (simp (disch := decide) only [up_n, up_s, cp_n, rw_n, rw_s, up1_, if_true, if_false, ite_true, ite_false, reduceIte, eq_self, Int.reduceEq, true_and, and_true, not_true_eq_false, not_false_eq_true] at hc)) | (refine fun (hc : _ = _) => ?_; try (simp (disch := decide) only [up_n, up_s, cp_n, rw_n, rw_s, up1_, if_true, if_false, ite_true, ite_false, reduceIte, eq_self, Int.reduceEq, true_and, and_true, not_true_eq_false, not_false_eq_true] at hc)))
    all_goals first | (exfalso; omega) | exact hh
  | succ t ih =>
    intro i g q0 q1 q2
    have hbi := hb i q0 (by omega)
    have hh := ih (i + 1) (up1 g i (M 5 (M 14 (r * 9 + i)))) (by omega) (by omega) (fun j a0 a1 => by
      rw [up1_]
      split
      · next e => rw [e]
      · exact q2 j a0 (by omega))
    clear ih h hb
    refine fr_go k50 [2] 400 rfl ?_
    repeat' (first | (refine And.intro (by first | omega | (simp (disch := decide) only [up_n, up_s, cp_n, rw_n, rw_s, up1_, if_true, if_false, ite_true, ite_false, reduceIte, eq_self, Int.reduceEq, true_and, and_true, not_true_eq_false, not_false_eq_true]; omega)) ?_) | (refine And.intro (fun hc => ?_) (fun hc => ?_) <;> (try (simp (disch := decide) only [up_n, up_s, cp_n, rw_n, rw_s, up1_, if_true, if_false, ite_true, ite_false, reduceIte, eq_self, Int.reduceEq, true_and, and_true, not_true_eq_false, not_false_eq_true] at hc)) <;> (try (exfalso; omega))) | (refine fun (hc : ¬ _) => ?_; try (simp (disch := decide) only [up_n, up_s, cp_n, rw_n, rw_s, up1_, if_true, if_false, ite_true, ite_false, reduceIte, eq_self, Int.reduceEq, true_and, and_true, not_true_eq_false, not_false_eq_true] at hc)) | (refine fun (hc : _ = _) => ?_; try (simp (disch := decide) only [up_n, up_s, cp_n, rw_n, rw_s, up1_, if_true, if_false, ite_true, ite_false, reduceIte, eq_self, Int.reduceEq, true_and, and_true, not_true_eq_false, not_false_eq_true] at hc)))
    all_goals first | (exfalso; omega) | skip
    simp (disch := decide) only [up_n, up_s, cp_n, rw_n, rw_s, up1_, if_true, if_false, ite_true, ite_false, reduceIte, eq_self, Int.reduceEq, true_and, and_true, not_true_eq_false, not_false_eq_true]
    simp (disch := decide) only [up_rw, rw_u, up_up, rw_rw, rw_cm]
    exact hh
set_option maxHeartbeats 4000000 in
set_option maxRecDepth 100000 in
theorem c_readRanks {M : fr_M} {r n : Int} {Q : Option fr_V → fr_H → fr_M → Prop} (hr : 0 ≤ r ∧ r < 6) (hn : M 2 r = n ∧ 0 ≤ n ∧ n ≤ 9) (hb : ∀ i, 0 ≤ i → i < n → 0 ≤ M 14 (r * 9 + i) ∧ M 14 (r * 9 + i) < 40) (h : ∀ g, (∀ i, 0 ≤ i → i < n → g i = M 5 (M 14 (r * 9 + i))) → Q none sh0 (rw_ M 74 g)) : fr_Call 50 [.inr (.inl 13), .inl r, .inr (.inl 74)] sh0 M Q := by
  refine fr_cgo k50 [some (.inr (.inl 13)), some (.inl r), some (.inr (.inl 74)), none] 0 0 [2] 400 rfl rfl rfl rfl ?_
  repeat' (first | (refine And.intro (by first | omega | (simp (disch := decide) only [up_n, up_s, cp_n, rw_n, rw_s, up1_, if_true, if_false, ite_true, ite_false, reduceIte, eq_self, Int.reduceEq, true_and, and_true, not_true_eq_false, not_false_eq_true]; omega)) ?_) | (refine And.intro (fun hc => ?_) (fun hc => ?_) <;> (try (simp (disch := decide) only [up_n, up_s, cp_n, rw_n, rw_s, up1_, if_true, if_false, ite_true, ite_false, reduceIte, eq_self, Int.reduceEq, true_and, and_true, not_true_eq_false, not_false_eq_true] at hc)) <;> (try (exfalso; omega))) | (refine fun (hc : ¬ _) => ?_; try (simp (disch := decide) only [up_n, up_s, cp_n, rw_n, rw_s, up1_, if_true, if_false, ite_true, ite_false, reduceIte, eq_self, Int.reduceEq, true_and, and_true, not_true_eq_false, not_false_eq_true] at hc)) | (refine fun (hc : _ = _) => ?_; try (simp (disch := decide) only [up_n, up_s, cp_n, rw_n, rw_s, up1_, if_true, if_false, ite_true, ite_false, reduceIte, eq_self, Int.reduceEq, true_and, and_true, not_true_eq_false, not_false_eq_true] at hc)))
  exact q_run (c_rr_l hr hn hb h n.toNat 0 (M 74) (by omega) (by omega) (fun j a0 a1 => by omega)) rw_id
set_option maxHeartbeats 4000000 in
set_option maxRecDepth 100000 in
theorem c_between {M : fr_M} {i j : Int} {Q : Option fr_V → fr_H → fr_M → Prop} (hi : 0 ≤ i ∧ i < 9) (hj : 0 ≤ j ∧ j ≤ 9) (h : Q (some (.inl (M 19 (i * 10 + j)))) sh0 M) : fr_Call 2 [.inr (.inl 18), .inl i, .inl j] sh0 M Q := by
  refine fr_cgo k2 [some (.inr (.inl 18)), some (.inl i), some (.inl j)] 0 0 [] 400 rfl rfl rfl rfl ?_
  repeat' (first | (refine And.intro (by first | omega | (simp (disch := decide) only [up_n, up_s, cp_n, rw_n, rw_s, up1_, if_true, if_false, ite_true, ite_false, reduceIte, eq_self, Int.reduceEq, true_and, and_true, not_true_eq_false, not_false_eq_true]; omega)) ?_) | (refine And.intro (fun hc => ?_) (fun hc => ?_) <;> (try (simp (disch := decide) only [up_n, up_s, cp_n, rw_n, rw_s, up1_, if_true, if_false, ite_true, ite_false, reduceIte, eq_self, Int.reduceEq, true_and, and_true, not_true_eq_false, not_false_eq_true] at hc)) <;> (try (exfalso; omega))) | (refine fun (hc : ¬ _) => ?_; try (simp (disch := decide) only [up_n, up_s, cp_n, rw_n, rw_s, up1_, if_true, if_false, ite_true, ite_false, reduceIte, eq_self, Int.reduceEq, true_and, and_true, not_true_eq_false, not_false_eq_true] at hc)) | (refine fun (hc : _ = _) => ?_; try (simp (disch := decide) only [up_n, up_s, cp_n, rw_n, rw_s, up1_, if_true, if_false, ite_true, ite_false, reduceIte, eq_self, Int.reduceEq, true_and, and_true, not_true_eq_false, not_false_eq_true] at hc)))
  all_goals first | (exfalso; omega) | exact h
/-- the weight of an order of ranks -/
def ws (f : Int → Int → Int) (n : Int) (rk : Int → Int) : Nat → Int
  | 0 => 0
  | k + 1 => ws f n rk k + f (rk (k : Int)) (if (k : Int) + 1 < n then rk ((k : Int) + 1) else 9)
theorem ws_b {f : Int → Int → Int} {n : Int} {rk : Int → Int} (hf : ∀ i j, 0 ≤ i → i < n → 0 ≤ f i j ∧ f i j ≤ 6000000) (hr : ∀ i, 0 ≤ i → i < n → 0 ≤ rk i ∧ rk i < n) : ∀ k : Nat, (k : Int) ≤ n → 0 ≤ ws f n rk k ∧ ws f n rk k ≤ 6000000 * (k : Int)
  | 0, _ => ⟨Int.le_refl 0, Int.le_refl 0⟩
  | k + 1, h => by
    have a := ws_b hf hr k (by omega)
    have b := hr (k : Int) (by omega) (by omega)
    have c := hf (rk (k : Int)) (if (k : Int) + 1 < n then rk ((k : Int) + 1) else 9) b.1 b.2
    rw [ws]
    omega
theorem ws_cg {f f' : Int → Int → Int} {n : Int} {rk rk' : Int → Int} (hr : ∀ i, 0 ≤ i → i < n → rk i = rk' i ∧ 0 ≤ rk i ∧ rk i < n) (hf : ∀ i j, 0 ≤ i → i < n → (0 ≤ j ∧ j < n) ∨ j = 9 → f i j = f' i j) : ∀ k : Nat, (k : Int) ≤ n → ws f n rk k = ws f' n rk' k
  | 0, _ => rfl
  | k + 1, h => by
    have a := ws_cg hr hf k (by omega)
    have b := hr (k : Int) (by omega) (by omega)
    rw [ws, ws, a, b.1]
    congr 1
    by_cases e : (k : Int) + 1 < n
    · have c := hr ((k : Int) + 1) (by omega) e
      rw [if_pos e, if_pos e, c.1]
      exact hf _ _ (by omega) (by omega) (by omega)
    · rw [if_neg e, if_neg e]
      exact hf _ _ (by omega) (by omega) (by omega)
set_option maxHeartbeats 4000000 in
set_option maxRecDepth 100000 in
theorem c_wg_l_74 {M : fr_M} {n : Int} {f : Int → Int → Int} {rk : Int → Int} {Q : Option fr_V → fr_H → fr_M → Prop} (hn : M 18 2 = n ∧ 0 < n ∧ n ≤ 9) (hr : ∀ i, 0 ≤ i → i < n → M 74 i = rk i ∧ 0 ≤ rk i ∧ rk i < n) (hf : ∀ i j, 0 ≤ i → i < n → 0 ≤ f i j ∧ f i j ≤ 6000000) (hp : PT f n n (M 19)) (h : Q (some (.inl (ws f n rk n.toNat))) sh0 M) : ∀ (t k : Nat), (k : Int) + t = n → fr_Run 23 none 4 [some (.inr (.inl 18)), some (.inr (.inl 74)), some (.inl (ws f n rk k)), some (.inl (k : Int))] [] sh0 M 0 0 Q := by
  intro t
  induction t with
  | zero =>
    intro k q0
    have e : n.toNat = k := by omega
    rw [e] at h
    refine fr_go k23 [4] 400 rfl ?_
    repeat' (first | (refine And.intro (by first | omega | (simp (disch := decide) only [up_n, up_s, cp_n, rw_n, rw_s, up1_, if_true, if_false, ite_true, ite_false, reduceIte, eq_self, Int.reduceEq, true_and, and_true, not_true_eq_false, not_false_eq_true]; omega)) ?_) | (refine And.intro (fun hc => ?_) (fun hc => ?_) <;> (try (simp (disch := decide) only [up_n, up_s, cp_n, rw_n, rw_s, up1_, if_true, if_false, ite_true, ite_false, reduceIte, eq_self, Int.reduceEq, true_and, and_true, not_true_eq_false, not_false_eq_true] at hc)) <;> (try (exfalso; omega))) | (refine fun (hc : ¬ _) => ?_; try (simp (disch := decide) only [up_n, up_s, cp_n, rw_n, rw_s, up1_, if_true, if_false, ite_true, ite_false, reduceIte, eq_self, Int.reduceEq, true_and, and_true, not_true_eq_false, not_false_eq_true] at hc)) | (refine fun (hc : _ = _) => ?_; try (simp (disch := decide) only [up_n, up_s, cp_n, rw_n, rw_s, up1_, if_true, if_false, ite_true, ite_false, reduceIte, eq_self, Int.reduceEq, true_and, and_true, not_true_eq_false, not_false_eq_true] at hc)))
    all_goals first | (exfalso; omega) | exact h
  | succ t ih =>
    intro k q0
    have hh := ih (k + 1) (by omega)
    have hb := ws_b hf (fun i a0 a1 => (hr i a0 a1).2) k (by omega)
    have hk := hr (k : Int) (by omega) (by omega)
    have hfb := fun j => hf (rk (k : Int)) j hk.2.1 hk.2.2
    rw [ws, show ((k + 1 : Nat) : Int) = (k : Int) + 1 by omega] at hh
    by_cases e : (k : Int) + 1 < n
    · have hk1 := hr ((k : Int) + 1) (by omega) e
      have h19 := hp (rk (k : Int)) (rk ((k : Int) + 1)) hk.2.1 hk.2.2 (by omega)
      have hfb := hfb (rk ((k : Int) + 1))
      rw [if_pos e] at hh
      clear ih h hp hr hf
      refine fr_go k23 [4] 400 rfl ?_
      repeat' (first | (refine And.intro (by first | omega | (simp (disch := decide) only [up_n, up_s, cp_n, rw_n, rw_s, up1_, if_true, if_false, ite_true, ite_false, reduceIte, eq_self, Int.reduceEq, true_and, and_true, not_true_eq_false, not_false_eq_true]; omega)) ?_) | (refine And.intro (fun hc => ?_) (fun hc => ?_) <;> (try (simp (disch := decide) only [up_n, up_s, cp_n, rw_n, rw_s, up1_, if_true, if_false, ite_true, ite_false, reduceIte, eq_self, Int.reduceEq, true_and, and_true, not_true_eq_false, not_false_eq_true] at hc)) <;> (try (exfalso; omega))) | (refine fun (hc : ¬ _) => ?_; try (simp (disch := decide) only [up_n, up_s, cp_n, rw_n, rw_s, up1_, if_true, if_false, ite_true, ite_false, reduceIte, eq_self, Int.reduceEq, true_and, and_true, not_true_eq_false, not_false_eq_true] at hc)) | (refine fun (hc : _ = _) => ?_; try (simp (disch := decide) only [up_n, up_s, cp_n, rw_n, rw_s, up1_, if_true, if_false, ite_true, ite_false, reduceIte, eq_self, Int.reduceEq, true_and, and_true, not_true_eq_false, not_false_eq_true] at hc)))
      all_goals first | (exfalso; omega) | skip
      all_goals (show fr_Call 2 _ sh0 _ _)
      rw [hk.1, hk1.1]
      refine c_between (by omega) (by omega) ?_
      rw [h19]
      repeat' (first | (refine And.intro (by first | omega | (simp (disch := decide) only [up_n, up_s, cp_n, rw_n, rw_s, up1_, if_true, if_false, ite_true, ite_false, reduceIte, eq_self, Int.reduceEq, true_and, and_true, not_true_eq_false, not_false_eq_true]; omega)) ?_) | (refine And.intro (fun hc => ?_) (fun hc => ?_) <;> (try (simp (disch := decide) only [up_n, up_s, cp_n, rw_n, rw_s, up1_, if_true, if_false, ite_true, ite_false, reduceIte, eq_self, Int.reduceEq, true_and, and_true, not_true_eq_false, not_false_eq_true] at hc)) <;> (try (exfalso; omega))) | (refine fun (hc : ¬ _) => ?_; try (simp (disch := decide) only [up_n, up_s, cp_n, rw_n, rw_s, up1_, if_true, if_false, ite_true, ite_false, reduceIte, eq_self, Int.reduceEq, true_and, and_true, not_true_eq_false, not_false_eq_true] at hc)) | (refine fun (hc : _ = _) => ?_; try (simp (disch := decide) only [up_n, up_s, cp_n, rw_n, rw_s, up1_, if_true, if_false, ite_true, ite_false, reduceIte, eq_self, Int.reduceEq, true_and, and_true, not_true_eq_false, not_false_eq_true] at hc)))
      all_goals first | (exfalso; omega) | exact hh
    · have h19 := hp (rk (k : Int)) 9 hk.2.1 hk.2.2 (by omega)
      have hfb := hfb 9
      rw [if_neg e] at hh
      clear ih h hp hr hf
      refine fr_go k23 [4] 400 rfl ?_
      repeat' (first | (refine And.intro (by first | omega | (simp (disch := decide) only [up_n, up_s, cp_n, rw_n, rw_s, up1_, if_true, if_false, ite_true, ite_false, reduceIte, eq_self, Int.reduceEq, true_and, and_true, not_true_eq_false, not_false_eq_true]; omega)) ?_) | (refine And.intro (fun hc => ?_) (fun hc => ?_) <;> (try (simp (disch := decide) only [up_n, up_s, cp_n, rw_n, rw_s, up1_, if_true, if_false, ite_true, ite_false, reduceIte, eq_self, Int.reduceEq, true_and, and_true, not_true_eq_false, not_false_eq_true] at hc)) <;> (try (exfalso; omega))) | (refine fun (hc : ¬ _) => ?_; try (simp (disch := decide) only [up_n, up_s, cp_n, rw_n, rw_s, up1_, if_true, if_false, ite_true, ite_false, reduceIte, eq_self, Int.reduceEq, true_and, and_true, not_true_eq_false, not_false_eq_true] at hc)) | (refine fun (hc : _ = _) => ?_; try (simp (disch := decide) only [up_n, up_s, cp_n, rw_n, rw_s, up1_, if_true, if_false, ite_true, ite_false, reduceIte, eq_self, Int.reduceEq, true_and, and_true, not_true_eq_false, not_false_eq_true] at hc)))
      all_goals first | (exfalso; omega) | skip
      all_goals (show fr_Call 2 _ sh0 _ _)
      rw [hk.1]
      refine c_between (by omega) (by omega) ?_
      rw [h19]
      repeat' (first | (refine And.intro (by first | omega | (simp (disch := decide) only [up_n, up_s, cp_n, rw_n, rw_s, up1_, if_true, if_false, ite_true, ite_false, reduceIte, eq_self, Int.reduceEq, true_and, and_true, not_true_eq_false, not_false_eq_true]; omega)) ?_) | (refine And.intro (fun hc => ?_) (fun hc => ?_) <;> (try (simp (disch := decide) only [up_n, up_s, cp_n, rw_n, rw_s, up1_, if_true, if_false, ite_true, ite_false, reduceIte, eq_self, Int.reduceEq, true_and, and_true, not_true_eq_false, not_false_eq_true] at hc)) <;> (try (exfalso; omega))) | (refine fun (hc : ¬ _) => ?_; try (simp (disch := decide) only [up_n, up_s, cp_n, rw_n, rw_s, up1_, if_true, if_false, ite_true, ite_false, reduceIte, eq_self, Int.reduceEq, true_and, and_true, not_true_eq_false, not_false_eq_true] at hc)) | (refine fun (hc : _ = _) => ?_; try (simp (disch := decide) only [up_n, up_s, cp_n, rw_n, rw_s, up1_, if_true, if_false, ite_true, ite_false, reduceIte, eq_self, Int.reduceEq, true_and, and_true, not_true_eq_false, not_false_eq_true] at hc)))
      all_goals first | (exfalso; omega) | exact hh
set_option maxHeartbeats 4000000 in
set_option maxRecDepth 100000 in
theorem c_weigh_74 {M : fr_M} {n : Int} {f : Int → Int → Int} {rk : Int → Int} {Q : Option fr_V → fr_H → fr_M → Prop} (hn : M 18 2 = n ∧ 0 < n ∧ n ≤ 9) (hr : ∀ i, 0 ≤ i → i < n → M 74 i = rk i ∧ 0 ≤ rk i ∧ rk i < n) (hf : ∀ i j, 0 ≤ i → i < n → 0 ≤ f i j ∧ f i j ≤ 6000000) (hp : PT f n n (M 19)) (h : Q (some (.inl (ws f n rk n.toNat))) sh0 M) : fr_Call 23 [.inr (.inl 18), .inr (.inl 74)] sh0 M Q := by
  refine fr_cgo k23 [some (.inr (.inl 18)), some (.inr (.inl 74)), none, none] 0 0 [4] 400 rfl rfl rfl rfl ?_
  repeat' (first | (refine And.intro (by first | omega | (simp (disch := decide) only [up_n, up_s, cp_n, rw_n, rw_s, up1_, if_true, if_false, ite_true, ite_false, reduceIte, eq_self, Int.reduceEq, true_and, and_true, not_true_eq_false, not_false_eq_true]; omega)) ?_) | (refine And.intro (fun hc => ?_) (fun hc => ?_) <;> (try (simp (disch := decide) only [up_n, up_s, cp_n, rw_n, rw_s, up1_, if_true, if_false, ite_true, ite_false, reduceIte, eq_self, Int.reduceEq, true_and, and_true, not_true_eq_false, not_false_eq_true] at hc)) <;> (try (exfalso; omega))) | (refine fun (hc : ¬ _) => ?_; try (simp (disch := decide) only [up_n, up_s, cp_n, rw_n, rw_s, up1_, if_true, if_false, ite_true, ite_false, reduceIte, eq_self, Int.reduceEq, true_and, and_true, not_true_eq_false, not_false_eq_true] at hc)) | (refine fun (hc : _ = _) => ?_; try (simp (disch := decide) only [up_n, up_s, cp_n, rw_n, rw_s, up1_, if_true, if_false, ite_true, ite_false, reduceIte, eq_self, Int.reduceEq, true_and, and_true, not_true_eq_false, not_false_eq_true] at hc)))
  exact c_wg_l_74 hn hr hf hp h n.toNat 0 (by omega)
set_option maxHeartbeats 4000000 in
set_option maxRecDepth 100000 in
theorem c_wg_l_23 {M : fr_M} {n : Int} {f : Int → Int → Int} {rk : Int → Int} {Q : Option fr_V → fr_H → fr_M → Prop} (hn : M 18 2 = n ∧ 0 < n ∧ n ≤ 9) (hr : ∀ i, 0 ≤ i → i < n → M 23 i = rk i ∧ 0 ≤ rk i ∧ rk i < n) (hf : ∀ i j, 0 ≤ i → i < n → 0 ≤ f i j ∧ f i j ≤ 6000000) (hp : PT f n n (M 19)) (h : Q (some (.inl (ws f n rk n.toNat))) sh0 M) : ∀ (t k : Nat), (k : Int) + t = n → fr_Run 23 none 4 [some (.inr (.inl 18)), some (.inr (.inl 23)), some (.inl (ws f n rk k)), some (.inl (k : Int))] [] sh0 M 0 0 Q := by
  intro t
  induction t with
  | zero =>
    intro k q0
    have e : n.toNat = k := by omega
    rw [e] at h
    refine fr_go k23 [4] 400 rfl ?_
    repeat' (first | (refine And.intro (by first | omega | (simp (disch := decide) only [up_n, up_s, cp_n, rw_n, rw_s, up1_, if_true, if_false, ite_true, ite_false, reduceIte, eq_self, Int.reduceEq, true_and, and_true, not_true_eq_false, not_false_eq_true]; omega)) ?_) | (refine And.intro (fun hc => ?_) (fun hc => ?_) <;> (try (simp (disch := decide) only [up_n, up_s, cp_n, rw_n, rw_s, up1_, if_true, if_false, ite_true, ite_false, reduceIte, eq_self, Int.reduceEq, true_and, and_true, not_true_eq_false, not_false_eq_true] at hc)) <;> (try (exfalso; omega))) | (refine fun (hc : ¬ _) => ?_; try (simp (disch := decide) only [up_n, up_s, cp_n, rw_n, rw_s, up1_, if_true, if_false, ite_true, ite_false, reduceIte, eq_self, Int.reduceEq, true_and, and_true, not_true_eq_false, not_false_eq_true] at hc)) | (refine fun (hc : _ = _) => ?_; try (simp (disch := decide) only [up_n, up_s, cp_n, rw_n, rw_s, up1_, if_true, if_false, ite_true, ite_false, reduceIte, eq_self, Int.reduceEq, true_and, and_true, not_true_eq_false, not_false_eq_true] at hc)))
    all_goals first | (exfalso; omega) | exact h
  | succ t ih =>
    intro k q0
    have hh := ih (k + 1) (by omega)
    have hb := ws_b hf (fun i a0 a1 => (hr i a0 a1).2) k (by omega)
    have hk := hr (k : Int) (by omega) (by omega)
    have hfb := fun j => hf (rk (k : Int)) j hk.2.1 hk.2.2
    rw [ws, show ((k + 1 : Nat) : Int) = (k : Int) + 1 by omega] at hh
    by_cases e : (k : Int) + 1 < n
    · have hk1 := hr ((k : Int) + 1) (by omega) e
      have h19 := hp (rk (k : Int)) (rk ((k : Int) + 1)) hk.2.1 hk.2.2 (by omega)
      have hfb := hfb (rk ((k : Int) + 1))
      rw [if_pos e] at hh
      clear ih h hp hr hf
      refine fr_go k23 [4] 400 rfl ?_
      repeat' (first | (refine And.intro (by first | omega | (simp (disch := decide) only [up_n, up_s, cp_n, rw_n, rw_s, up1_, if_true, if_false, ite_true, ite_false, reduceIte, eq_self, Int.reduceEq, true_and, and_true, not_true_eq_false, not_false_eq_true]; omega)) ?_) | (refine And.intro (fun hc => ?_) (fun hc => ?_) <;> (try (simp (disch := decide) only [up_n, up_s, cp_n, rw_n, rw_s, up1_, if_true, if_false, ite_true, ite_false, reduceIte, eq_self, Int.reduceEq, true_and, and_true, not_true_eq_false, not_false_eq_true] at hc)) <;> (try (exfalso; omega))) | (refine fun (hc : ¬ _) => ?_; try (simp (disch := decide) only [up_n, up_s, cp_n, rw_n, rw_s, up1_, if_true, if_false, ite_true, ite_false, reduceIte, eq_self, Int.reduceEq, true_and, and_true, not_true_eq_false, not_false_eq_true] at hc)) | (refine fun (hc : _ = _) => ?_; try (simp (disch := decide) only [up_n, up_s, cp_n, rw_n, rw_s, up1_, if_true, if_false, ite_true, ite_false, reduceIte, eq_self, Int.reduceEq, true_and, and_true, not_true_eq_false, not_false_eq_true] at hc)))
      all_goals first | (exfalso; omega) | skip
      all_goals (show fr_Call 2 _ sh0 _ _)
      rw [hk.1, hk1.1]
      refine c_between (by omega) (by omega) ?_
      rw [h19]
      repeat' (first | (refine And.intro (by first | omega | (simp (disch := decide) only [up_n, up_s, cp_n, rw_n, rw_s, up1_, if_true, if_false, ite_true, ite_false, reduceIte, eq_self, Int.reduceEq, true_and, and_true, not_true_eq_false, not_false_eq_true]; omega)) ?_) | (refine And.intro (fun hc => ?_) (fun hc => ?_) <;> (try (simp (disch := decide) only [up_n, up_s, cp_n, rw_n, rw_s, up1_, if_true, if_false, ite_true, ite_false, reduceIte, eq_self, Int.reduceEq, true_and, and_true, not_true_eq_false, not_false_eq_true] at hc)) <;> (try (exfalso; omega))) | (refine fun (hc : ¬ _) => ?_; try (simp (disch := decide) only [up_n, up_s, cp_n, rw_n, rw_s, up1_, if_true, if_false, ite_true, ite_false, reduceIte, eq_self, Int.reduceEq, true_and, and_true, not_true_eq_false, not_false_eq_true] at hc)) | (refine fun (hc : _ = _) => ?_; try (simp (disch := decide) only [up_n, up_s, cp_n, rw_n, rw_s, up1_, if_true, if_false, ite_true, ite_false, reduceIte, eq_self, Int.reduceEq, true_and, and_true, not_true_eq_false, not_false_eq_true] at hc)))
      all_goals first | (exfalso; omega) | exact hh
    · have h19 := hp (rk (k : Int)) 9 hk.2.1 hk.2.2 (by omega)
      have hfb := hfb 9
      rw [if_neg e] at hh
      clear ih h hp hr hf
      refine fr_go k23 [4] 400 rfl ?_
      repeat' (first | (refine And.intro (by first | omega | (simp (disch := decide) only [up_n, up_s, cp_n, rw_n, rw_s, up1_, if_true, if_false, ite_true, ite_false, reduceIte, eq_self, Int.reduceEq, true_and, and_true, not_true_eq_false, not_false_eq_true]; omega)) ?_) | (refine And.intro (fun hc => ?_) (fun hc => ?_) <;> (try (simp (disch := decide) only [up_n, up_s, cp_n, rw_n, rw_s, up1_, if_true, if_false, ite_true, ite_false, reduceIte, eq_self, Int.reduceEq, true_and, and_true, not_true_eq_false, not_false_eq_true] at hc)) <;> (try (exfalso; omega))) | (refine fun (hc : ¬ _) => ?_; try (simp (disch := decide) only [up_n, up_s, cp_n, rw_n, rw_s, up1_, if_true, if_false, ite_true, ite_false, reduceIte, eq_self, Int.reduceEq, true_and, and_true, not_true_eq_false, not_false_eq_true] at hc)) | (refine fun (hc : _ = _) => ?_; try (simp (disch := decide) only [up_n, up_s, cp_n, rw_n, rw_s, up1_, if_true, if_false, ite_true, ite_false, reduceIte, eq_self, Int.reduceEq, true_and, and_true, not_true_eq_false, not_false_eq_true] at hc)))
      all_goals first | (exfalso; omega) | skip
      all_goals (show fr_Call 2 _ sh0 _ _)
      rw [hk.1]
      refine c_between (by omega) (by omega) ?_
      rw [h19]
      repeat' (first | (refine And.intro (by first | omega | (simp (disch := decide) only [up_n, up_s, cp_n, rw_n, rw_s, up1_, if_true, if_false, ite_true, ite_false, reduceIte, eq_self, Int.reduceEq, true_and, and_true, not_true_eq_false, not_false_eq_true]; omega)) ?_) | (refine And.intro (fun hc => ?_) (fun hc => ?_) <;> (try (simp (disch := decide) only [up_n, up_s, cp_n, rw_n, rw_s, up1_, if_true, if_false, ite_true, ite_false, reduceIte, eq_self, Int.reduceEq, true_and, and_true, not_true_eq_false, not_false_eq_true] at hc)) <;> (try (exfalso; omega))) | (refine fun (hc : ¬ _) => ?_; try (simp (disch := decide) only [up_n, up_s, cp_n, rw_n, rw_s, up1_, if_true, if_false, ite_true, ite_false, reduceIte, eq_self, Int.reduceEq, true_and, and_true, not_true_eq_false, not_false_eq_true] at hc)) | (refine fun (hc : _ = _) => ?_; try (simp (disch := decide) only [up_n, up_s, cp_n, rw_n, rw_s, up1_, if_true, if_false, ite_true, ite_false, reduceIte, eq_self, Int.reduceEq, true_and, and_true, not_true_eq_false, not_false_eq_true] at hc)))
      all_goals first | (exfalso; omega) | exact hh
set_option maxHeartbeats 4000000 in
set_option maxRecDepth 100000 in
theorem c_weigh_23 {M : fr_M} {n : Int} {f : Int → Int → Int} {rk : Int → Int} {Q : Option fr_V → fr_H → fr_M → Prop} (hn : M 18 2 = n ∧ 0 < n ∧ n ≤ 9) (hr : ∀ i, 0 ≤ i → i < n → M 23 i = rk i ∧ 0 ≤ rk i ∧ rk i < n) (hf : ∀ i j, 0 ≤ i → i < n → 0 ≤ f i j ∧ f i j ≤ 6000000) (hp : PT f n n (M 19)) (h : Q (some (.inl (ws f n rk n.toNat))) sh0 M) : fr_Call 23 [.inr (.inl 18), .inr (.inl 23)] sh0 M Q := by
  refine fr_cgo k23 [some (.inr (.inl 18)), some (.inr (.inl 23)), none, none] 0 0 [4] 400 rfl rfl rfl rfl ?_
  repeat' (first | (refine And.intro (by first | omega | (simp (disch := decide) only [up_n, up_s, cp_n, rw_n, rw_s, up1_, if_true, if_false, ite_true, ite_false, reduceIte, eq_self, Int.reduceEq, true_and, and_true, not_true_eq_false, not_false_eq_true]; omega)) ?_) | (refine And.intro (fun hc => ?_) (fun hc => ?_) <;> (try (simp (disch := decide) only [up_n, up_s, cp_n, rw_n, rw_s, up1_, if_true, if_false, ite_true, ite_false, reduceIte, eq_self, Int.reduceEq, true_and, and_true, not_true_eq_false, not_false_eq_true] at hc)) <;> (try (exfalso; omega))) | (refine fun (hc : ¬ _) => ?_; try (simp (disch := decide) only [up_n, up_s, cp_n, rw_n, rw_s, up1_, if_true, if_false, ite_true, ite_false, reduceIte, eq_self, Int.reduceEq, true_and, and_true, not_true_eq_false, not_false_eq_true] at hc)) | (refine fun (hc : _ = _) => ?_; try (simp (disch := decide) only [up_n, up_s, cp_n, rw_n, rw_s, up1_, if_true, if_false, ite_true, ite_false, reduceIte, eq_self, Int.reduceEq, true_and, and_true, not_true_eq_false, not_false_eq_true] at hc)))
  exact c_wg_l_23 hn hr hf hp h n.toNat 0 (by omega)
set_option maxHeartbeats 4000000 in
set_option maxRecDepth 100000 in
theorem m_wo_l {M : fr_M} {r n : Int} {rk : Int → Int} {Q : Option fr_V → fr_H → fr_M → Prop} (hR : RC M r n) (hO : ∀ i, 0 ≤ i → i < n → M 78 (9 * r + i) = M 77 (9 * r + rk i) ∧ 0 ≤ rk i ∧ rk i < n) (h : Q (some (.inl (ws (cf M r) n rk n.toNat))) sh0 M) : ∀ (t k : Nat), (k : Int) + t = n → fr_Run 160 none 4 [some (.inr (.inl 75)), some (.inl r), some (.inl (ws (cf M r) n rk k)), some (.inl (k : Int))] [] sh0 M 0 0 Q := by
  have hr := hR.1
  have hn := hR.2.1
  have hn9 := hR.2.2.1
  intro t
  induction t with
  | zero =>
    intro k q0
    have e : n.toNat = k := by omega
    rw [e] at h
    refine fr_go k160 [4] 400 rfl ?_
    repeat' (first | (refine And.intro (by first | omega | (simp (disch := decide) only [up_n, up_s, cp_n, rw_n, rw_s, up1_, if_true, if_false, ite_true, ite_false, reduceIte, eq_self, Int.reduceEq, true_and, and_true, not_true_eq_false, not_false_eq_true]; omega)) ?_) | (refine And.intro (fun hc => ?_) (fun hc => ?_) <;> (try (simp (disch := decide) only [up_n, up_s, cp_n, rw_n, rw_s, up1_, if_true, if_false, ite_true, ite_false, reduceIte, eq_self, Int.reduceEq, true_and, and_true, not_true_eq_false, not_false_eq_true] at hc)) <;> (try (exfalso; omega))) | (refine fun (hc : ¬ _) => ?_; try (simp (disch := decide) only [up_n, up_s, cp_n, rw_n, rw_s, up1_, if_true, if_false, ite_true, ite_false, reduceIte, eq_self, Int.reduceEq, true_and, and_true, not_true_eq_false, not_false_eq_true] at hc)) | (refine fun (hc : _ = _) => ?_; try (simp (disch := decide) only [up_n, up_s, cp_n, rw_n, rw_s, up1_, if_true, if_false, ite_true, ite_false, reduceIte, eq_self, Int.reduceEq, true_and, and_true, not_true_eq_false, not_false_eq_true] at hc)))
    all_goals first | (exfalso; omega) | exact h
  | succ t ih =>
    intro k q0
    have hh := ih (k + 1) (by omega)
    have hb := ws_b (f := cf M r) (n := n) (rk := rk) (fun i j a0 a1 => cf_b (j := j) hR ⟨a0, a1⟩) (fun i a0 a1 => (hO i a0 a1).2) k (by omega)
    have hk := hO (k : Int) (by omega) (by omega)
    have hfb := fun j => cf_b (j := j) hR hk.2
    have hbk := hR.bl hk.2
    rw [ws, show ((k + 1 : Nat) : Int) = (k : Int) + 1 by omega] at hh
    by_cases e : (k : Int) + 1 < n
    · have hk1 := hO ((k : Int) + 1) (by omega) e
      rw [show 9 * r + ((k : Int) + 1) = 9 * r + (k : Int) + 1 by omega] at hk1
      have hfb := hfb (rk ((k : Int) + 1))
      rw [if_pos e] at hh
      have ec : cs M (M 77 (9 * r + rk (k : Int))) (M 77 (9 * r + rk ((k : Int) + 1))) = cf M r (rk (k : Int)) (rk ((k : Int) + 1)) := by
        unfold cf
        rw [if_neg (by omega)]
      clear ih h hO
      refine fr_go k160 [4] 400 rfl ?_
      repeat' (first | (refine And.intro (by first | omega | (simp (disch := decide) only [up_n, up_s, cp_n, rw_n, rw_s, up1_, if_true, if_false, ite_true, ite_false, reduceIte, eq_self, Int.reduceEq, true_and, and_true, not_true_eq_false, not_false_eq_true]; omega)) ?_) | (refine And.intro (fun hc => ?_) (fun hc => ?_) <;> (try (simp (disch := decide) only [up_n, up_s, cp_n, rw_n, rw_s, up1_, if_true, if_false, ite_true, ite_false, reduceIte, eq_self, Int.reduceEq, true_and, and_true, not_true_eq_false, not_false_eq_true] at hc)) <;> (try (exfalso; omega))) | (refine fun (hc : ¬ _) => ?_; try (simp (disch := decide) only [up_n, up_s, cp_n, rw_n, rw_s, up1_, if_true, if_false, ite_true, ite_false, reduceIte, eq_self, Int.reduceEq, true_and, and_true, not_true_eq_false, not_false_eq_true] at hc)) | (refine fun (hc : _ = _) => ?_; try (simp (disch := decide) only [up_n, up_s, cp_n, rw_n, rw_s, up1_, if_true, if_false, ite_true, ite_false, reduceIte, eq_self, Int.reduceEq, true_and, and_true, not_true_eq_false, not_false_eq_true] at hc)))
      all_goals first | (exfalso; omega) | skip
      all_goals (show fr_Call 159 _ sh0 _ _)
      rw [hk.1, hk1.1]
      refine m_cost hbk.1 hbk.2.1 hR.2.2.2.2.2 ?_
      rw [ec]
      generalize cf M r (rk (k : Int)) (rk ((k : Int) + 1)) = v at hfb hh ⊢
      repeat' (first | (refine And.intro (by first | omega | (simp (disch := decide) only [up_n, up_s, cp_n, rw_n, rw_s, up1_, if_true, if_false, ite_true, ite_false, reduceIte, eq_self, Int.reduceEq, true_and, and_true, not_true_eq_false, not_false_eq_true]; omega)) ?_) | (refine And.intro (fun hc => ?_) (fun hc => ?_) <;> (try (simp (disch := decide) only [up_n, up_s, cp_n, rw_n, rw_s, up1_, if_true, if_false, ite_true, ite_false, reduceIte, eq_self, Int.reduceEq, true_and, and_true, not_true_eq_false, not_false_eq_true] at hc)) <;> (try (exfalso; omega))) | (refine fun (hc : ¬ _) => ?_; try (simp (disch := decide) only [up_n, up_s, cp_n, rw_n, rw_s, up1_, if_true, if_false, ite_true, ite_false, reduceIte, eq_self, Int.reduceEq, true_and, and_true, not_true_eq_false, not_false_eq_true] at hc)) | (refine fun (hc : _ = _) => ?_; try (simp (disch := decide) only [up_n, up_s, cp_n, rw_n, rw_s, up1_, if_true, if_false, ite_true, ite_false, reduceIte, eq_self, Int.reduceEq, true_and, and_true, not_true_eq_false, not_false_eq_true] at hc)))
      all_goals first | (exfalso; omega) | exact hh
    · have hfb := hfb 9
      rw [if_neg e] at hh
      have ec : cs M (M 77 (9 * r + rk (k : Int))) (-9) = cf M r (rk (k : Int)) 9 := by
        unfold cf
        rw [if_pos rfl]
      clear ih h hO
      refine fr_go k160 [4] 400 rfl ?_
      repeat' (first | (refine And.intro (by first | omega | (simp (disch := decide) only [up_n, up_s, cp_n, rw_n, rw_s, up1_, if_true, if_false, ite_true, ite_false, reduceIte, eq_self, Int.reduceEq, true_and, and_true, not_true_eq_false, not_false_eq_true]; omega)) ?_) | (refine And.intro (fun hc => ?_) (fun hc => ?_) <;> (try (simp (disch := decide) only [up_n, up_s, cp_n, rw_n, rw_s, up1_, if_true, if_false, ite_true, ite_false, reduceIte, eq_self, Int.reduceEq, true_and, and_true, not_true_eq_false, not_false_eq_true] at hc)) <;> (try (exfalso; omega))) | (refine fun (hc : ¬ _) => ?_; try (simp (disch := decide) only [up_n, up_s, cp_n, rw_n, rw_s, up1_, if_true, if_false, ite_true, ite_false, reduceIte, eq_self, Int.reduceEq, true_and, and_true, not_true_eq_false, not_false_eq_true] at hc)) | (refine fun (hc : _ = _) => ?_; try (simp (disch := decide) only [up_n, up_s, cp_n, rw_n, rw_s, up1_, if_true, if_false, ite_true, ite_false, reduceIte, eq_self, Int.reduceEq, true_and, and_true, not_true_eq_false, not_false_eq_true] at hc)))
      all_goals first | (exfalso; omega) | skip
      all_goals (show fr_Call 159 _ sh0 _ _)
      rw [hk.1]
      refine m_cost hbk.1 hbk.2.1 hR.2.2.2.2.2 ?_
      rw [ec]
      generalize cf M r (rk (k : Int)) 9 = v at hfb hh ⊢
      repeat' (first | (refine And.intro (by first | omega | (simp (disch := decide) only [up_n, up_s, cp_n, rw_n, rw_s, up1_, if_true, if_false, ite_true, ite_false, reduceIte, eq_self, Int.reduceEq, true_and, and_true, not_true_eq_false, not_false_eq_true]; omega)) ?_) | (refine And.intro (fun hc => ?_) (fun hc => ?_) <;> (try (simp (disch := decide) only [up_n, up_s, cp_n, rw_n, rw_s, up1_, if_true, if_false, ite_true, ite_false, reduceIte, eq_self, Int.reduceEq, true_and, and_true, not_true_eq_false, not_false_eq_true] at hc)) <;> (try (exfalso; omega))) | (refine fun (hc : ¬ _) => ?_; try (simp (disch := decide) only [up_n, up_s, cp_n, rw_n, rw_s, up1_, if_true, if_false, ite_true, ite_false, reduceIte, eq_self, Int.reduceEq, true_and, and_true, not_true_eq_false, not_false_eq_true] at hc)) | (refine fun (hc : _ = _) => ?_; try (simp (disch := decide) only [up_n, up_s, cp_n, rw_n, rw_s, up1_, if_true, if_false, ite_true, ite_false, reduceIte, eq_self, Int.reduceEq, true_and, and_true, not_true_eq_false, not_false_eq_true] at hc)))
      all_goals first | (exfalso; omega) | exact hh
set_option maxHeartbeats 4000000 in
set_option maxRecDepth 100000 in
theorem m_weightOf {M : fr_M} {r n : Int} {rk : Int → Int} {Q : Option fr_V → fr_H → fr_M → Prop} (hR : RC M r n) (hO : ∀ i, 0 ≤ i → i < n → M 78 (9 * r + i) = M 77 (9 * r + rk i) ∧ 0 ≤ rk i ∧ rk i < n) (h : Q (some (.inl (ws (cf M r) n rk n.toNat))) sh0 M) : fr_Call 160 [.inr (.inl 75), .inl r] sh0 M Q := by
  have hn9 := hR.2.2.1
  refine fr_cgo k160 [some (.inr (.inl 75)), some (.inl r), none, none] 0 0 [4] 400 rfl rfl rfl rfl ?_
  repeat' (first | (refine And.intro (by first | omega | (simp (disch := decide) only [up_n, up_s, cp_n, rw_n, rw_s, up1_, if_true, if_false, ite_true, ite_false, reduceIte, eq_self, Int.reduceEq, true_and, and_true, not_true_eq_false, not_false_eq_true]; omega)) ?_) | (refine And.intro (fun hc => ?_) (fun hc => ?_) <;> (try (simp (disch := decide) only [up_n, up_s, cp_n, rw_n, rw_s, up1_, if_true, if_false, ite_true, ite_false, reduceIte, eq_self, Int.reduceEq, true_and, and_true, not_true_eq_false, not_false_eq_true] at hc)) <;> (try (exfalso; omega))) | (refine fun (hc : ¬ _) => ?_; try (simp (disch := decide) only [up_n, up_s, cp_n, rw_n, rw_s, up1_, if_true, if_false, ite_true, ite_false, reduceIte, eq_self, Int.reduceEq, true_and, and_true, not_true_eq_false, not_false_eq_true] at hc)) | (refine fun (hc : _ = _) => ?_; try (simp (disch := decide) only [up_n, up_s, cp_n, rw_n, rw_s, up1_, if_true, if_false, ite_true, ite_false, reduceIte, eq_self, Int.reduceEq, true_and, and_true, not_true_eq_false, not_false_eq_true] at hc)))
  exact m_wo_l hR hO h n.toNat 0 (by omega)
