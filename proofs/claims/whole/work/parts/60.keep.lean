theorem cp_as {M : fr_M} {a b : Nat} {x y z : Int} : fr_cp M a x b y z = rw_ M b (fun j => if y ≤ j ∧ j < y + z then M a (x + (j - y)) else M b j) := by
  funext k j
  unfold fr_cp rw_
  split
  · next e => subst e; rfl
  · rfl
/-- a row's part is another row's -/
def cpr (g' g f : Int → Int) (d s m : Int) : Prop := ∀ j, (d ≤ j ∧ j < d + m → g' j = f (s + (j - d))) ∧ (¬ (d ≤ j ∧ j < d + m) → g' j = g j)
theorem cpr.step {g' g f : Int → Int} {d s m i v : Int} (h : cpr g' g f d s m) (hm : 0 ≤ m) (hi : i = d + m) (hv : v = f (s + m)) : cpr (up1 g' i v) g f d s (m + 1) := by
  intro j
  have := h j
  rw [up1_]
  by_cases e : j = i
  · refine ⟨fun _ => ?_, fun q => absurd (by omega) q⟩
    rw [if_pos e, hv, e, hi, show d + m - d = m by omega]
  · rw [if_neg e]
    refine ⟨fun q => this.1 (by omega), fun q => this.2 (by omega)⟩
theorem cpr.zero {g f : Int → Int} {d s : Int} : cpr g g f d s 0 := fun j => ⟨fun q => absurd q (by omega), fun _ => rfl⟩
/-- what an undo that is kept leaves: d = 1 where the oldest one goes -/
def KS (u : Int) (f17 f16 o : Int → Int) (r : Int) (g17 g16 : Int → Int) : Prop := ∀ d, (u = 12 → d = 1) → (u ≠ 12 → d = 0) → (∀ j, 0 ≤ j → j < u - d → g17 j = f17 (j + d)) ∧ g17 (u - d) = r ∧ (∀ j, 0 ≤ j → j < 9 * (u - d) → g16 j = f16 (j + 9 * d)) ∧ (∀ i, 0 ≤ i → i < 9 → g16 (9 * (u - d) + i) = o i)
def ku (u : Int) : Int := if u = 12 then 12 else u + 1
set_option maxHeartbeats 4000000 in
set_option maxRecDepth 100000 in
theorem c_keep {M : fr_M} {r : Int} {Q : Option fr_V → fr_H → fr_M → Prop} (hr : 0 ≤ r ∧ r < 6) (hu : 0 ≤ M 13 5 ∧ M 13 5 ≤ 12) (h : ∀ g16 g17, KS (M 13 5) (M 17) (M 16) (fun i => M 14 (r * 9 + i)) r g17 g16 → Q none sh0 (rw_ (rw_ (fr_up M 13 5 (ku (M 13 5))) 16 g16) 17 g17)) : fr_Call 54 [.inr (.inl 13), .inl r] sh0 M Q := by
  by_cases e : M 13 5 = 12
  · have hk : ku (M 13 5) = M 13 5 - 1 + 1 := by
      unfold ku
      rw [if_pos e]
      omega
    rw [hk] at h
    refine fr_cgo k54 [some (.inr (.inl 13)), some (.inl r)] 0 0 [] 400 rfl rfl rfl rfl ?_
    repeat' (first | (refine And.intro (by first | omega | (simp (disch := decide) only [up_n, up_s, cp_n, rw_n, rw_s, up1_, if_true, if_false, ite_true, ite_false, reduceIte, eq_self, Int.reduceEq, true_and, and_true, not_true_eq_false, not_false_eq_true]; omega)) ?_) | (refine And.intro (fun hc => ?_) (fun hc => ?_) <;> (try (simp (disch := decide) only [up_n, up_s, cp_n, rw_n, rw_s, up1_, if_true, if_false, ite_true, ite_false, reduceIte, eq_self, Int.reduceEq, true_and, and_true, not_true_eq_false, not_false_eq_true] at hc)) <;> (try (exfalso; omega))) | (refine fun (hc : ¬ _) => ?_; try (simp (disch := decide) only [up_n, up_s, cp_n, rw_n, rw_s, up1_, if_true, if_false, ite_true, ite_false, reduceIte, eq_self, Int.reduceEq, true_and, and_true, not_true_eq_false, not_false_eq_true] at hc)) | (refine fun (hc : _ = _) => ?_; try (simp (disch := decide) only [up_n, up_s, cp_n, rw_n, rw_s, up1_, if_true, if_false, ite_true, ite_false, reduceIte, eq_self, Int.reduceEq, true_and, and_true, not_true_eq_false, not_false_eq_true] at hc)))
    all_goals first | (exfalso; omega) | skip
    show Q none sh0 _
    simp (disch := decide) only [up_n, up_s, cp_n, rw_n, rw_s, up1_, if_true, if_false, ite_true, ite_false, reduceIte, eq_self, Int.reduceEq, true_and, and_true, not_true_eq_false, not_false_eq_true]
    simp only [cp_as]
    rw [up_as (k := 17)]
    simp (disch := decide) only [up_rw, rw_u, up_up, rw_rw, rw_cm]
    rw [rw_cm (a := 16) (b := 17) (by decide)]
    simp (disch := decide) only [up_rw, rw_u, up_up, rw_rw, rw_cm]
    simp (disch := decide) only [up_n, up_s, cp_n, rw_n, rw_s, up1_, if_true, if_false, ite_true, ite_false, reduceIte, eq_self, Int.reduceEq, true_and, and_true, not_true_eq_false, not_false_eq_true]
    refine h _ _ ?_
    intro d hd1 hd2
    obtain rfl : d = 1 := hd1 e
    rw [e]
    refine ⟨fun j q0 q1 => ?_, ?_, fun j q0 q1 => ?_, fun i q0 q1 => ?_⟩
    · simp (disch := decide) only [up_n, up_s, cp_n, rw_n, rw_s, up1_, if_true, if_false, ite_true, ite_false, reduceIte, eq_self, Int.reduceEq, true_and, and_true, not_true_eq_false, not_false_eq_true]
      rw [if_neg (by omega), if_pos (by omega)]
      congr 1
      omega
    · simp (disch := decide) only [up_n, up_s, cp_n, rw_n, rw_s, up1_, if_true, if_false, ite_true, ite_false, reduceIte, eq_self, Int.reduceEq, true_and, and_true, not_true_eq_false, not_false_eq_true]
    · simp (disch := decide) only [up_n, up_s, cp_n, rw_n, rw_s, up1_, if_true, if_false, ite_true, ite_false, reduceIte, eq_self, Int.reduceEq, true_and, and_true, not_true_eq_false, not_false_eq_true]
      rw [if_neg (by omega), if_pos (by omega)]
      congr 1
      omega
    · simp (disch := decide) only [up_n, up_s, cp_n, rw_n, rw_s, up1_, if_true, if_false, ite_true, ite_false, reduceIte, eq_self, Int.reduceEq, true_and, and_true, not_true_eq_false, not_false_eq_true]
      rw [if_pos (by omega)]
      congr 1
      omega
  · have hk : ku (M 13 5) = M 13 5 + 1 := by
      unfold ku
      rw [if_neg e]
    rw [hk] at h
    refine fr_cgo k54 [some (.inr (.inl 13)), some (.inl r)] 0 0 [] 400 rfl rfl rfl rfl ?_
    repeat' (first | (refine And.intro (by first | omega | (simp (disch := decide) only [up_n, up_s, cp_n, rw_n, rw_s, up1_, if_true, if_false, ite_true, ite_false, reduceIte, eq_self, Int.reduceEq, true_and, and_true, not_true_eq_false, not_false_eq_true]; omega)) ?_) | (refine And.intro (fun hc => ?_) (fun hc => ?_) <;> (try (simp (disch := decide) only [up_n, up_s, cp_n, rw_n, rw_s, up1_, if_true, if_false, ite_true, ite_false, reduceIte, eq_self, Int.reduceEq, true_and, and_true, not_true_eq_false, not_false_eq_true] at hc)) <;> (try (exfalso; omega))) | (refine fun (hc : ¬ _) => ?_; try (simp (disch := decide) only [up_n, up_s, cp_n, rw_n, rw_s, up1_, if_true, if_false, ite_true, ite_false, reduceIte, eq_self, Int.reduceEq, true_and, and_true, not_true_eq_false, not_false_eq_true] at hc)) | (refine fun (hc : _ = _) => ?_; try (simp (disch := decide) only [up_n, up_s, cp_n, rw_n, rw_s, up1_, if_true, if_false, ite_true, ite_false, reduceIte, eq_self, Int.reduceEq, true_and, and_true, not_true_eq_false, not_false_eq_true] at hc)))
    all_goals first | (exfalso; omega) | skip
    show Q none sh0 _
    simp (disch := decide) only [up_n, up_s, cp_n, rw_n, rw_s, up1_, if_true, if_false, ite_true, ite_false, reduceIte, eq_self, Int.reduceEq, true_and, and_true, not_true_eq_false, not_false_eq_true]
    rw [cp_as, up_as (k := 17)]
    simp (disch := decide) only [up_rw, rw_u, up_up, rw_rw, rw_cm]
    try (simp (disch := decide) only [up_n, up_s, cp_n, rw_n, rw_s, up1_, if_true, if_false, ite_true, ite_false, reduceIte, eq_self, Int.reduceEq, true_and, and_true, not_true_eq_false, not_false_eq_true])
    refine h _ _ ?_
    intro d hd1 hd2
    obtain rfl : d = 0 := hd2 e
    refine ⟨fun j q0 q1 => ?_, ?_, fun j q0 q1 => ?_, fun i q0 q1 => ?_⟩
    · simp (disch := decide) only [up_n, up_s, cp_n, rw_n, rw_s, up1_, if_true, if_false, ite_true, ite_false, reduceIte, eq_self, Int.reduceEq, true_and, and_true, not_true_eq_false, not_false_eq_true]
      rw [if_neg (by omega)]
      congr 1
      omega
    · simp (disch := decide) only [up_n, up_s, cp_n, rw_n, rw_s, up1_, if_true, if_false, ite_true, ite_false, reduceIte, eq_self, Int.reduceEq, true_and, and_true, not_true_eq_false, not_false_eq_true]
      rw [if_pos (by omega)]
    · simp (disch := decide) only [up_n, up_s, cp_n, rw_n, rw_s, up1_, if_true, if_false, ite_true, ite_false, reduceIte, eq_self, Int.reduceEq, true_and, and_true, not_true_eq_false, not_false_eq_true]
      rw [if_neg (by omega)]
      congr 1
      omega
    · simp (disch := decide) only [up_n, up_s, cp_n, rw_n, rw_s, up1_, if_true, if_false, ite_true, ite_false, reduceIte, eq_self, Int.reduceEq, true_and, and_true, not_true_eq_false, not_false_eq_true]
      rw [if_pos (by omega)]
      congr 1
      omega
set_option maxHeartbeats 4000000 in
set_option maxRecDepth 100000 in
theorem m_keeps_1 {M : fr_M} {r : Int} {Q : Option fr_V → fr_H → fr_M → Prop} (h : ∀ g, cpr g (M 88) (M 88) 0 1 11 → fr_Run 153 none 21 [some (.inr (.inl 75)), some (.inl r), some (.inl 11)] [] sh0 (rw_ M 88 g) 0 0 Q) : ∀ (t : Nat) (i : Int) (g : Int → Int), 0 ≤ i → i + t = 11 → cpr g (M 88) (M 88) 0 1 i → fr_Run 153 none 6 [some (.inr (.inl 75)), some (.inl r), some (.inl i)] [] sh0 (rw_ M 88 g) 0 0 Q := by
  intro t
  induction t with
  | zero =>
    intro i g q0 q1 q2
    have e : i = 11 := by omega
    subst e
    refine fr_go k153 [6, 21] 400 rfl ?_
    repeat' (first | (refine And.intro (by first | omega | (simp (disch := decide) only [up_n, up_s, cp_n, rw_n, rw_s, up1_, if_true, if_false, ite_true, ite_false, reduceIte, eq_self, Int.reduceEq, true_and, and_true, not_true_eq_false, not_false_eq_true]; omega)) ?_) | (refine And.intro (fun hc => ?_) (fun hc => ?_) <;> (try (simp (disch := decide) only [up_n, up_s, cp_n, rw_n, rw_s, up1_, if_true, if_false, ite_true, ite_false, reduceIte, eq_self, Int.reduceEq, true_and, and_true, not_true_eq_false, not_false_eq_true] at hc)) <;> (try (exfalso; omega))) | (refine fun (hc : ¬ _) => ?_; try (simp (disch := decide) only [up_n, up_s, cp_n, rw_n, rw_s, up1_, if_true, if_false, ite_true, ite_false, reduceIte, eq_self, Int.reduceEq, true_and, and_true, not_true_eq_false, not_false_eq_true] at hc)) | (refine fun (hc : _ = _) => ?_; try (simp (disch := decide) only [up_n, up_s, cp_n, rw_n, rw_s, up1_, if_true, if_false, ite_true, ite_false, reduceIte, eq_self, Int.reduceEq, true_and, and_true, not_true_eq_false, not_false_eq_true] at hc)))
    all_goals first | (exfalso; omega) | exact h g q2
  | succ t ih =>
    intro i g q0 q1 q2
    refine fr_go k153 [6, 21] 400 rfl ?_
    repeat' (first | (refine And.intro (by first | omega | (simp (disch := decide) only [up_n, up_s, cp_n, rw_n, rw_s, up1_, if_true, if_false, ite_true, ite_false, reduceIte, eq_self, Int.reduceEq, true_and, and_true, not_true_eq_false, not_false_eq_true]; omega)) ?_) | (refine And.intro (fun hc => ?_) (fun hc => ?_) <;> (try (simp (disch := decide) only [up_n, up_s, cp_n, rw_n, rw_s, up1_, if_true, if_false, ite_true, ite_false, reduceIte, eq_self, Int.reduceEq, true_and, and_true, not_true_eq_false, not_false_eq_true] at hc)) <;> (try (exfalso; omega))) | (refine fun (hc : ¬ _) => ?_; try (simp (disch := decide) only [up_n, up_s, cp_n, rw_n, rw_s, up1_, if_true, if_false, ite_true, ite_false, reduceIte, eq_self, Int.reduceEq, true_and, and_true, not_true_eq_false, not_false_eq_true] at hc)) | (refine fun (hc : _ = _) => ?_; try (simp (disch := decide) only [up_n, up_s, cp_n, rw_n, rw_s, up1_, if_true, if_false, ite_true, ite_false, reduceIte, eq_self, Int.reduceEq, true_and, and_true, not_true_eq_false, not_false_eq_true] at hc)))
    all_goals first | (exfalso; omega) | skip
    simp (disch := decide) only [up_rw, rw_u, up_up, rw_rw, rw_cm]
    refine ih (i + 1) _ (by omega) (by omega) (q2.step q0 (by omega) ?_)
    rw [rw_s, (q2 (i + 1)).2 (by omega)]
    congr 1
    omega
set_option maxHeartbeats 4000000 in
set_option maxRecDepth 100000 in
theorem m_keeps_2 {M : fr_M} {r : Int} {Q : Option fr_V → fr_H → fr_M → Prop} (h : ∀ g, cpr g (M 89) (M 89) 0 9 99 → fr_Run 153 none 38 [some (.inr (.inl 75)), some (.inl r), some (.inl 99)] [] sh0 (rw_ M 89 g) 0 0 Q) : ∀ (t : Nat) (i : Int) (g : Int → Int), 0 ≤ i → i + t = 99 → cpr g (M 89) (M 89) 0 9 i → fr_Run 153 none 23 [some (.inr (.inl 75)), some (.inl r), some (.inl i)] [] sh0 (rw_ M 89 g) 0 0 Q := by
  intro t
  induction t with
  | zero =>
    intro i g q0 q1 q2
    have e : i = 99 := by omega
    subst e
    refine fr_go k153 [23, 38] 400 rfl ?_
    repeat' (first | (refine And.intro (by first | omega | (simp (disch := decide) only [up_n, up_s, cp_n, rw_n, rw_s, up1_, if_true, if_false, ite_true, ite_false, reduceIte, eq_self, Int.reduceEq, true_and, and_true, not_true_eq_false, not_false_eq_true]; omega)) ?_) | (refine And.intro (fun hc => ?_) (fun hc => ?_) <;> (try (simp (disch := decide) only [up_n, up_s, cp_n, rw_n, rw_s, up1_, if_true, if_false, ite_true, ite_false, reduceIte, eq_self, Int.reduceEq, true_and, and_true, not_true_eq_false, not_false_eq_true] at hc)) <;> (try (exfalso; omega))) | (refine fun (hc : ¬ _) => ?_; try (simp (disch := decide) only [up_n, up_s, cp_n, rw_n, rw_s, up1_, if_true, if_false, ite_true, ite_false, reduceIte, eq_self, Int.reduceEq, true_and, and_true, not_true_eq_false, not_false_eq_true] at hc)) | (refine fun (hc : _ = _) => ?_; try (simp (disch := decide) only [up_n, up_s, cp_n, rw_n, rw_s, up1_, if_true, if_false, ite_true, ite_false, reduceIte, eq_self, Int.reduceEq, true_and, and_true, not_true_eq_false, not_false_eq_true] at hc)))
    all_goals first | (exfalso; omega) | exact h g q2
  | succ t ih =>
    intro i g q0 q1 q2
    refine fr_go k153 [23, 38] 400 rfl ?_
    repeat' (first | (refine And.intro (by first | omega | (simp (disch := decide) only [up_n, up_s, cp_n, rw_n, rw_s, up1_, if_true, if_false, ite_true, ite_false, reduceIte, eq_self, Int.reduceEq, true_and, and_true, not_true_eq_false, not_false_eq_true]; omega)) ?_) | (refine And.intro (fun hc => ?_) (fun hc => ?_) <;> (try (simp (disch := decide) only [up_n, up_s, cp_n, rw_n, rw_s, up1_, if_true, if_false, ite_true, ite_false, reduceIte, eq_self, Int.reduceEq, true_and, and_true, not_true_eq_false, not_false_eq_true] at hc)) <;> (try (exfalso; omega))) | (refine fun (hc : ¬ _) => ?_; try (simp (disch := decide) only [up_n, up_s, cp_n, rw_n, rw_s, up1_, if_true, if_false, ite_true, ite_false, reduceIte, eq_self, Int.reduceEq, true_and, and_true, not_true_eq_false, not_false_eq_true] at hc)) | (refine fun (hc : _ = _) => ?_; try (simp (disch := decide) only [up_n, up_s, cp_n, rw_n, rw_s, up1_, if_true, if_false, ite_true, ite_false, reduceIte, eq_self, Int.reduceEq, true_and, and_true, not_true_eq_false, not_false_eq_true] at hc)))
    all_goals first | (exfalso; omega) | skip
    simp (disch := decide) only [up_rw, rw_u, up_up, rw_rw, rw_cm]
    refine ih (i + 1) _ (by omega) (by omega) (q2.step q0 (by omega) ?_)
    rw [rw_s, (q2 (i + 9)).2 (by omega)]
    congr 1
    omega
set_option maxHeartbeats 4000000 in
set_option maxRecDepth 100000 in
theorem m_keeps_3 {M : fr_M} {r : Int} {Q : Option fr_V → fr_H → fr_M → Prop} (hr : 0 ≤ r ∧ r < 6) (hu : 0 ≤ M 75 18 ∧ M 75 18 < 12) (h : ∀ g, cpr g (M 89) (M 78) (9 * M 75 18) (9 * r) 9 → Q none sh0 (rw_ (fr_up M 75 18 (M 75 18 + 1)) 89 g)) : ∀ (t : Nat) (i : Int) (g : Int → Int), 0 ≤ i → i + t = 9 → cpr g (M 89) (M 78) (9 * M 75 18) (9 * r) i → fr_Run 153 none 52 [some (.inr (.inl 75)), some (.inl r), some (.inl i)] [] sh0 (rw_ M 89 g) 0 0 Q := by
  intro t
  induction t with
  | zero =>
    intro i g q0 q1 q2
    have e : i = 9 := by omega
    subst e
    refine fr_go k153 [52] 400 rfl ?_
    repeat' (first | (refine And.intro (by first | omega | (simp (disch := decide) only [up_n, up_s, cp_n, rw_n, rw_s, up1_, if_true, if_false, ite_true, ite_false, reduceIte, eq_self, Int.reduceEq, true_and, and_true, not_true_eq_false, not_false_eq_true]; omega)) ?_) | (refine And.intro (fun hc => ?_) (fun hc => ?_) <;> (try (simp (disch := decide) only [up_n, up_s, cp_n, rw_n, rw_s, up1_, if_true, if_false, ite_true, ite_false, reduceIte, eq_self, Int.reduceEq, true_and, and_true, not_true_eq_false, not_false_eq_true] at hc)) <;> (try (exfalso; omega))) | (refine fun (hc : ¬ _) => ?_; try (simp (disch := decide) only [up_n, up_s, cp_n, rw_n, rw_s, up1_, if_true, if_false, ite_true, ite_false, reduceIte, eq_self, Int.reduceEq, true_and, and_true, not_true_eq_false, not_false_eq_true] at hc)) | (refine fun (hc : _ = _) => ?_; try (simp (disch := decide) only [up_n, up_s, cp_n, rw_n, rw_s, up1_, if_true, if_false, ite_true, ite_false, reduceIte, eq_self, Int.reduceEq, true_and, and_true, not_true_eq_false, not_false_eq_true] at hc)))
    all_goals first | (exfalso; omega) | skip
    show Q none sh0 _
    simp (disch := decide) only [up_n, up_s, cp_n, rw_n, rw_s, up1_, if_true, if_false, ite_true, ite_false, reduceIte, eq_self, Int.reduceEq, true_and, and_true, not_true_eq_false, not_false_eq_true]
    simp (disch := decide) only [up_rw, rw_u, up_up, rw_rw, rw_cm]
    exact h g q2
  | succ t ih =>
    intro i g q0 q1 q2
    refine fr_go k153 [52] 400 rfl ?_
    repeat' (first | (refine And.intro (by first | omega | (simp (disch := decide) only [up_n, up_s, cp_n, rw_n, rw_s, up1_, if_true, if_false, ite_true, ite_false, reduceIte, eq_self, Int.reduceEq, true_and, and_true, not_true_eq_false, not_false_eq_true]; omega)) ?_) | (refine And.intro (fun hc => ?_) (fun hc => ?_) <;> (try (simp (disch := decide) only [up_n, up_s, cp_n, rw_n, rw_s, up1_, if_true, if_false, ite_true, ite_false, reduceIte, eq_self, Int.reduceEq, true_and, and_true, not_true_eq_false, not_false_eq_true] at hc)) <;> (try (exfalso; omega))) | (refine fun (hc : ¬ _) => ?_; try (simp (disch := decide) only [up_n, up_s, cp_n, rw_n, rw_s, up1_, if_true, if_false, ite_true, ite_false, reduceIte, eq_self, Int.reduceEq, true_and, and_true, not_true_eq_false, not_false_eq_true] at hc)) | (refine fun (hc : _ = _) => ?_; try (simp (disch := decide) only [up_n, up_s, cp_n, rw_n, rw_s, up1_, if_true, if_false, ite_true, ite_false, reduceIte, eq_self, Int.reduceEq, true_and, and_true, not_true_eq_false, not_false_eq_true] at hc)))
    all_goals first | (exfalso; omega) | skip
    simp (disch := decide) only [up_rw, rw_u, up_up, rw_rw, rw_cm]
    exact ih (i + 1) _ (by omega) (by omega) (q2.step q0 rfl rfl)
set_option maxHeartbeats 4000000 in
set_option maxRecDepth 100000 in
theorem m_keeps {M : fr_M} {r : Int} {Q : Option fr_V → fr_H → fr_M → Prop} (hr : 0 ≤ r ∧ r < 6) (hu : 0 ≤ M 75 18 ∧ M 75 18 ≤ 12) (h : ∀ g88 g89, KS (M 75 18) (M 88) (M 89) (fun i => M 78 (9 * r + i)) r g88 g89 → Q none sh0 (rw_ (rw_ (fr_up M 75 18 (ku (M 75 18))) 88 g88) 89 g89)) : fr_Call 153 [.inr (.inl 75), .inl r] sh0 M Q := by
  by_cases e : M 75 18 = 12
  · refine fr_cgo k153 [some (.inr (.inl 75)), some (.inl r), none] 0 0 [6] 400 rfl rfl rfl rfl ?_
    repeat' (first | (refine And.intro (by first | omega | (simp (disch := decide) only [up_n, up_s, cp_n, rw_n, rw_s, up1_, if_true, if_false, ite_true, ite_false, reduceIte, eq_self, Int.reduceEq, true_and, and_true, not_true_eq_false, not_false_eq_true]; omega)) ?_) | (refine And.intro (fun hc => ?_) (fun hc => ?_) <;> (try (simp (disch := decide) only [up_n, up_s, cp_n, rw_n, rw_s, up1_, if_true, if_false, ite_true, ite_false, reduceIte, eq_self, Int.reduceEq, true_and, and_true, not_true_eq_false, not_false_eq_true] at hc)) <;> (try (exfalso; omega))) | (refine fun (hc : ¬ _) => ?_; try (simp (disch := decide) only [up_n, up_s, cp_n, rw_n, rw_s, up1_, if_true, if_false, ite_true, ite_false, reduceIte, eq_self, Int.reduceEq, true_and, and_true, not_true_eq_false, not_false_eq_true] at hc)) | (refine fun (hc : _ = _) => ?_; try (simp (disch := decide) only [up_n, up_s, cp_n, rw_n, rw_s, up1_, if_true, if_false, ite_true, ite_false, reduceIte, eq_self, Int.reduceEq, true_and, and_true, not_true_eq_false, not_false_eq_true] at hc)))
    all_goals first | (exfalso; omega) | skip
    have h1 := fun q => m_keeps_1 (M := M) (r := r) (Q := Q) q 11 0 (M 88) (by omega) (by omega) cpr.zero
    refine q_run (h1 (fun g hg => ?_)) rw_id
    refine fr_go k153 [23] 400 rfl ?_
    repeat' (first | (refine And.intro (by first | omega | (simp (disch := decide) only [up_n, up_s, cp_n, rw_n, rw_s, up1_, if_true, if_false, ite_true, ite_false, reduceIte, eq_self, Int.reduceEq, true_and, and_true, not_true_eq_false, not_false_eq_true]; omega)) ?_) | (refine And.intro (fun hc => ?_) (fun hc => ?_) <;> (try (simp (disch := decide) only [up_n, up_s, cp_n, rw_n, rw_s, up1_, if_true, if_false, ite_true, ite_false, reduceIte, eq_self, Int.reduceEq, true_and, and_true, not_true_eq_false, not_false_eq_true] at hc)) <;> (try (exfalso; omega))) | (refine fun (hc : ¬ _) => ?_; try (simp (disch := decide) only [up_n, up_s, cp_n, rw_n, rw_s, up1_, if_true, if_false, ite_true, ite_false, reduceIte, eq_self, Int.reduceEq, true_and, and_true, not_true_eq_false, not_false_eq_true] at hc)) | (refine fun (hc : _ = _) => ?_; try (simp (disch := decide) only [up_n, up_s, cp_n, rw_n, rw_s, up1_, if_true, if_false, ite_true, ite_false, reduceIte, eq_self, Int.reduceEq, true_and, and_true, not_true_eq_false, not_false_eq_true] at hc)))
    have h2 := fun q => m_keeps_2 (M := rw_ M 88 g) (r := r) (Q := Q) q 99 0 (M 89) (by omega) (by omega) cpr.zero
    refine q_run (h2 (fun g' hg' => ?_)) rw_id
    refine fr_go k153 [52] 400 rfl ?_
    repeat' (first | (refine And.intro (by first | omega | (simp (disch := decide) only [up_n, up_s, cp_n, rw_n, rw_s, up1_, if_true, if_false, ite_true, ite_false, reduceIte, eq_self, Int.reduceEq, true_and, and_true, not_true_eq_false, not_false_eq_true]; omega)) ?_) | (refine And.intro (fun hc => ?_) (fun hc => ?_) <;> (try (simp (disch := decide) only [up_n, up_s, cp_n, rw_n, rw_s, up1_, if_true, if_false, ite_true, ite_false, reduceIte, eq_self, Int.reduceEq, true_and, and_true, not_true_eq_false, not_false_eq_true] at hc)) <;> (try (exfalso; omega))) | (refine fun (hc : ¬ _) => ?_; try (simp (disch := decide) only [up_n, up_s, cp_n, rw_n, rw_s, up1_, if_true, if_false, ite_true, ite_false, reduceIte, eq_self, Int.reduceEq, true_and, and_true, not_true_eq_false, not_false_eq_true] at hc)) | (refine fun (hc : _ = _) => ?_; try (simp (disch := decide) only [up_n, up_s, cp_n, rw_n, rw_s, up1_, if_true, if_false, ite_true, ite_false, reduceIte, eq_self, Int.reduceEq, true_and, and_true, not_true_eq_false, not_false_eq_true] at hc)))
    simp (disch := decide) only [up_n, up_s, cp_n, rw_n, rw_s, up1_, if_true, if_false, ite_true, ite_false, reduceIte, eq_self, Int.reduceEq, true_and, and_true, not_true_eq_false, not_false_eq_true]
    have h3 := fun q => m_keeps_3 (M := fr_up (fr_up (rw_ (rw_ M 88 g) 89 g') 75 18 (M 75 18 - 1)) 88 (M 75 18 - 1) r) (r := r) (Q := Q) hr (by simp (disch := decide) only [up_n, up_s, cp_n, rw_n, rw_s, up1_, if_true, if_false, ite_true, ite_false, reduceIte, eq_self, Int.reduceEq, true_and, and_true, not_true_eq_false, not_false_eq_true]; omega) q 9 0 g' (by omega) (by omega) cpr.zero
    refine q_run (h3 (fun g2 hg2 => ?_)) rw_id
    have hk : ku (M 75 18) = M 75 18 - 1 + 1 := by
      unfold ku
      rw [if_pos e]
      omega
    rw [hk] at h
    simp (disch := decide) only [up_rw, rw_u, up_up, rw_rw, rw_cm]
    simp (disch := decide) only [up_n, up_s, cp_n, rw_n, rw_s, up1_, if_true, if_false, ite_true, ite_false, reduceIte, eq_self, Int.reduceEq, true_and, and_true, not_true_eq_false, not_false_eq_true]
    refine h _ _ ?_
    intro d hd1 hd2
    obtain rfl : d = 1 := hd1 e
    rw [e]
    rw [show fr_up (fr_up (rw_ (rw_ M 88 g) 89 g') 75 18 (M 75 18 - 1)) 88 (M 75 18 - 1) r 75 18 = 11 by (simp (disch := decide) only [up_n, up_s, cp_n, rw_n, rw_s, up1_, if_true, if_false, ite_true, ite_false, reduceIte, eq_self, Int.reduceEq, true_and, and_true, not_true_eq_false, not_false_eq_true]; omega)] at hg2
    rw [show fr_up (fr_up (rw_ (rw_ M 88 g) 89 g') 75 18 (M 75 18 - 1)) 88 (M 75 18 - 1) r 89 = g' from rfl] at hg2
    rw [show fr_up (fr_up (rw_ (rw_ M 88 g) 89 g') 75 18 (M 75 18 - 1)) 88 (M 75 18 - 1) r 78 = M 78 from rfl] at hg2
    have hg' : cpr g' (M 89) (M 89) 0 9 99 := hg'
    refine ⟨fun j q0 q1 => ?_, ?_, fun j q0 q1 => ?_, fun i q0 q1 => ?_⟩
    · simp (disch := decide) only [up_n, up_s, cp_n, rw_n, rw_s, up1_, if_true, if_false, ite_true, ite_false, reduceIte, eq_self, Int.reduceEq, true_and, and_true, not_true_eq_false, not_false_eq_true]
      rw [if_neg (by omega), (hg j).1 (by omega)]
      congr 1
      omega
    · simp (disch := decide) only [up_n, up_s, cp_n, rw_n, rw_s, up1_, if_true, if_false, ite_true, ite_false, reduceIte, eq_self, Int.reduceEq, true_and, and_true, not_true_eq_false, not_false_eq_true]
    · rw [(hg2 j).2 (by omega), (hg' j).1 (by omega)]
      congr 1
      omega
    · rw [(hg2 (9 * (12 - 1) + i)).1 (by omega)]
      congr 1
      omega
  · refine fr_cgo k153 [some (.inr (.inl 75)), some (.inl r), none] 0 0 [52] 400 rfl rfl rfl rfl ?_
    repeat' (first | (refine And.intro (by first | omega | (simp (disch := decide) only [up_n, up_s, cp_n, rw_n, rw_s, up1_, if_true, if_false, ite_true, ite_false, reduceIte, eq_self, Int.reduceEq, true_and, and_true, not_true_eq_false, not_false_eq_true]; omega)) ?_) | (refine And.intro (fun hc => ?_) (fun hc => ?_) <;> (try (simp (disch := decide) only [up_n, up_s, cp_n, rw_n, rw_s, up1_, if_true, if_false, ite_true, ite_false, reduceIte, eq_self, Int.reduceEq, true_and, and_true, not_true_eq_false, not_false_eq_true] at hc)) <;> (try (exfalso; omega))) | (refine fun (hc : ¬ _) => ?_; try (simp (disch := decide) only [up_n, up_s, cp_n, rw_n, rw_s, up1_, if_true, if_false, ite_true, ite_false, reduceIte, eq_self, Int.reduceEq, true_and, and_true, not_true_eq_false, not_false_eq_true] at hc)) | (refine fun (hc : _ = _) => ?_; try (simp (disch := decide) only [up_n, up_s, cp_n, rw_n, rw_s, up1_, if_true, if_false, ite_true, ite_false, reduceIte, eq_self, Int.reduceEq, true_and, and_true, not_true_eq_false, not_false_eq_true] at hc)))
    all_goals first | (exfalso; omega) | skip
    have h3 := fun q => m_keeps_3 (M := fr_up M 88 (M 75 18) r) (r := r) (Q := Q) hr (by simp (disch := decide) only [up_n, up_s, cp_n, rw_n, rw_s, up1_, if_true, if_false, ite_true, ite_false, reduceIte, eq_self, Int.reduceEq, true_and, and_true, not_true_eq_false, not_false_eq_true]; omega) q 9 0 (M 89) (by omega) (by omega) cpr.zero
    refine q_run (h3 (fun g hg => ?_)) rw_id
    have hk : ku (M 75 18) = M 75 18 + 1 := by
      unfold ku
      rw [if_neg e]
    rw [hk] at h
    rw [up_as (k := 88)]
    simp (disch := decide) only [up_rw, rw_u, up_up, rw_rw, rw_cm]
    simp (disch := decide) only [up_n, up_s, cp_n, rw_n, rw_s, up1_, if_true, if_false, ite_true, ite_false, reduceIte, eq_self, Int.reduceEq, true_and, and_true, not_true_eq_false, not_false_eq_true]
    refine h _ _ ?_
    intro d hd1 hd2
    obtain rfl : d = 0 := hd2 e
    have hg : cpr g (M 89) (M 78) (9 * M 75 18) (9 * r) 9 := hg
    refine ⟨fun j q0 q1 => ?_, ?_, fun j q0 q1 => ?_, fun i q0 q1 => ?_⟩
    · simp (disch := decide) only [up_n, up_s, cp_n, rw_n, rw_s, up1_, if_true, if_false, ite_true, ite_false, reduceIte, eq_self, Int.reduceEq, true_and, and_true, not_true_eq_false, not_false_eq_true]
      rw [if_neg (by omega)]
      congr 1
      omega
    · simp (disch := decide) only [up_n, up_s, cp_n, rw_n, rw_s, up1_, if_true, if_false, ite_true, ite_false, reduceIte, eq_self, Int.reduceEq, true_and, and_true, not_true_eq_false, not_false_eq_true]
      rw [if_pos (by omega)]
    · rw [(hg j).2 (by omega)]
      congr 1
      omega
    · rw [(hg (9 * (M 75 18 - 0) + i)).1 (by omega)]
      congr 1
      omega
