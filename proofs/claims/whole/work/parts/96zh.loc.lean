/-- where a change of two places takes from -/
def ip (s i j a : Int) : Int := if s = 0 then sw i j a else if s = 1 then (if i ≤ a ∧ a ≤ j then i + j - a else a) else if s = 2 then mi i j a else mi j i a
def trf (s i j : Int) (rk : Int → Int) : Int → Int := fun a => rk (ip s i j a)
abbrev vld (n s i j : Int) : Prop := (0 ≤ s ∧ s ≤ 3) ∧ 1 ≤ i ∧ i < j ∧ j < n
theorem ip_rng {n s i j a : Int} (h : vld n s i j) (ha : 0 ≤ a ∧ a < n) : 0 ≤ ip s i j a ∧ ip s i j a < n := by
  obtain ⟨h1, h2, h3, h4⟩ := h
  unfold ip sw mi
  (repeat' split) <;> omega
theorem ip_inj {n s i j a b : Int} (h : vld n s i j) (e : ip s i j a = ip s i j b) : a = b := by
  obtain ⟨h1, h2, h3, h4⟩ := h
  unfold ip sw mi at e
  (repeat' split at e) <;> omega
theorem ip_0 {n s i j : Int} (h : vld n s i j) : ip s i j 0 = 0 := by
  obtain ⟨h1, h2, h3, h4⟩ := h
  unfold ip sw mi
  (repeat' split) <;> omega
theorem Pm.trf {n s i j : Int} {rk : Int → Int} (h : Pm n rk) (hv : vld n s i j) : Pm n (trf s i j rk) := by
  refine ⟨?_, fun a a0 a1 => ?_, fun a b a0 a1 b0 b1 e => ?_⟩
  · show rk (ip s i j 0) = 0
    rw [ip_0 hv]
    exact h.1
  · have := ip_rng hv ⟨a0, a1⟩
    exact h.2.1 _ this.1 this.2
  · have x := ip_rng hv ⟨a0, a1⟩
    have y := ip_rng hv ⟨b0, b1⟩
    exact ip_inj hv (h.2.2 _ _ x.1 x.2 y.1 y.2 e)
def gain (f : Int → Int → Int) (n : Int) (rk : Int → Int) (s i j : Int) : Prop := ws f n (trf s i j rk) n.toNat < ws f n rk n.toNat
def BF (f : Int → Int → Int) (n : Int) (rk : Int → Int) (s i j : Int) : Prop := ∀ s' i' j', vld n s' i' j' → (s' < s ∨ (s' = s ∧ (i' < i ∨ (i' = i ∧ j' < j)))) → ¬ gain f n rk s' i' j'
def FI (f : Int → Int → Int) (n : Int) (rk : Int → Int) (s i j : Int) : Prop := vld n s i j ∧ gain f n rk s i j ∧ BF f n rk s i j
def NI (f : Int → Int → Int) (n : Int) (rk : Int → Int) : Prop := ∀ s i j, vld n s i j → ¬ gain f n rk s i j
def LocN (f : Int → Int → Int) (n : Int) : Nat → (Int → Int) → (Int → Int) → Prop
  | 0, rk, rk' => NI f n rk ∧ ∀ a, 0 ≤ a → a < n → rk' a = rk a
  | k + 1, rk, rk' => ∃ s i j, FI f n rk s i j ∧ LocN f n k (trf s i j rk) rk'
set_option maxHeartbeats 4000000 in
set_option maxRecDepth 100000 in
theorem c_at_l {M : fr_M} {i j : Int} {Q : Option fr_V → fr_H → fr_M → Prop} (hi : 1 ≤ i ∧ i < j ∧ j < 9) (h : ∀ g, (∀ a, 0 ≤ a → a < 9 → g a = if i ≤ a ∧ a ≤ j then M 74 (i + j - a) else M 74 a) → Q none sh0 (rw_ M 23 g)) : ∀ (t : Nat) (b : Int) (g : Int → Int), i ≤ b → b + t = j + 1 → (∀ a, 0 ≤ a → a < 9 → g a = if i ≤ a ∧ a < b then M 74 (i + j - a) else M 74 a) → fr_Run 41 none 29 [some (.inr (.inl 22)), some (.inr (.inl 74)), some (.inl 1), some (.inl i), some (.inl j), some (.inl b)] [] sh0 (rw_ M 23 g) 0 0 Q := by
  intro t
  induction t with
  | zero =>
    intro b g q0 q1 q2
    have hh := h g (fun a a0 a1 => by
      rw [q2 a a0 a1]
      by_cases e : i ≤ a ∧ a ≤ j
      · rw [if_pos e, if_pos (by omega)]
      · rw [if_neg e, if_neg (by omega)])
    clear h
    refine fr_go k41 [29] 400 rfl ?_
    repeat' (first | (refine And.intro (by first | omega | (simp (disch := decide) only [up_n, up_s, cp_n, rw_n, rw_s, up1_, if_true, if_false, ite_true, ite_false, reduceIte, eq_self, Int.reduceEq, true_and, and_true, not_true_eq_false, not_false_eq_true]; omega)) ?_) | (refine And.intro (fun hc => ?_) (fun hc => ?_) <;> (try (simp (disch := decide) only [up_n, up_s, cp_n, rw_n, rw_s, up1_, if_true, if_false, ite_true, ite_false, reduceIte, eq_self, Int.reduceEq, true_and, and_true, not_true_eq_false, not_false_eq_true] at hc)) <;> (try (exfalso; omega))) | (refine fun (hc : ¬ _) => ?_; try (simp (disch := decide) only [up_n, up_s, cp_n, rw_n, rw_s, up1_, if_true, if_false, ite_true, ite_false, reduceIte, eq_self, Int.reduceEq, true_and, and_true, not_true_eq_false, not_false_eq_true] at hc)) | (refine fun (hc : _ = _) => ?_; try (simp (disch := decide) only [up_n, up_s, cp_n, rw_n, rw_s, up1_, if_true, if_false, ite_true, ite_false, reduceIte, eq_self, Int.reduceEq, true_and, and_true, not_true_eq_false, not_false_eq_true] at hc)))
    all_goals first | (exfalso; omega) | exact hh
  | succ t ih =>
    intro b g q0 q1 q2
    have hh := ih (b + 1) (up1 g b (M 74 (i + j - b))) (by omega) (by omega) (fun a a0 a1 => by
      rw [up1_]
      by_cases e : a = b
      · rw [if_pos e, if_pos (by omega), e]
      · rw [if_neg e, q2 a a0 a1]
        by_cases e2 : i ≤ a ∧ a < b
        · rw [if_pos e2, if_pos (by omega)]
        · rw [if_neg e2, if_neg (by omega)])
    clear ih h q2
    refine fr_go k41 [29] 400 rfl ?_
    repeat' (first | (refine And.intro (by first | omega | (simp (disch := decide) only [up_n, up_s, cp_n, rw_n, rw_s, up1_, if_true, if_false, ite_true, ite_false, reduceIte, eq_self, Int.reduceEq, true_and, and_true, not_true_eq_false, not_false_eq_true]; omega)) ?_) | (refine And.intro (fun hc => ?_) (fun hc => ?_) <;> (try (simp (disch := decide) only [up_n, up_s, cp_n, rw_n, rw_s, up1_, if_true, if_false, ite_true, ite_false, reduceIte, eq_self, Int.reduceEq, true_and, and_true, not_true_eq_false, not_false_eq_true] at hc)) <;> (try (exfalso; omega))) | (refine fun (hc : ¬ _) => ?_; try (simp (disch := decide) only [up_n, up_s, cp_n, rw_n, rw_s, up1_, if_true, if_false, ite_true, ite_false, reduceIte, eq_self, Int.reduceEq, true_and, and_true, not_true_eq_false, not_false_eq_true] at hc)) | (refine fun (hc : _ = _) => ?_; try (simp (disch := decide) only [up_n, up_s, cp_n, rw_n, rw_s, up1_, if_true, if_false, ite_true, ite_false, reduceIte, eq_self, Int.reduceEq, true_and, and_true, not_true_eq_false, not_false_eq_true] at hc)))
    all_goals first | (exfalso; omega) | skip
    simp (disch := decide) only [up_n, up_s, cp_n, rw_n, rw_s, up1_, if_true, if_false, ite_true, ite_false, reduceIte, eq_self, Int.reduceEq, true_and, and_true, not_true_eq_false, not_false_eq_true]
    simp (disch := decide) only [up_rw, rw_u, up_up, rw_rw, rw_cm]
    exact hh
set_option maxHeartbeats 4000000 in
set_option maxRecDepth 100000 in
theorem c_attempt {M : fr_M} {n s i j : Int} {Q : Option fr_V → fr_H → fr_M → Prop} (hn : n ≤ 9) (hv : vld n s i j) (h : ∀ g, (∀ a, 0 ≤ a → a < 9 → g a = M 74 (ip s i j a)) → Q none sh0 (rw_ M 23 g)) : fr_Call 41 [.inr (.inl 22), .inr (.inl 74), .inl s, .inl i, .inl j] sh0 M Q := by
  obtain ⟨h1, h2, h3, h4⟩ := hv
  rcases (show s = 0 ∨ s = 1 ∨ s = 2 ∨ s = 3 by omega) with rfl | rfl | rfl | rfl
  · refine fr_cgo k41 [some (.inr (.inl 22)), some (.inr (.inl 74)), some (.inl 0), some (.inl i), some (.inl j), none] 0 0 [29] 400 rfl rfl rfl rfl ?_
    repeat' (first | (refine And.intro (by first | omega | (simp (disch := decide) only [up_n, up_s, cp_n, rw_n, rw_s, up1_, if_true, if_false, ite_true, ite_false, reduceIte, eq_self, Int.reduceEq, true_and, and_true, not_true_eq_false, not_false_eq_true]; omega)) ?_) | (refine And.intro (fun hc => ?_) (fun hc => ?_) <;> (try (simp (disch := decide) only [up_n, up_s, cp_n, rw_n, rw_s, up1_, if_true, if_false, ite_true, ite_false, reduceIte, eq_self, Int.reduceEq, true_and, and_true, not_true_eq_false, not_false_eq_true] at hc)) <;> (try (exfalso; omega))) | (refine fun (hc : ¬ _) => ?_; try (simp (disch := decide) only [up_n, up_s, cp_n, rw_n, rw_s, up1_, if_true, if_false, ite_true, ite_false, reduceIte, eq_self, Int.reduceEq, true_and, and_true, not_true_eq_false, not_false_eq_true] at hc)) | (refine fun (hc : _ = _) => ?_; try (simp (disch := decide) only [up_n, up_s, cp_n, rw_n, rw_s, up1_, if_true, if_false, ite_true, ite_false, reduceIte, eq_self, Int.reduceEq, true_and, and_true, not_true_eq_false, not_false_eq_true] at hc)))
    all_goals first | (exfalso; omega) | skip
    all_goals (show Q none sh0 _)
    simp (disch := decide) only [up_n, up_s, cp_n, rw_n, rw_s, up1_, if_true, if_false, ite_true, ite_false, reduceIte, eq_self, Int.reduceEq, true_and, and_true, not_true_eq_false, not_false_eq_true]
    rw [cp_as]
    simp (disch := decide) only [up_rw, rw_u, up_up, rw_rw, rw_cm]
    refine h _ (fun a a0 a1 => ?_)
    simp only [up1_]
    unfold ip sw mi
    (repeat' split) <;> first | rfl | (exfalso; omega) | (congr 1; omega)
  · refine fr_cgo k41 [some (.inr (.inl 22)), some (.inr (.inl 74)), some (.inl 1), some (.inl i), some (.inl j), none] 0 0 [29] 400 rfl rfl rfl rfl ?_
    repeat' (first | (refine And.intro (by first | omega | (simp (disch := decide) only [up_n, up_s, cp_n, rw_n, rw_s, up1_, if_true, if_false, ite_true, ite_false, reduceIte, eq_self, Int.reduceEq, true_and, and_true, not_true_eq_false, not_false_eq_true]; omega)) ?_) | (refine And.intro (fun hc => ?_) (fun hc => ?_) <;> (try (simp (disch := decide) only [up_n, up_s, cp_n, rw_n, rw_s, up1_, if_true, if_false, ite_true, ite_false, reduceIte, eq_self, Int.reduceEq, true_and, and_true, not_true_eq_false, not_false_eq_true] at hc)) <;> (try (exfalso; omega))) | (refine fun (hc : ¬ _) => ?_; try (simp (disch := decide) only [up_n, up_s, cp_n, rw_n, rw_s, up1_, if_true, if_false, ite_true, ite_false, reduceIte, eq_self, Int.reduceEq, true_and, and_true, not_true_eq_false, not_false_eq_true] at hc)) | (refine fun (hc : _ = _) => ?_; try (simp (disch := decide) only [up_n, up_s, cp_n, rw_n, rw_s, up1_, if_true, if_false, ite_true, ite_false, reduceIte, eq_self, Int.reduceEq, true_and, and_true, not_true_eq_false, not_false_eq_true] at hc)))
    all_goals first | (exfalso; omega) | skip
    all_goals (show fr_Run 41 none 29 _ _ _ _ 0 0 Q)
    rw [cp_as]
    refine c_at_l (by omega) (fun g hg => h g (fun a a0 a1 => ?_)) (j + 1 - i).toNat i _ (by omega) (by omega) (fun a a0 a1 => ?_)
    · rw [hg a a0 a1]
      unfold ip
      (repeat' split) <;> first | rfl | (exfalso; omega) | (congr 1; omega)
    · (repeat' split) <;> first | rfl | (exfalso; omega) | (congr 1; omega)
  · refine fr_cgo k41 [some (.inr (.inl 22)), some (.inr (.inl 74)), some (.inl 2), some (.inl i), some (.inl j), none] 0 0 [29] 400 rfl rfl rfl rfl ?_
    repeat' (first | (refine And.intro (by first | omega | (simp (disch := decide) only [up_n, up_s, cp_n, rw_n, rw_s, up1_, if_true, if_false, ite_true, ite_false, reduceIte, eq_self, Int.reduceEq, true_and, and_true, not_true_eq_false, not_false_eq_true]; omega)) ?_) | (refine And.intro (fun hc => ?_) (fun hc => ?_) <;> (try (simp (disch := decide) only [up_n, up_s, cp_n, rw_n, rw_s, up1_, if_true, if_false, ite_true, ite_false, reduceIte, eq_self, Int.reduceEq, true_and, and_true, not_true_eq_false, not_false_eq_true] at hc)) <;> (try (exfalso; omega))) | (refine fun (hc : ¬ _) => ?_; try (simp (disch := decide) only [up_n, up_s, cp_n, rw_n, rw_s, up1_, if_true, if_false, ite_true, ite_false, reduceIte, eq_self, Int.reduceEq, true_and, and_true, not_true_eq_false, not_false_eq_true] at hc)) | (refine fun (hc : _ = _) => ?_; try (simp (disch := decide) only [up_n, up_s, cp_n, rw_n, rw_s, up1_, if_true, if_false, ite_true, ite_false, reduceIte, eq_self, Int.reduceEq, true_and, and_true, not_true_eq_false, not_false_eq_true] at hc)))
    all_goals first | (exfalso; omega) | skip
    all_goals (show Q none sh0 _)
    simp (disch := decide) only [up_n, up_s, cp_n, rw_n, rw_s, up1_, if_true, if_false, ite_true, ite_false, reduceIte, eq_self, Int.reduceEq, true_and, and_true, not_true_eq_false, not_false_eq_true]
    rw [cp_as, cp_as]
    simp (disch := decide) only [up_rw, rw_u, up_up, rw_rw, rw_cm]
    refine h _ (fun a a0 a1 => ?_)
    have x74 : ∀ (G : Int → Int) (b : Int), rw_ M 23 G 74 b = M 74 b := fun _ _ => rfl
    have x23 : ∀ (G : Int → Int) (b : Int), rw_ M 23 G 23 b = G b := fun _ _ => rfl
    simp only [up1_, x74, x23]
    unfold ip sw mi
    (repeat' split) <;> first | rfl | (exfalso; omega) | (congr 1; omega)
  · refine fr_cgo k41 [some (.inr (.inl 22)), some (.inr (.inl 74)), some (.inl 3), some (.inl i), some (.inl j), none] 0 0 [29] 400 rfl rfl rfl rfl ?_
    repeat' (first | (refine And.intro (by first | omega | (simp (disch := decide) only [up_n, up_s, cp_n, rw_n, rw_s, up1_, if_true, if_false, ite_true, ite_false, reduceIte, eq_self, Int.reduceEq, true_and, and_true, not_true_eq_false, not_false_eq_true]; omega)) ?_) | (refine And.intro (fun hc => ?_) (fun hc => ?_) <;> (try (simp (disch := decide) only [up_n, up_s, cp_n, rw_n, rw_s, up1_, if_true, if_false, ite_true, ite_false, reduceIte, eq_self, Int.reduceEq, true_and, and_true, not_true_eq_false, not_false_eq_true] at hc)) <;> (try (exfalso; omega))) | (refine fun (hc : ¬ _) => ?_; try (simp (disch := decide) only [up_n, up_s, cp_n, rw_n, rw_s, up1_, if_true, if_false, ite_true, ite_false, reduceIte, eq_self, Int.reduceEq, true_and, and_true, not_true_eq_false, not_false_eq_true] at hc)) | (refine fun (hc : _ = _) => ?_; try (simp (disch := decide) only [up_n, up_s, cp_n, rw_n, rw_s, up1_, if_true, if_false, ite_true, ite_false, reduceIte, eq_self, Int.reduceEq, true_and, and_true, not_true_eq_false, not_false_eq_true] at hc)))
    all_goals first | (exfalso; omega) | skip
    all_goals (show Q none sh0 _)
    simp (disch := decide) only [up_n, up_s, cp_n, rw_n, rw_s, up1_, if_true, if_false, ite_true, ite_false, reduceIte, eq_self, Int.reduceEq, true_and, and_true, not_true_eq_false, not_false_eq_true]
    rw [cp_as, cp_as]
    simp (disch := decide) only [up_rw, rw_u, up_up, rw_rw, rw_cm]
    refine h _ (fun a a0 a1 => ?_)
    have x74 : ∀ (G : Int → Int) (b : Int), rw_ M 23 G 74 b = M 74 b := fun _ _ => rfl
    have x23 : ∀ (G : Int → Int) (b : Int), rw_ M 23 G 23 b = G b := fun _ _ => rfl
    simp only [up1_, x74, x23]
    unfold ip sw mi
    (repeat' split) <;> first | rfl | (exfalso; omega) | (congr 1; omega)
set_option maxHeartbeats 4000000 in
set_option maxRecDepth 100000 in
theorem c_io3 {M : fr_M} {f : Int → Int → Int} {n s i : Int} {rk : Int → Int} {Q : Option fr_V → fr_H → fr_M → Prop} (hn : M 18 2 = n ∧ 0 < n ∧ n ≤ 9) (hr : ∀ a, 0 ≤ a → a < n → M 74 a = rk a ∧ 0 ≤ rk a ∧ rk a < n) (hf : ∀ i j, 0 ≤ i → i < n → 0 ≤ f i j ∧ f i j ≤ 6000000) (hp : PT f n n (M 19)) (hs : 0 ≤ s ∧ s ≤ 3) (hi : 1 ≤ i ∧ i < n) (h1 : ∀ s i j g23 g74, FI f n rk s i j → (∀ a, 0 ≤ a → a < 9 → g74 a = M 74 (ip s i j a)) → Q (some (.inl 1)) sh0 (rw_ (rw_ M 23 g23) 74 g74)) (h : ∀ g, BF f n rk s (i + 1) (i + 2) → fr_Run 42 none 12 [some (.inr (.inl 22)), some (.inr (.inl 74)), some (.inl (ws f n rk n.toNat)), some (.inl s), some (.inl (i + 1)), some (.inl n)] [] sh0 (rw_ M 23 g) 0 0 Q) : ∀ (t : Nat) (j : Int) (g : Int → Int), i < j → j + t = n → BF f n rk s i j → fr_Run 42 none 21 [some (.inr (.inl 22)), some (.inr (.inl 74)), some (.inl (ws f n rk n.toNat)), some (.inl s), some (.inl i), some (.inl j)] [] sh0 (rw_ M 23 g) 0 0 Q := by
  intro t
  induction t with
  | zero =>
    intro j g q0 q1 q2
    have e : j = n := by omega
    have hh := h g (fun s' i' j' hv hlt => q2 s' i' j' hv (by omega))
    clear h h1
    subst e
    refine fr_go k42 [12, 21] 400 rfl ?_
    repeat' (first | (refine And.intro (by first | omega | (simp (disch := decide) only [up_n, up_s, cp_n, rw_n, rw_s, up1_, if_true, if_false, ite_true, ite_false, reduceIte, eq_self, Int.reduceEq, true_and, and_true, not_true_eq_false, not_false_eq_true]; omega)) ?_) | (refine And.intro (fun hc => ?_) (fun hc => ?_) <;> (try (simp (disch := decide) only [up_n, up_s, cp_n, rw_n, rw_s, up1_, if_true, if_false, ite_true, ite_false, reduceIte, eq_self, Int.reduceEq, true_and, and_true, not_true_eq_false, not_false_eq_true] at hc)) <;> (try (exfalso; omega))) | (refine fun (hc : ¬ _) => ?_; try (simp (disch := decide) only [up_n, up_s, cp_n, rw_n, rw_s, up1_, if_true, if_false, ite_true, ite_false, reduceIte, eq_self, Int.reduceEq, true_and, and_true, not_true_eq_false, not_false_eq_true] at hc)) | (refine fun (hc : _ = _) => ?_; try (simp (disch := decide) only [up_n, up_s, cp_n, rw_n, rw_s, up1_, if_true, if_false, ite_true, ite_false, reduceIte, eq_self, Int.reduceEq, true_and, and_true, not_true_eq_false, not_false_eq_true] at hc)))
    all_goals first | (exfalso; omega) | exact hh
  | succ t ih =>
    intro j g q0 q1 q2
    have hv : vld n s i j := ⟨hs, hi.1, q0, by omega⟩
    refine fr_go k42 [12, 21] 400 rfl ?_
    repeat' (first | (refine And.intro (by first | omega | (simp (disch := decide) only [up_n, up_s, cp_n, rw_n, rw_s, up1_, if_true, if_false, ite_true, ite_false, reduceIte, eq_self, Int.reduceEq, true_and, and_true, not_true_eq_false, not_false_eq_true]; omega)) ?_) | (refine And.intro (fun hc => ?_) (fun hc => ?_) <;> (try (simp (disch := decide) only [up_n, up_s, cp_n, rw_n, rw_s, up1_, if_true, if_false, ite_true, ite_false, reduceIte, eq_self, Int.reduceEq, true_and, and_true, not_true_eq_false, not_false_eq_true] at hc)) <;> (try (exfalso; omega))) | (refine fun (hc : ¬ _) => ?_; try (simp (disch := decide) only [up_n, up_s, cp_n, rw_n, rw_s, up1_, if_true, if_false, ite_true, ite_false, reduceIte, eq_self, Int.reduceEq, true_and, and_true, not_true_eq_false, not_false_eq_true] at hc)) | (refine fun (hc : _ = _) => ?_; try (simp (disch := decide) only [up_n, up_s, cp_n, rw_n, rw_s, up1_, if_true, if_false, ite_true, ite_false, reduceIte, eq_self, Int.reduceEq, true_and, and_true, not_true_eq_false, not_false_eq_true] at hc)))
    all_goals first | (exfalso; omega) | skip
    refine c_attempt (n := n) hn.2.2 hv (fun g' hg' => ?_)
    have hg2 : ∀ a, 0 ≤ a → a < 9 → g' a = M 74 (ip s i j a) := hg'
    have hrg : ∀ a, 0 ≤ a → a < n → g' a = trf s i j rk a ∧ 0 ≤ trf s i j rk a ∧ trf s i j rk a < n := fun a a0 a1 => by
      have x := ip_rng hv ⟨a0, a1⟩
      have y := hr _ x.1 x.2
      rw [hg2 a a0 (by omega), y.1]
      exact ⟨rfl, y.2⟩
    repeat' (first | (refine And.intro (by first | omega | (simp (disch := decide) only [up_n, up_s, cp_n, rw_n, rw_s, up1_, if_true, if_false, ite_true, ite_false, reduceIte, eq_self, Int.reduceEq, true_and, and_true, not_true_eq_false, not_false_eq_true]; omega)) ?_) | (refine And.intro (fun hc => ?_) (fun hc => ?_) <;> (try (simp (disch := decide) only [up_n, up_s, cp_n, rw_n, rw_s, up1_, if_true, if_false, ite_true, ite_false, reduceIte, eq_self, Int.reduceEq, true_and, and_true, not_true_eq_false, not_false_eq_true] at hc)) <;> (try (exfalso; omega))) | (refine fun (hc : ¬ _) => ?_; try (simp (disch := decide) only [up_n, up_s, cp_n, rw_n, rw_s, up1_, if_true, if_false, ite_true, ite_false, reduceIte, eq_self, Int.reduceEq, true_and, and_true, not_true_eq_false, not_false_eq_true] at hc)) | (refine fun (hc : _ = _) => ?_; try (simp (disch := decide) only [up_n, up_s, cp_n, rw_n, rw_s, up1_, if_true, if_false, ite_true, ite_false, reduceIte, eq_self, Int.reduceEq, true_and, and_true, not_true_eq_false, not_false_eq_true] at hc)))
    refine c_weigh_23 (n := n) (f := f) (rk := trf s i j rk) hn hrg hf hp ?_
    by_cases hg : ws f n (trf s i j rk) n.toNat < ws f n rk n.toNat
    · have hh := h1 s i j g' (fun b => if 0 ≤ b ∧ b < 0 + 9 then g' (0 + (b - 0)) else M 74 b) ⟨hv, hg, q2⟩ (fun a a0 a1 => by
        show (if 0 ≤ a ∧ a < 0 + 9 then g' (0 + (a - 0)) else M 74 a) = _
        rw [if_pos (by omega), show 0 + (a - 0) = a by omega]
        exact hg2 a a0 a1)
      clear ih h h1 hr hf hp q2 hg' hg2 hrg
      generalize ws f n (trf s i j rk) n.toNat = w1 at *
      generalize ws f n rk n.toNat = w0 at *
      repeat' (first | (refine And.intro (by first | omega | (simp (disch := decide) only [up_n, up_s, cp_n, rw_n, rw_s, up1_, if_true, if_false, ite_true, ite_false, reduceIte, eq_self, Int.reduceEq, true_and, and_true, not_true_eq_false, not_false_eq_true]; omega)) ?_) | (refine And.intro (fun hc => ?_) (fun hc => ?_) <;> (try (simp (disch := decide) only [up_n, up_s, cp_n, rw_n, rw_s, up1_, if_true, if_false, ite_true, ite_false, reduceIte, eq_self, Int.reduceEq, true_and, and_true, not_true_eq_false, not_false_eq_true] at hc)) <;> (try (exfalso; omega))) | (refine fun (hc : ¬ _) => ?_; try (simp (disch := decide) only [up_n, up_s, cp_n, rw_n, rw_s, up1_, if_true, if_false, ite_true, ite_false, reduceIte, eq_self, Int.reduceEq, true_and, and_true, not_true_eq_false, not_false_eq_true] at hc)) | (refine fun (hc : _ = _) => ?_; try (simp (disch := decide) only [up_n, up_s, cp_n, rw_n, rw_s, up1_, if_true, if_false, ite_true, ite_false, reduceIte, eq_self, Int.reduceEq, true_and, and_true, not_true_eq_false, not_false_eq_true] at hc)))
      all_goals first | (exfalso; omega) | skip
      all_goals (show Q (some (.inl 1)) sh0 _)
      rw [cp_as]
      simp (disch := decide) only [up_n, up_s, cp_n, rw_n, rw_s, up1_, if_true, if_false, ite_true, ite_false, reduceIte, eq_self, Int.reduceEq, true_and, and_true, not_true_eq_false, not_false_eq_true]
      simp (disch := decide) only [up_rw, rw_u, up_up, rw_rw, rw_cm]
      exact hh
    · have hh := ih (j + 1) g' (by omega) (by omega) (fun s' i' j' hv' hlt => by
        by_cases e : s' = s ∧ i' = i ∧ j' = j
        · obtain ⟨rfl, rfl, rfl⟩ := e
          exact hg
        · exact q2 s' i' j' hv' (by omega))
      clear ih h h1 hr hf hp q2 hg' hg2 hrg
      generalize ws f n (trf s i j rk) n.toNat = w1 at *
      generalize ws f n rk n.toNat = w0 at *
      repeat' (first | (refine And.intro (by first | omega | (simp (disch := decide) only [up_n, up_s, cp_n, rw_n, rw_s, up1_, if_true, if_false, ite_true, ite_false, reduceIte, eq_self, Int.reduceEq, true_and, and_true, not_true_eq_false, not_false_eq_true]; omega)) ?_) | (refine And.intro (fun hc => ?_) (fun hc => ?_) <;> (try (simp (disch := decide) only [up_n, up_s, cp_n, rw_n, rw_s, up1_, if_true, if_false, ite_true, ite_false, reduceIte, eq_self, Int.reduceEq, true_and, and_true, not_true_eq_false, not_false_eq_true] at hc)) <;> (try (exfalso; omega))) | (refine fun (hc : ¬ _) => ?_; try (simp (disch := decide) only [up_n, up_s, cp_n, rw_n, rw_s, up1_, if_true, if_false, ite_true, ite_false, reduceIte, eq_self, Int.reduceEq, true_and, and_true, not_true_eq_false, not_false_eq_true] at hc)) | (refine fun (hc : _ = _) => ?_; try (simp (disch := decide) only [up_n, up_s, cp_n, rw_n, rw_s, up1_, if_true, if_false, ite_true, ite_false, reduceIte, eq_self, Int.reduceEq, true_and, and_true, not_true_eq_false, not_false_eq_true] at hc)))
      all_goals first | (exfalso; omega) | skip
      simp (disch := decide) only [up_rw, rw_u, up_up, rw_rw, rw_cm]
      exact hh
set_option maxHeartbeats 4000000 in
set_option maxRecDepth 100000 in
theorem c_io2 {M : fr_M} {f : Int → Int → Int} {n s : Int} {rk : Int → Int} {Q : Option fr_V → fr_H → fr_M → Prop} (hn : M 18 2 = n ∧ 0 < n ∧ n ≤ 9) (hr : ∀ a, 0 ≤ a → a < n → M 74 a = rk a ∧ 0 ≤ rk a ∧ rk a < n) (hf : ∀ i j, 0 ≤ i → i < n → 0 ≤ f i j ∧ f i j ≤ 6000000) (hp : PT f n n (M 19)) (hs : 0 ≤ s ∧ s ≤ 3) (h1 : ∀ s i j g23 g74, FI f n rk s i j → (∀ a, 0 ≤ a → a < 9 → g74 a = M 74 (ip s i j a)) → Q (some (.inl 1)) sh0 (rw_ (rw_ M 23 g23) 74 g74)) (h : ∀ g x4 x5, BF f n rk (s + 1) 1 2 → fr_Run 42 none 7 [some (.inr (.inl 22)), some (.inr (.inl 74)), some (.inl (ws f n rk n.toNat)), some (.inl (s + 1)), x4, x5] [] sh0 (rw_ M 23 g) 0 0 Q) : ∀ (t : Nat) (i : Int) (g : Int → Int) (x5 : Option fr_V), 1 ≤ i → i + t = n → BF f n rk s i (i + 1) → fr_Run 42 none 12 [some (.inr (.inl 22)), some (.inr (.inl 74)), some (.inl (ws f n rk n.toNat)), some (.inl s), some (.inl i), x5] [] sh0 (rw_ M 23 g) 0 0 Q := by
  intro t
  induction t with
  | zero =>
    intro i g x5 q0 q1 q2
    have e : i = n := by omega
    have hh := h g (some (.inl i)) x5 (fun s' i' j' hv hlt => by
      obtain ⟨v1, v2, v3, v4⟩ := id hv
      exact q2 s' i' j' hv (by omega))
    clear h h1
    subst e
    refine fr_go k42 [7, 12] 400 rfl ?_
    repeat' (first | (refine And.intro (by first | omega | (simp (disch := decide) only [up_n, up_s, cp_n, rw_n, rw_s, up1_, if_true, if_false, ite_true, ite_false, reduceIte, eq_self, Int.reduceEq, true_and, and_true, not_true_eq_false, not_false_eq_true]; omega)) ?_) | (refine And.intro (fun hc => ?_) (fun hc => ?_) <;> (try (simp (disch := decide) only [up_n, up_s, cp_n, rw_n, rw_s, up1_, if_true, if_false, ite_true, ite_false, reduceIte, eq_self, Int.reduceEq, true_and, and_true, not_true_eq_false, not_false_eq_true] at hc)) <;> (try (exfalso; omega))) | (refine fun (hc : ¬ _) => ?_; try (simp (disch := decide) only [up_n, up_s, cp_n, rw_n, rw_s, up1_, if_true, if_false, ite_true, ite_false, reduceIte, eq_self, Int.reduceEq, true_and, and_true, not_true_eq_false, not_false_eq_true] at hc)) | (refine fun (hc : _ = _) => ?_; try (simp (disch := decide) only [up_n, up_s, cp_n, rw_n, rw_s, up1_, if_true, if_false, ite_true, ite_false, reduceIte, eq_self, Int.reduceEq, true_and, and_true, not_true_eq_false, not_false_eq_true] at hc)))
    all_goals first | (exfalso; omega) | exact hh
  | succ t ih =>
    intro i g x5 q0 q1 q2
    have hh := c_io3 (Q := Q) hn hr hf hp hs (i := i) (by omega) h1 (fun g' hB => ih (i + 1) g' _ (by omega) (by omega) (by rw [show i + 1 + 1 = i + 2 by omega]; exact hB)) (n - (i + 1)).toNat (i + 1) g (by omega) (by omega) q2
    clear ih h h1 hr hf hp
    refine fr_go k42 [12, 21] 400 rfl ?_
    repeat' (first | (refine And.intro (by first | omega | (simp (disch := decide) only [up_n, up_s, cp_n, rw_n, rw_s, up1_, if_true, if_false, ite_true, ite_false, reduceIte, eq_self, Int.reduceEq, true_and, and_true, not_true_eq_false, not_false_eq_true]; omega)) ?_) | (refine And.intro (fun hc => ?_) (fun hc => ?_) <;> (try (simp (disch := decide) only [up_n, up_s, cp_n, rw_n, rw_s, up1_, if_true, if_false, ite_true, ite_false, reduceIte, eq_self, Int.reduceEq, true_and, and_true, not_true_eq_false, not_false_eq_true] at hc)) <;> (try (exfalso; omega))) | (refine fun (hc : ¬ _) => ?_; try (simp (disch := decide) only [up_n, up_s, cp_n, rw_n, rw_s, up1_, if_true, if_false, ite_true, ite_false, reduceIte, eq_self, Int.reduceEq, true_and, and_true, not_true_eq_false, not_false_eq_true] at hc)) | (refine fun (hc : _ = _) => ?_; try (simp (disch := decide) only [up_n, up_s, cp_n, rw_n, rw_s, up1_, if_true, if_false, ite_true, ite_false, reduceIte, eq_self, Int.reduceEq, true_and, and_true, not_true_eq_false, not_false_eq_true] at hc)))
    all_goals first | (exfalso; omega) | exact hh
set_option maxHeartbeats 4000000 in
set_option maxRecDepth 100000 in
theorem c_io1 {M : fr_M} {f : Int → Int → Int} {n : Int} {rk : Int → Int} {Q : Option fr_V → fr_H → fr_M → Prop} (hn : M 18 2 = n ∧ 0 < n ∧ n ≤ 9) (hr : ∀ a, 0 ≤ a → a < n → M 74 a = rk a ∧ 0 ≤ rk a ∧ rk a < n) (hf : ∀ i j, 0 ≤ i → i < n → 0 ≤ f i j ∧ f i j ≤ 6000000) (hp : PT f n n (M 19)) (h1 : ∀ s i j g23 g74, FI f n rk s i j → (∀ a, 0 ≤ a → a < 9 → g74 a = M 74 (ip s i j a)) → Q (some (.inl 1)) sh0 (rw_ (rw_ M 23 g23) 74 g74)) (h0 : ∀ g23, NI f n rk → Q (some (.inl 0)) sh0 (rw_ M 23 g23)) : ∀ (t : Nat) (s : Int) (g : Int → Int) (x4 x5 : Option fr_V), 0 ≤ s → s + t = 4 → BF f n rk s 1 2 → fr_Run 42 none 7 [some (.inr (.inl 22)), some (.inr (.inl 74)), some (.inl (ws f n rk n.toNat)), some (.inl s), x4, x5] [] sh0 (rw_ M 23 g) 0 0 Q := by
  intro t
  induction t with
  | zero =>
    intro s g x4 x5 q0 q1 q2
    have hh := h0 g (fun s' i' j' hv => q2 s' i' j' hv (by
      obtain ⟨v1, v2, v3, v4⟩ := hv
      omega))
    clear h0 h1
    refine fr_go k42 [7] 400 rfl ?_
    repeat' (first | (refine And.intro (by first | omega | (simp (disch := decide) only [up_n, up_s, cp_n, rw_n, rw_s, up1_, if_true, if_false, ite_true, ite_false, reduceIte, eq_self, Int.reduceEq, true_and, and_true, not_true_eq_false, not_false_eq_true]; omega)) ?_) | (refine And.intro (fun hc => ?_) (fun hc => ?_) <;> (try (simp (disch := decide) only [up_n, up_s, cp_n, rw_n, rw_s, up1_, if_true, if_false, ite_true, ite_false, reduceIte, eq_self, Int.reduceEq, true_and, and_true, not_true_eq_false, not_false_eq_true] at hc)) <;> (try (exfalso; omega))) | (refine fun (hc : ¬ _) => ?_; try (simp (disch := decide) only [up_n, up_s, cp_n, rw_n, rw_s, up1_, if_true, if_false, ite_true, ite_false, reduceIte, eq_self, Int.reduceEq, true_and, and_true, not_true_eq_false, not_false_eq_true] at hc)) | (refine fun (hc : _ = _) => ?_; try (simp (disch := decide) only [up_n, up_s, cp_n, rw_n, rw_s, up1_, if_true, if_false, ite_true, ite_false, reduceIte, eq_self, Int.reduceEq, true_and, and_true, not_true_eq_false, not_false_eq_true] at hc)))
    all_goals first | (exfalso; omega) | exact hh
  | succ t ih =>
    intro s g x4 x5 q0 q1 q2
    have hh := c_io2 (Q := Q) hn hr hf hp (s := s) (by omega) h1 (fun g' x4 x5 hB => ih (s + 1) g' x4 x5 (by omega) (by omega) hB) (n - 1).toNat 1 g x5 (by omega) (by omega) q2
    clear ih h0 h1 hr hf hp
    refine fr_go k42 [7, 12] 400 rfl ?_
    repeat' (first | (refine And.intro (by first | omega | (simp (disch := decide) only [up_n, up_s, cp_n, rw_n, rw_s, up1_, if_true, if_false, ite_true, ite_false, reduceIte, eq_self, Int.reduceEq, true_and, and_true, not_true_eq_false, not_false_eq_true]; omega)) ?_) | (refine And.intro (fun hc => ?_) (fun hc => ?_) <;> (try (simp (disch := decide) only [up_n, up_s, cp_n, rw_n, rw_s, up1_, if_true, if_false, ite_true, ite_false, reduceIte, eq_self, Int.reduceEq, true_and, and_true, not_true_eq_false, not_false_eq_true] at hc)) <;> (try (exfalso; omega))) | (refine fun (hc : ¬ _) => ?_; try (simp (disch := decide) only [up_n, up_s, cp_n, rw_n, rw_s, up1_, if_true, if_false, ite_true, ite_false, reduceIte, eq_self, Int.reduceEq, true_and, and_true, not_true_eq_false, not_false_eq_true] at hc)) | (refine fun (hc : _ = _) => ?_; try (simp (disch := decide) only [up_n, up_s, cp_n, rw_n, rw_s, up1_, if_true, if_false, ite_true, ite_false, reduceIte, eq_self, Int.reduceEq, true_and, and_true, not_true_eq_false, not_false_eq_true] at hc)))
    all_goals first | (exfalso; omega) | exact hh
set_option maxHeartbeats 4000000 in
set_option maxRecDepth 100000 in
theorem c_improveOnce {M : fr_M} {f : Int → Int → Int} {n : Int} {rk : Int → Int} {Q : Option fr_V → fr_H → fr_M → Prop} (hn : M 18 2 = n ∧ 0 < n ∧ n ≤ 9) (hr : ∀ a, 0 ≤ a → a < n → M 74 a = rk a ∧ 0 ≤ rk a ∧ rk a < n) (hf : ∀ i j, 0 ≤ i → i < n → 0 ≤ f i j ∧ f i j ≤ 6000000) (hp : PT f n n (M 19)) (h1 : ∀ s i j g23 g74, FI f n rk s i j → (∀ a, 0 ≤ a → a < 9 → g74 a = M 74 (ip s i j a)) → Q (some (.inl 1)) sh0 (rw_ (rw_ M 23 g23) 74 g74)) (h0 : ∀ g23, NI f n rk → Q (some (.inl 0)) sh0 (rw_ M 23 g23)) : fr_Call 42 [.inr (.inl 22), .inr (.inl 74)] sh0 M Q := by
  refine fr_cgo k42 [some (.inr (.inl 22)), some (.inr (.inl 74)), none, none, none, none] 0 0 [7] 400 rfl rfl rfl rfl ?_
  repeat' (first | (refine And.intro (by first | omega | (simp (disch := decide) only [up_n, up_s, cp_n, rw_n, rw_s, up1_, if_true, if_false, ite_true, ite_false, reduceIte, eq_self, Int.reduceEq, true_and, and_true, not_true_eq_false, not_false_eq_true]; omega)) ?_) | (refine And.intro (fun hc => ?_) (fun hc => ?_) <;> (try (simp (disch := decide) only [up_n, up_s, cp_n, rw_n, rw_s, up1_, if_true, if_false, ite_true, ite_false, reduceIte, eq_self, Int.reduceEq, true_and, and_true, not_true_eq_false, not_false_eq_true] at hc)) <;> (try (exfalso; omega))) | (refine fun (hc : ¬ _) => ?_; try (simp (disch := decide) only [up_n, up_s, cp_n, rw_n, rw_s, up1_, if_true, if_false, ite_true, ite_false, reduceIte, eq_self, Int.reduceEq, true_and, and_true, not_true_eq_false, not_false_eq_true] at hc)) | (refine fun (hc : _ = _) => ?_; try (simp (disch := decide) only [up_n, up_s, cp_n, rw_n, rw_s, up1_, if_true, if_false, ite_true, ite_false, reduceIte, eq_self, Int.reduceEq, true_and, and_true, not_true_eq_false, not_false_eq_true] at hc)))
  refine c_weigh_74 (n := n) (f := f) (rk := rk) hn hr hf hp ?_
  have hh := c_io1 (Q := Q) hn hr hf hp h1 h0 4 0 (M 23) none none (by omega) (by omega) (fun s' i' j' hv hlt => by
    obtain ⟨v1, v2, v3, v4⟩ := hv
    omega)
  clear h0 h1
  repeat' (first | (refine And.intro (by first | omega | (simp (disch := decide) only [up_n, up_s, cp_n, rw_n, rw_s, up1_, if_true, if_false, ite_true, ite_false, reduceIte, eq_self, Int.reduceEq, true_and, and_true, not_true_eq_false, not_false_eq_true]; omega)) ?_) | (refine And.intro (fun hc => ?_) (fun hc => ?_) <;> (try (simp (disch := decide) only [up_n, up_s, cp_n, rw_n, rw_s, up1_, if_true, if_false, ite_true, ite_false, reduceIte, eq_self, Int.reduceEq, true_and, and_true, not_true_eq_false, not_false_eq_true] at hc)) <;> (try (exfalso; omega))) | (refine fun (hc : ¬ _) => ?_; try (simp (disch := decide) only [up_n, up_s, cp_n, rw_n, rw_s, up1_, if_true, if_false, ite_true, ite_false, reduceIte, eq_self, Int.reduceEq, true_and, and_true, not_true_eq_false, not_false_eq_true] at hc)) | (refine fun (hc : _ = _) => ?_; try (simp (disch := decide) only [up_n, up_s, cp_n, rw_n, rw_s, up1_, if_true, if_false, ite_true, ite_false, reduceIte, eq_self, Int.reduceEq, true_and, and_true, not_true_eq_false, not_false_eq_true] at hc)))
  exact q_run hh rw_id
