set_option maxHeartbeats 4000000 in
set_option maxRecDepth 100000 in
theorem c_bitOf {M : fr_M} {k : Int} {Q : Option fr_V → fr_H → fr_M → Prop} (hk : 0 < k ∧ k < 9) (h : Q (some (.inl (b2 (k - 1)))) sh0 M) : fr_Call 1 [.inl k] sh0 M Q := by
  have e := (bit_shl (k := k - 1) (by omega)).1
  rw [← e] at h
  refine fr_cgo k1 [some (.inl k)] 0 0 [] 400 rfl rfl rfl rfl ?_
  repeat' (first | (refine And.intro (by first | omega | (simp (disch := decide) only [up_n, up_s, cp_n, rw_n, rw_s, up1_, if_true, if_false, ite_true, ite_false, reduceIte, eq_self, Int.reduceEq, true_and, and_true, not_true_eq_false, not_false_eq_true]; omega)) ?_) | (refine And.intro (fun hc => ?_) (fun hc => ?_) <;> (try (simp (disch := decide) only [up_n, up_s, cp_n, rw_n, rw_s, up1_, if_true, if_false, ite_true, ite_false, reduceIte, eq_self, Int.reduceEq, true_and, and_true, not_true_eq_false, not_false_eq_true] at hc)) <;> (try (exfalso; omega))) | (refine fun (hc : ¬ _) => ?_; try (simp (disch := decide) only [up_n, up_s, cp_n, rw_n, rw_s, up1_, if_true, if_false, ite_true, ite_false, reduceIte, eq_self, Int.reduceEq, true_and, and_true, not_true_eq_false, not_false_eq_true] at hc)) | (refine fun (hc : _ = _) => ?_; try (simp (disch := decide) only [up_n, up_s, cp_n, rw_n, rw_s, up1_, if_true, if_false, ite_true, ite_false, reduceIte, eq_self, Int.reduceEq, true_and, and_true, not_true_eq_false, not_false_eq_true] at hc)))
  all_goals first | (exfalso; omega) | exact h
set_option maxHeartbeats 4000000 in
set_option maxRecDepth 100000 in
theorem c_bitOf1 {M : fr_M} {k : Int} {Q : Option fr_V → fr_H → fr_M → Prop} (hk : 0 ≤ k ∧ k < 8) (h : Q (some (.inl (b2 k))) sh0 M) : fr_Call 1 [.inl (k + 1)] sh0 M Q := by
  refine c_bitOf (by omega) ?_
  rw [show k + 1 - 1 = k by omega]
  exact h
/-- the class's least: what is found behind k ranks -/
def cfo (f : Int → Int → Int) (R : Int → Int) (t l : Int) : Nat → Int
  | 0 => 1000000000
  | k + 1 => if btt t (k : Int) = 0 then min (cfo f R t l k) (f l ((k : Int) + 1) + R ((t + b2 (k : Int)) * 9 + ((k : Int) + 1))) else cfo f R t l k
abbrev isT (n t l : Int) : Prop := (l = 0 ∧ (t = 0 ∨ n = 1)) ∨ (l ≠ 0 ∧ btt t (l - 1) = 1)
def lr (f : Int → Int → Int) (R : Int → Int) (n t l : Int) : Int := if isT n t l then (if t = b2 (n - 1) - 1 then f l 9 else cfo f R t l (n - 1).toNat) else 0
def CT_ (f : Int → Int → Int) (n : Int) (g : Int → Int) (t l : Int) : Prop := ∀ t' l', 0 ≤ t' → t' < b2 (n - 1) → 0 ≤ l' → l' < n → (t < t' ∨ (t' = t ∧ l' < l)) → g (t' * 9 + l') = lr f g n t' l' ∧ 0 ≤ g (t' * 9 + l') ∧ g (t' * 9 + l') ≤ 1000000000
theorem b2_8 {n : Int} (hn : 0 < n ∧ n ≤ 9) : 1 ≤ b2 (n - 1) ∧ b2 (n - 1) ≤ 256 :=
  fin2 (P := fun _ k => 1 ≤ b2 k ∧ b2 k ≤ 256) (a := 1) (b := 9) (by decide +kernel) (s := 0) (k := n - 1) (by omega) (by omega)
theorem b2_1 {n : Int} (hn : 0 < n ∧ n ≤ 9) : b2 (n - 1) = 1 → n = 1 := by
  have := fin2 (P := fun _ k => b2 k = 1 → k = 0) (a := 1) (b := 9) (by decide +kernel) (s := 0) (k := n - 1) (by omega) (by omega)
  intro e
  have := this e
  omega
theorem CT_.in_ {f : Int → Int → Int} {n : Int} {g : Int → Int} {t l : Int} (h : CT_ f n g t l) (hn : 0 < n ∧ n ≤ 9) (ht : 0 ≤ t ∧ t < b2 (n - 1)) : ∀ k, 0 ≤ k → k < n - 1 → btt t k = 0 → (0 ≤ g ((t + b2 k) * 9 + (k + 1)) ∧ g ((t + b2 k) * 9 + (k + 1)) ≤ 1000000000) ∧ t + b2 k < b2 (n - 1) ∧ 1 ≤ b2 k := by
  intro k k0 k1 e
  have hb := (bit_shl (k := k) (by omega)).2
  have hc := (bit_co (n := n) (t := t) (k := k) (by omega) ht (by omega)).2.2.2 e
  exact ⟨(h (t + b2 k) (k + 1) (by omega) (by omega) (by omega) (by omega) (by omega)).2, hc, hb.1⟩
theorem cfo_b {f : Int → Int → Int} {R : Int → Int} {n t l : Int} (hl : 0 ≤ l ∧ l < n) (hf : ∀ i j, 0 ≤ i → i < n → 0 ≤ f i j ∧ f i j ≤ 6000000) (hL : ∀ k, 0 ≤ k → k < n - 1 → btt t k = 0 → (0 ≤ R ((t + b2 k) * 9 + (k + 1)) ∧ R ((t + b2 k) * 9 + (k + 1)) ≤ 1000000000) ∧ t + b2 k < b2 (n - 1) ∧ 1 ≤ b2 k) : ∀ k : Nat, (k : Int) ≤ n - 1 → 0 ≤ cfo f R t l k ∧ cfo f R t l k ≤ 1000000000
  | 0, _ => by
    rw [cfo]
    omega
  | k + 1, h => by
    have a := cfo_b hl hf hL k (by omega)
    have hfk := hf l ((k : Int) + 1) hl.1 hl.2
    rw [cfo]
    by_cases e : btt t (k : Int) = 0
    · have b := hL (k : Int) (by omega) (by omega) e
      rw [if_pos e]
      omega
    · rw [if_neg e]
      exact a
theorem cfo_cg {f : Int → Int → Int} {L L' : Int → Int} {n t l : Int} (hn : n ≤ 9) (hL : ∀ x, 9 * t + 9 ≤ x → L x = L' x) : ∀ k : Nat, (k : Int) ≤ n - 1 → cfo f L t l k = cfo f L' t l k
  | 0, _ => rfl
  | k + 1, h => by
    have a := cfo_cg (f := f) (l := l) hn hL k (by omega)
    have b := (bit_shl (k := (k : Int)) (by omega)).2
    rw [cfo, cfo, a, hL ((t + b2 (k : Int)) * 9 + ((k : Int) + 1)) (by omega)]
theorem CT_.step {f : Int → Int → Int} {n : Int} {g : Int → Int} {t l : Int} (h : CT_ f n g t l) (hn : 0 < n ∧ n ≤ 9) (ht : 0 ≤ t ∧ t < b2 (n - 1)) (hl : 0 ≤ l ∧ l < n) (hf : ∀ i j, 0 ≤ i → i < n → 0 ≤ f i j ∧ f i j ≤ 6000000) : CT_ f n (up1 g (t * 9 + l) (lr f g n t l)) t (l + 1) ∧ 0 ≤ lr f g n t l ∧ lr f g n t l ≤ 1000000000 := by
  have hb : 0 ≤ lr f g n t l ∧ lr f g n t l ≤ 1000000000 := by
    have c := cfo_b (f := f) (R := g) (n := n) (t := t) (l := l) hl hf (h.in_ hn ht) (n - 1).toNat (by omega)
    have d := hf l 9 hl.1 hl.2
    unfold lr
    (repeat' split) <;> omega
  refine ⟨?_, hb⟩
  intro t' l' a0 a1 c0 c1 hlt
  have ecg : lr f (up1 g (t * 9 + l) (lr f g n t l)) n t' l' = lr f g n t' l' := by
    unfold lr
    rw [cfo_cg (f := f) (L := up1 g (t * 9 + l) (if isT n t l then (if t = b2 (n - 1) - 1 then f l 9 else cfo f g t l (n - 1).toNat) else 0)) (L' := g) (n := n) (t := t') (l := l') hn.2 (fun x hx => by rw [up1_, if_neg (by omega)]) (n - 1).toNat (by omega)]
  rw [ecg, up1_]
  by_cases e : t' = t ∧ l' = l
  · obtain ⟨rfl, rfl⟩ := e
    rw [if_pos rfl]
    exact ⟨rfl, hb⟩
  · rw [if_neg (by omega)]
    exact h t' l' a0 a1 c0 c1 (by omega)
set_option maxHeartbeats 4000000 in
set_option maxRecDepth 100000 in
theorem c_through {M : fr_M} {f : Int → Int → Int} {n t l k : Int} {Q : Option fr_V → fr_H → fr_M → Prop} (hn : 0 < n ∧ n ≤ 9) (hp : PT f n n (M 19)) (ht : 0 ≤ t ∧ t < b2 (n - 1)) (hl : 0 ≤ l ∧ l < n) (hk : 0 ≤ k ∧ k < n - 1) (hf : ∀ i j, 0 ≤ i → i < n → 0 ≤ f i j ∧ f i j ≤ 6000000) (he : btt t k = 0) (hv : (0 ≤ M 21 ((t + b2 k) * 9 + (k + 1)) ∧ M 21 ((t + b2 k) * 9 + (k + 1)) ≤ 1000000000) ∧ t + b2 k < b2 (n - 1) ∧ 1 ≤ b2 k) (h : Q (some (.inl (f l (k + 1) + M 21 ((t + b2 k) * 9 + (k + 1))))) sh0 M) : fr_Call 3 [.inr (.inl 20), .inl t, .inl l, .inl (k + 1)] sh0 M Q := by
  have h8 := b2_8 hn
  have h19 := hp l (k + 1) hl.1 hl.2 (by omega)
  have hfl := hf l (k + 1) hl.1 hl.2
  have ho := (bit_and (s := t) (k := k) (by omega) (by omega)).2 he
  clear hp hf
  refine fr_cgo k3 [some (.inr (.inl 20)), some (.inl t), some (.inl l), some (.inl (k + 1))] 0 0 [] 400 rfl rfl rfl rfl ?_
  refine c_between (by omega) (by omega) ?_
  repeat' (first | (refine And.intro (by first | omega | (simp (disch := decide) only [up_n, up_s, cp_n, rw_n, rw_s, up1_, if_true, if_false, ite_true, ite_false, reduceIte, eq_self, Int.reduceEq, true_and, and_true, not_true_eq_false, not_false_eq_true]; omega)) ?_) | (refine And.intro (fun hc => ?_) (fun hc => ?_) <;> (try (simp (disch := decide) only [up_n, up_s, cp_n, rw_n, rw_s, up1_, if_true, if_false, ite_true, ite_false, reduceIte, eq_self, Int.reduceEq, true_and, and_true, not_true_eq_false, not_false_eq_true] at hc)) <;> (try (exfalso; omega))) | (refine fun (hc : ¬ _) => ?_; try (simp (disch := decide) only [up_n, up_s, cp_n, rw_n, rw_s, up1_, if_true, if_false, ite_true, ite_false, reduceIte, eq_self, Int.reduceEq, true_and, and_true, not_true_eq_false, not_false_eq_true] at hc)) | (refine fun (hc : _ = _) => ?_; try (simp (disch := decide) only [up_n, up_s, cp_n, rw_n, rw_s, up1_, if_true, if_false, ite_true, ite_false, reduceIte, eq_self, Int.reduceEq, true_and, and_true, not_true_eq_false, not_false_eq_true] at hc)))
  all_goals first | (exfalso; omega) | skip
  all_goals (show fr_Call 1 _ sh0 _ _)
  refine c_bitOf1 (by omega) ?_
  rw [h19]
  repeat' (first | (refine And.intro (by first | omega | (simp (disch := decide) only [up_n, up_s, cp_n, rw_n, rw_s, up1_, if_true, if_false, ite_true, ite_false, reduceIte, eq_self, Int.reduceEq, true_and, and_true, not_true_eq_false, not_false_eq_true]; omega)) ?_) | (refine And.intro (fun hc => ?_) (fun hc => ?_) <;> (try (simp (disch := decide) only [up_n, up_s, cp_n, rw_n, rw_s, up1_, if_true, if_false, ite_true, ite_false, reduceIte, eq_self, Int.reduceEq, true_and, and_true, not_true_eq_false, not_false_eq_true] at hc)) <;> (try (exfalso; omega))) | (refine fun (hc : ¬ _) => ?_; try (simp (disch := decide) only [up_n, up_s, cp_n, rw_n, rw_s, up1_, if_true, if_false, ite_true, ite_false, reduceIte, eq_self, Int.reduceEq, true_and, and_true, not_true_eq_false, not_false_eq_true] at hc)) | (refine fun (hc : _ = _) => ?_; try (simp (disch := decide) only [up_n, up_s, cp_n, rw_n, rw_s, up1_, if_true, if_false, ite_true, ite_false, reduceIte, eq_self, Int.reduceEq, true_and, and_true, not_true_eq_false, not_false_eq_true] at hc)))
  all_goals first | (exfalso; omega) | (exfalso; rw [ho.1] at *; omega) | skip
  rw [ho.1]
  repeat' (first | (refine And.intro (by first | omega | (simp (disch := decide) only [up_n, up_s, cp_n, rw_n, rw_s, up1_, if_true, if_false, ite_true, ite_false, reduceIte, eq_self, Int.reduceEq, true_and, and_true, not_true_eq_false, not_false_eq_true]; omega)) ?_) | (refine And.intro (fun hc => ?_) (fun hc => ?_) <;> (try (simp (disch := decide) only [up_n, up_s, cp_n, rw_n, rw_s, up1_, if_true, if_false, ite_true, ite_false, reduceIte, eq_self, Int.reduceEq, true_and, and_true, not_true_eq_false, not_false_eq_true] at hc)) <;> (try (exfalso; omega))) | (refine fun (hc : ¬ _) => ?_; try (simp (disch := decide) only [up_n, up_s, cp_n, rw_n, rw_s, up1_, if_true, if_false, ite_true, ite_false, reduceIte, eq_self, Int.reduceEq, true_and, and_true, not_true_eq_false, not_false_eq_true] at hc)) | (refine fun (hc : _ = _) => ?_; try (simp (disch := decide) only [up_n, up_s, cp_n, rw_n, rw_s, up1_, if_true, if_false, ite_true, ite_false, reduceIte, eq_self, Int.reduceEq, true_and, and_true, not_true_eq_false, not_false_eq_true] at hc)))
  all_goals first | (exfalso; omega) | exact h
set_option maxHeartbeats 4000000 in
set_option maxRecDepth 100000 in
theorem c_lr_l {M : fr_M} {f : Int → Int → Int} {n t l : Int} {Q : Option fr_V → fr_H → fr_M → Prop} (hn : M 18 2 = n ∧ 0 < n ∧ n ≤ 9) (hp : PT f n n (M 19)) (ht : 0 ≤ t ∧ t < b2 (n - 1)) (hl : 0 ≤ l ∧ l < n) (hf : ∀ i j, 0 ≤ i → i < n → 0 ≤ f i j ∧ f i j ≤ 6000000) (hv : ∀ k, 0 ≤ k → k < n - 1 → btt t k = 0 → (0 ≤ M 21 ((t + b2 k) * 9 + (k + 1)) ∧ M 21 ((t + b2 k) * 9 + (k + 1)) ≤ 1000000000) ∧ t + b2 k < b2 (n - 1) ∧ 1 ≤ b2 k) (h : Q (some (.inl (cfo f (M 21) t l (n - 1).toNat))) sh0 M) : ∀ (u k : Nat), (k : Int) + u = n - 1 → fr_Run 4 none 36 [some (.inr (.inl 20)), some (.inl t), some (.inl l), some (.inl (b2 (n - 1) - 1)), some (.inl 1), some (.inl (cfo f (M 21) t l k)), some (.inl ((k : Int) + 1))] [] sh0 M 0 0 Q := by
  have h8 := b2_8 hn.2
  intro u
  induction u with
  | zero =>
    intro k q0
    rw [show (n - 1).toNat = k by omega] at h
    refine fr_go k4 [36] 400 rfl ?_
    repeat' (first | (refine And.intro (by first | omega | (simp (disch := decide) only [up_n, up_s, cp_n, rw_n, rw_s, up1_, if_true, if_false, ite_true, ite_false, reduceIte, eq_self, Int.reduceEq, true_and, and_true, not_true_eq_false, not_false_eq_true]; omega)) ?_) | (refine And.intro (fun hc => ?_) (fun hc => ?_) <;> (try (simp (disch := decide) only [up_n, up_s, cp_n, rw_n, rw_s, up1_, if_true, if_false, ite_true, ite_false, reduceIte, eq_self, Int.reduceEq, true_and, and_true, not_true_eq_false, not_false_eq_true] at hc)) <;> (try (exfalso; omega))) | (refine fun (hc : ¬ _) => ?_; try (simp (disch := decide) only [up_n, up_s, cp_n, rw_n, rw_s, up1_, if_true, if_false, ite_true, ite_false, reduceIte, eq_self, Int.reduceEq, true_and, and_true, not_true_eq_false, not_false_eq_true] at hc)) | (refine fun (hc : _ = _) => ?_; try (simp (disch := decide) only [up_n, up_s, cp_n, rw_n, rw_s, up1_, if_true, if_false, ite_true, ite_false, reduceIte, eq_self, Int.reduceEq, true_and, and_true, not_true_eq_false, not_false_eq_true] at hc)))
    all_goals first | (exfalso; omega) | exact h
  | succ u ih =>
    intro k q0
    have hh := ih (k + 1) (by omega)
    have hb := bit_and (s := t) (k := (k : Int)) (by omega) (by omega)
    have hbk := (bit_shl (k := (k : Int)) (by omega)).2
    have h01 := bt_01 (s := t) (k := (k : Int))
    rw [cfo, show ((k + 1 : Nat) : Int) = (k : Int) + 1 by omega] at hh
    rcases h01 with e | e
    · have hvk := hv (k : Int) (by omega) (by omega) e
      have ha : fr_and t (b2 (k : Int)) = 0 := by
        rw [hb.1, e]
        omega
      rw [if_pos e] at hh
      clear ih h hv hb
      refine fr_go k4 [36] 400 rfl ?_
      repeat' (first | (refine And.intro (by first | omega | (simp (disch := decide) only [up_n, up_s, cp_n, rw_n, rw_s, up1_, if_true, if_false, ite_true, ite_false, reduceIte, eq_self, Int.reduceEq, true_and, and_true, not_true_eq_false, not_false_eq_true]; omega)) ?_) | (refine c_bitOf1 (by omega) ?_) | (refine c_through hn.2 hp ht hl (by omega) hf e hvk ?_) | (refine And.intro (fun hc => ?_) (fun hc => ?_) <;> (try (simp (disch := decide) only [up_n, up_s, cp_n, rw_n, rw_s, up1_, if_true, if_false, ite_true, ite_false, reduceIte, eq_self, Int.reduceEq, true_and, and_true, not_true_eq_false, not_false_eq_true] at hc)) <;> (try (exfalso; omega))) | (refine fun (hc : ¬ _) => ?_; try (simp (disch := decide) only [up_n, up_s, cp_n, rw_n, rw_s, up1_, if_true, if_false, ite_true, ite_false, reduceIte, eq_self, Int.reduceEq, true_and, and_true, not_true_eq_false, not_false_eq_true] at hc)) | (refine fun (hc : _ = _) => ?_; try (simp (disch := decide) only [up_n, up_s, cp_n, rw_n, rw_s, up1_, if_true, if_false, ite_true, ite_false, reduceIte, eq_self, Int.reduceEq, true_and, and_true, not_true_eq_false, not_false_eq_true] at hc)))
      all_goals first | (exfalso; omega) | exact hh
    · have ha : fr_and t (b2 (k : Int)) = b2 (k : Int) := by
        rw [hb.1, e]
        omega
      rw [if_neg (by omega)] at hh
      clear ih h hv hb hp hf
      refine fr_go k4 [36] 400 rfl ?_
      repeat' (first | (refine And.intro (by first | omega | (simp (disch := decide) only [up_n, up_s, cp_n, rw_n, rw_s, up1_, if_true, if_false, ite_true, ite_false, reduceIte, eq_self, Int.reduceEq, true_and, and_true, not_true_eq_false, not_false_eq_true]; omega)) ?_) | (refine c_bitOf1 (by omega) ?_) | (refine And.intro (fun hc => ?_) (fun hc => ?_) <;> (try (simp (disch := decide) only [up_n, up_s, cp_n, rw_n, rw_s, up1_, if_true, if_false, ite_true, ite_false, reduceIte, eq_self, Int.reduceEq, true_and, and_true, not_true_eq_false, not_false_eq_true] at hc)) <;> (try (exfalso; omega))) | (refine fun (hc : ¬ _) => ?_; try (simp (disch := decide) only [up_n, up_s, cp_n, rw_n, rw_s, up1_, if_true, if_false, ite_true, ite_false, reduceIte, eq_self, Int.reduceEq, true_and, and_true, not_true_eq_false, not_false_eq_true] at hc)) | (refine fun (hc : _ = _) => ?_; try (simp (disch := decide) only [up_n, up_s, cp_n, rw_n, rw_s, up1_, if_true, if_false, ite_true, ite_false, reduceIte, eq_self, Int.reduceEq, true_and, and_true, not_true_eq_false, not_false_eq_true] at hc)))
      all_goals first | (exfalso; omega) | exact hh
set_option maxHeartbeats 4000000 in
set_option maxRecDepth 100000 in
theorem c_leastRest {M : fr_M} {f : Int → Int → Int} {n t l al : Int} {Q : Option fr_V → fr_H → fr_M → Prop} (hn : M 18 2 = n ∧ 0 < n ∧ n ≤ 9) (hp : PT f n n (M 19)) (ht : 0 ≤ t ∧ t < b2 (n - 1)) (hl : 0 ≤ l ∧ l < n) (hf : ∀ i j, 0 ≤ i → i < n → 0 ≤ f i j ∧ f i j ≤ 6000000) (hv : ∀ k, 0 ≤ k → k < n - 1 → btt t k = 0 → (0 ≤ M 21 ((t + b2 k) * 9 + (k + 1)) ∧ M 21 ((t + b2 k) * 9 + (k + 1)) ≤ 1000000000) ∧ t + b2 k < b2 (n - 1) ∧ 1 ≤ b2 k) (ea : b2 (n - 1) - 1 = al) (h : Q (some (.inl (lr f (M 21) n t l))) sh0 M) : fr_Call 4 [.inr (.inl 20), .inl t, .inl l, .inl al] sh0 M Q := by
  have h8 := b2_8 hn.2
  have h1 := b2_1 hn.2
  have h19 := hp l 9 hl.1 hl.2 (by omega)
  have hb0 : n = 1 → b2 (n - 1) = 1 := fun e => by
    rw [e]
    decide
  have hlast : l ≠ 0 → fr_and t (b2 (l - 1)) = btt t (l - 1) * b2 (l - 1) ∧ 1 ≤ b2 (l - 1) := fun q => ⟨(bit_and (s := t) (k := l - 1) (by omega) (by omega)).1, (bit_shl (k := l - 1) (by omega)).2.1⟩
  have h01 := bt_01 (s := t) (k := l - 1)
  unfold lr at h
  rw [ea] at h
  by_cases hT : isT n t l
  · rw [if_pos hT] at h
    have hT' : (l = 0 ∧ (t = 0 ∨ n = 1)) ∨ (l ≠ 0 ∧ btt t (l - 1) = 1) := hT
    by_cases e : t = al
    · rw [if_pos e, ← h19] at h
      have ha : l ≠ 0 → fr_and t (b2 (l - 1)) ≠ 0 := fun q => by
        have := hlast q
        rw [this.1]
        rcases h01 with e' | e'
        · exfalso
          omega
        · rw [e']
          omega
      clear hv hp hf hlast
      refine fr_cgo k4 [some (.inr (.inl 20)), some (.inl t), some (.inl l), some (.inl al), none, none, none] 0 0 [36] 400 rfl rfl rfl rfl ?_
      repeat' (first | (refine And.intro (by first | omega | (simp (disch := decide) only [up_n, up_s, cp_n, rw_n, rw_s, up1_, if_true, if_false, ite_true, ite_false, reduceIte, eq_self, Int.reduceEq, true_and, and_true, not_true_eq_false, not_false_eq_true]; omega)) ?_) | (refine c_bitOf (by omega) ?_) | (refine And.intro (fun hc => ?_) (fun hc => ?_) <;> (try (simp (disch := decide) only [up_n, up_s, cp_n, rw_n, rw_s, up1_, if_true, if_false, ite_true, ite_false, reduceIte, eq_self, Int.reduceEq, true_and, and_true, not_true_eq_false, not_false_eq_true] at hc)) <;> (try (exfalso; omega))) | (refine fun (hc : ¬ _) => ?_; try (simp (disch := decide) only [up_n, up_s, cp_n, rw_n, rw_s, up1_, if_true, if_false, ite_true, ite_false, reduceIte, eq_self, Int.reduceEq, true_and, and_true, not_true_eq_false, not_false_eq_true] at hc)) | (refine fun (hc : _ = _) => ?_; try (simp (disch := decide) only [up_n, up_s, cp_n, rw_n, rw_s, up1_, if_true, if_false, ite_true, ite_false, reduceIte, eq_self, Int.reduceEq, true_and, and_true, not_true_eq_false, not_false_eq_true] at hc)))
      all_goals first | (exfalso; omega) | skip
      all_goals (show fr_Call 2 _ sh0 _ _)
      all_goals (refine c_between (by omega) (by omega) ?_)
      all_goals (repeat' (first | (refine And.intro (by first | omega | (simp (disch := decide) only [up_n, up_s, cp_n, rw_n, rw_s, up1_, if_true, if_false, ite_true, ite_false, reduceIte, eq_self, Int.reduceEq, true_and, and_true, not_true_eq_false, not_false_eq_true]; omega)) ?_) | (refine And.intro (fun hc => ?_) (fun hc => ?_) <;> (try (simp (disch := decide) only [up_n, up_s, cp_n, rw_n, rw_s, up1_, if_true, if_false, ite_true, ite_false, reduceIte, eq_self, Int.reduceEq, true_and, and_true, not_true_eq_false, not_false_eq_true] at hc)) <;> (try (exfalso; omega))) | (refine fun (hc : ¬ _) => ?_; try (simp (disch := decide) only [up_n, up_s, cp_n, rw_n, rw_s, up1_, if_true, if_false, ite_true, ite_false, reduceIte, eq_self, Int.reduceEq, true_and, and_true, not_true_eq_false, not_false_eq_true] at hc)) | (refine fun (hc : _ = _) => ?_; try (simp (disch := decide) only [up_n, up_s, cp_n, rw_n, rw_s, up1_, if_true, if_false, ite_true, ite_false, reduceIte, eq_self, Int.reduceEq, true_and, and_true, not_true_eq_false, not_false_eq_true] at hc))))
      all_goals exact h
    · rw [if_neg e] at h
      have hl' := c_lr_l (Q := Q) hn hp ht hl hf hv h (n - 1).toNat 0 (by omega)
      rw [ea] at hl'
      have ha : l ≠ 0 → fr_and t (b2 (l - 1)) ≠ 0 := fun q => by
        have := hlast q
        rw [this.1]
        rcases h01 with e' | e'
        · exfalso
          omega
        · rw [e']
          omega
      clear hv hp hf hlast h
      refine fr_cgo k4 [some (.inr (.inl 20)), some (.inl t), some (.inl l), some (.inl al), none, none, none] 0 0 [36] 400 rfl rfl rfl rfl ?_
      repeat' (first | (refine And.intro (by first | omega | (simp (disch := decide) only [up_n, up_s, cp_n, rw_n, rw_s, up1_, if_true, if_false, ite_true, ite_false, reduceIte, eq_self, Int.reduceEq, true_and, and_true, not_true_eq_false, not_false_eq_true]; omega)) ?_) | (refine c_bitOf (by omega) ?_) | (refine And.intro (fun hc => ?_) (fun hc => ?_) <;> (try (simp (disch := decide) only [up_n, up_s, cp_n, rw_n, rw_s, up1_, if_true, if_false, ite_true, ite_false, reduceIte, eq_self, Int.reduceEq, true_and, and_true, not_true_eq_false, not_false_eq_true] at hc)) <;> (try (exfalso; omega))) | (refine fun (hc : ¬ _) => ?_; try (simp (disch := decide) only [up_n, up_s, cp_n, rw_n, rw_s, up1_, if_true, if_false, ite_true, ite_false, reduceIte, eq_self, Int.reduceEq, true_and, and_true, not_true_eq_false, not_false_eq_true] at hc)) | (refine fun (hc : _ = _) => ?_; try (simp (disch := decide) only [up_n, up_s, cp_n, rw_n, rw_s, up1_, if_true, if_false, ite_true, ite_false, reduceIte, eq_self, Int.reduceEq, true_and, and_true, not_true_eq_false, not_false_eq_true] at hc)))
      all_goals first | (exfalso; omega) | exact hl'
  · rw [if_neg hT] at h
    have hT' : ¬ ((l = 0 ∧ (t = 0 ∨ n = 1)) ∨ (l ≠ 0 ∧ btt t (l - 1) = 1)) := hT
    have ha : l ≠ 0 → fr_and t (b2 (l - 1)) = 0 := fun q => by
      have := hlast q
      rw [this.1]
      rcases h01 with e' | e'
      · rw [e']
        omega
      · exfalso
        omega
    clear hv hp hf hlast
    refine fr_cgo k4 [some (.inr (.inl 20)), some (.inl t), some (.inl l), some (.inl al), none, none, none] 0 0 [36] 400 rfl rfl rfl rfl ?_
    repeat' (first | (refine And.intro (by first | omega | (simp (disch := decide) only [up_n, up_s, cp_n, rw_n, rw_s, up1_, if_true, if_false, ite_true, ite_false, reduceIte, eq_self, Int.reduceEq, true_and, and_true, not_true_eq_false, not_false_eq_true]; omega)) ?_) | (refine c_bitOf (by omega) ?_) | (refine And.intro (fun hc => ?_) (fun hc => ?_) <;> (try (simp (disch := decide) only [up_n, up_s, cp_n, rw_n, rw_s, up1_, if_true, if_false, ite_true, ite_false, reduceIte, eq_self, Int.reduceEq, true_and, and_true, not_true_eq_false, not_false_eq_true] at hc)) <;> (try (exfalso; omega))) | (refine fun (hc : ¬ _) => ?_; try (simp (disch := decide) only [up_n, up_s, cp_n, rw_n, rw_s, up1_, if_true, if_false, ite_true, ite_false, reduceIte, eq_self, Int.reduceEq, true_and, and_true, not_true_eq_false, not_false_eq_true] at hc)) | (refine fun (hc : _ = _) => ?_; try (simp (disch := decide) only [up_n, up_s, cp_n, rw_n, rw_s, up1_, if_true, if_false, ite_true, ite_false, reduceIte, eq_self, Int.reduceEq, true_and, and_true, not_true_eq_false, not_false_eq_true] at hc)))
    all_goals first | (exfalso; omega) | exact h
