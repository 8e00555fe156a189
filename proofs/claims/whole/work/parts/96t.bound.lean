/-- least cost of a rank, of all that might be next -/
def mnf (f : Int → Int → Int) (i : Int) : Nat → Int
  | 0 => f i 9
  | j + 1 => min (mnf f i j) (f i (j : Int))
def bds (f : Int → Int → Int) (n : Nat) : Nat → Int
  | 0 => 0
  | k + 1 => bds f n k + mnf f (k : Int) n
theorem mnf_le {f : Int → Int → Int} {i : Int} : ∀ n : Nat, mnf f i n ≤ f i 9 ∧ ∀ j : Nat, j < n → mnf f i n ≤ f i (j : Int)
  | 0 => ⟨Int.le_refl _, fun j hj => by omega⟩
  | n + 1 => by
    have a := mnf_le (f := f) (i := i) n
    rw [mnf]
    refine ⟨by omega, fun j hj => ?_⟩
    by_cases e : j = n
    · rw [e]
      omega
    · have := a.2 j (by omega)
      omega
theorem mnf_ex {f : Int → Int → Int} {i : Int} : ∀ n : Nat, mnf f i n = f i 9 ∨ ∃ j : Nat, j < n ∧ mnf f i n = f i (j : Int)
  | 0 => Or.inl rfl
  | n + 1 => by
    have a := mnf_ex (f := f) (i := i) n
    rw [mnf]
    by_cases e : mnf f i n ≤ f i (n : Int)
    · rw [show min (mnf f i n) (f i (n : Int)) = mnf f i n by omega]
      rcases a with a | ⟨j, hj, a⟩
      · exact Or.inl a
      · exact Or.inr ⟨j, by omega, a⟩
    · rw [show min (mnf f i n) (f i (n : Int)) = f i (n : Int) by omega]
      exact Or.inr ⟨n, by omega, rfl⟩
theorem mnf_b {f : Int → Int → Int} {n : Int} {i : Int} (hi : 0 ≤ i ∧ i < n) (hf : ∀ i j, 0 ≤ i → i < n → 0 ≤ f i j ∧ f i j ≤ 6000000) (k : Nat) : 0 ≤ mnf f i k ∧ mnf f i k ≤ 6000000 := by
  have a := hf i 9 hi.1 hi.2
  have b := (mnf_le (f := f) (i := i) k).1
  rcases mnf_ex (f := f) (i := i) k with c | ⟨j, hj, c⟩
  · omega
  · have d := hf i (j : Int) hi.1 hi.2
    omega
theorem bds_b {f : Int → Int → Int} {n : Int} (hf : ∀ i j, 0 ≤ i → i < n → 0 ≤ f i j ∧ f i j ≤ 6000000) : ∀ k : Nat, (k : Int) ≤ n → 0 ≤ bds f n.toNat k ∧ bds f n.toNat k ≤ 6000000 * (k : Int)
  | 0, _ => ⟨Int.le_refl 0, Int.le_refl 0⟩
  | k + 1, h => by
    have a := bds_b hf k (by omega)
    have b := mnf_b (f := f) (n := n) (i := (k : Int)) (by omega) hf n.toNat
    rw [bds]
    omega
set_option maxHeartbeats 4000000 in
set_option maxRecDepth 100000 in
theorem c_bd2 {M : fr_M} {n i s : Int} {f : Int → Int → Int} {Q : Option fr_V → fr_H → fr_M → Prop} (hn : M 18 2 = n ∧ 0 < n ∧ n ≤ 9) (hi : 0 ≤ i ∧ i < n) (hp : PT f n n (M 19)) (h : fr_Run 24 none 28 [some (.inr (.inl 18)), some (.inl s), some (.inl i), some (.inl (mnf f i n.toNat)), some (.inl n)] [] sh0 M 0 0 Q) : ∀ (t k : Nat), (k : Int) + t = n → fr_Run 24 none 15 [some (.inr (.inl 18)), some (.inl s), some (.inl i), some (.inl (mnf f i k)), some (.inl (k : Int))] [] sh0 M 0 0 Q := by
  intro t
  induction t with
  | zero =>
    intro k q0
    have e : n.toNat = k := by omega
    rw [e, show n = (k : Int) by omega] at h
    refine fr_go k24 [15, 28] 400 rfl ?_
    repeat' (first | (refine And.intro (by first | omega | (simp (disch := decide) only [up_n, up_s, cp_n, rw_n, rw_s, up1_, if_true, if_false, ite_true, ite_false, reduceIte, eq_self, Int.reduceEq, true_and, and_true, not_true_eq_false, not_false_eq_true]; omega)) ?_) | (refine And.intro (fun hc => ?_) (fun hc => ?_) <;> (try (simp (disch := decide) only [up_n, up_s, cp_n, rw_n, rw_s, up1_, if_true, if_false, ite_true, ite_false, reduceIte, eq_self, Int.reduceEq, true_and, and_true, not_true_eq_false, not_false_eq_true] at hc)) <;> (try (exfalso; omega))) | (refine fun (hc : ¬ _) => ?_; try (simp (disch := decide) only [up_n, up_s, cp_n, rw_n, rw_s, up1_, if_true, if_false, ite_true, ite_false, reduceIte, eq_self, Int.reduceEq, true_and, and_true, not_true_eq_false, not_false_eq_true] at hc)) | (refine fun (hc : _ = _) => ?_; try (simp (disch := decide) only [up_n, up_s, cp_n, rw_n, rw_s, up1_, if_true, if_false, ite_true, ite_false, reduceIte, eq_self, Int.reduceEq, true_and, and_true, not_true_eq_false, not_false_eq_true] at hc)))
    all_goals first | (exfalso; omega) | exact h
  | succ t ih =>
    intro k q0
    have hh := ih (k + 1) (by omega)
    have h19 := hp i (k : Int) hi.1 hi.2 (by omega)
    rw [mnf, show ((k + 1 : Nat) : Int) = (k : Int) + 1 by omega] at hh
    clear ih h hp
    refine fr_go k24 [15, 28] 400 rfl ?_
    repeat' (first | (refine And.intro (by first | omega | (simp (disch := decide) only [up_n, up_s, cp_n, rw_n, rw_s, up1_, if_true, if_false, ite_true, ite_false, reduceIte, eq_self, Int.reduceEq, true_and, and_true, not_true_eq_false, not_false_eq_true]; omega)) ?_) | (refine And.intro (fun hc => ?_) (fun hc => ?_) <;> (try (simp (disch := decide) only [up_n, up_s, cp_n, rw_n, rw_s, up1_, if_true, if_false, ite_true, ite_false, reduceIte, eq_self, Int.reduceEq, true_and, and_true, not_true_eq_false, not_false_eq_true] at hc)) <;> (try (exfalso; omega))) | (refine fun (hc : ¬ _) => ?_; try (simp (disch := decide) only [up_n, up_s, cp_n, rw_n, rw_s, up1_, if_true, if_false, ite_true, ite_false, reduceIte, eq_self, Int.reduceEq, true_and, and_true, not_true_eq_false, not_false_eq_true] at hc)) | (refine fun (hc : _ = _) => ?_; try (simp (disch := decide) only [up_n, up_s, cp_n, rw_n, rw_s, up1_, if_true, if_false, ite_true, ite_false, reduceIte, eq_self, Int.reduceEq, true_and, and_true, not_true_eq_false, not_false_eq_true] at hc)))
    all_goals first | (exfalso; omega) | skip
    all_goals (show fr_Call 2 _ sh0 _ _)
    all_goals (refine c_between (by omega) (by omega) ?_)
    rw [h19]
    repeat' (first | (refine And.intro (by first | omega | (simp (disch := decide) only [up_n, up_s, cp_n, rw_n, rw_s, up1_, if_true, if_false, ite_true, ite_false, reduceIte, eq_self, Int.reduceEq, true_and, and_true, not_true_eq_false, not_false_eq_true]; omega)) ?_) | (refine And.intro (fun hc => ?_) (fun hc => ?_) <;> (try (simp (disch := decide) only [up_n, up_s, cp_n, rw_n, rw_s, up1_, if_true, if_false, ite_true, ite_false, reduceIte, eq_self, Int.reduceEq, true_and, and_true, not_true_eq_false, not_false_eq_true] at hc)) <;> (try (exfalso; omega))) | (refine fun (hc : ¬ _) => ?_; try (simp (disch := decide) only [up_n, up_s, cp_n, rw_n, rw_s, up1_, if_true, if_false, ite_true, ite_false, reduceIte, eq_self, Int.reduceEq, true_and, and_true, not_true_eq_false, not_false_eq_true] at hc)) | (refine fun (hc : _ = _) => ?_; try (simp (disch := decide) only [up_n, up_s, cp_n, rw_n, rw_s, up1_, if_true, if_false, ite_true, ite_false, reduceIte, eq_self, Int.reduceEq, true_and, and_true, not_true_eq_false, not_false_eq_true] at hc)))
    all_goals first | (exfalso; omega) | exact hh
set_option maxHeartbeats 4000000 in
set_option maxRecDepth 100000 in
theorem c_bd1 {M : fr_M} {n : Int} {f : Int → Int → Int} {Q : Option fr_V → fr_H → fr_M → Prop} (hn : M 18 2 = n ∧ 0 < n ∧ n ≤ 9) (hf : ∀ i j, 0 ≤ i → i < n → 0 ≤ f i j ∧ f i j ≤ 6000000) (hp : PT f n n (M 19)) (h : Q (some (.inl (bds f n.toNat n.toNat))) sh0 M) : ∀ (t k : Nat) (x3 x4 : Option fr_V), (k : Int) + t = n → fr_Run 24 none 4 [some (.inr (.inl 18)), some (.inl (bds f n.toNat k)), some (.inl (k : Int)), x3, x4] [] sh0 M 0 0 Q := by
  intro t
  induction t with
  | zero =>
    intro k x3 x4 q0
    have e : n.toNat = k := by omega
    have e2 : bds f n.toNat n.toNat = bds f n.toNat k := by rw [e]
    rw [e2] at h
    refine fr_go k24 [4] 400 rfl ?_
    repeat' (first | (refine And.intro (by first | omega | (simp (disch := decide) only [up_n, up_s, cp_n, rw_n, rw_s, up1_, if_true, if_false, ite_true, ite_false, reduceIte, eq_self, Int.reduceEq, true_and, and_true, not_true_eq_false, not_false_eq_true]; omega)) ?_) | (refine And.intro (fun hc => ?_) (fun hc => ?_) <;> (try (simp (disch := decide) only [up_n, up_s, cp_n, rw_n, rw_s, up1_, if_true, if_false, ite_true, ite_false, reduceIte, eq_self, Int.reduceEq, true_and, and_true, not_true_eq_false, not_false_eq_true] at hc)) <;> (try (exfalso; omega))) | (refine fun (hc : ¬ _) => ?_; try (simp (disch := decide) only [up_n, up_s, cp_n, rw_n, rw_s, up1_, if_true, if_false, ite_true, ite_false, reduceIte, eq_self, Int.reduceEq, true_and, and_true, not_true_eq_false, not_false_eq_true] at hc)) | (refine fun (hc : _ = _) => ?_; try (simp (disch := decide) only [up_n, up_s, cp_n, rw_n, rw_s, up1_, if_true, if_false, ite_true, ite_false, reduceIte, eq_self, Int.reduceEq, true_and, and_true, not_true_eq_false, not_false_eq_true] at hc)))
    all_goals first | (exfalso; omega) | exact h
  | succ t ih =>
    intro k x3 x4 q0
    have hb := bds_b hf k (by omega)
    have hm := mnf_b (f := f) (n := n) (i := (k : Int)) (by omega) hf n.toNat
    have hh := ih (k + 1) (some (.inl (mnf f (k : Int) n.toNat))) (some (.inl n)) (by omega)
    have h19 := hp (k : Int) 9 (by omega) (by omega) (by omega)
    rw [bds, show ((k + 1 : Nat) : Int) = (k : Int) + 1 by omega] at hh
    have h2 := c_bd2 (Q := Q) (s := bds f n.toNat k) (i := (k : Int)) hn (by omega) hp (by
      clear ih h hp
      refine fr_go k24 [4] 400 rfl ?_
      repeat' (first | (refine And.intro (by first | omega | (simp (disch := decide) only [up_n, up_s, cp_n, rw_n, rw_s, up1_, if_true, if_false, ite_true, ite_false, reduceIte, eq_self, Int.reduceEq, true_and, and_true, not_true_eq_false, not_false_eq_true]; omega)) ?_) | (refine And.intro (fun hc => ?_) (fun hc => ?_) <;> (try (simp (disch := decide) only [up_n, up_s, cp_n, rw_n, rw_s, up1_, if_true, if_false, ite_true, ite_false, reduceIte, eq_self, Int.reduceEq, true_and, and_true, not_true_eq_false, not_false_eq_true] at hc)) <;> (try (exfalso; omega))) | (refine fun (hc : ¬ _) => ?_; try (simp (disch := decide) only [up_n, up_s, cp_n, rw_n, rw_s, up1_, if_true, if_false, ite_true, ite_false, reduceIte, eq_self, Int.reduceEq, true_and, and_true, not_true_eq_false, not_false_eq_true] at hc)) | (refine fun (hc : _ = _) => ?_; try (simp (disch := decide) only [up_n, up_s, cp_n, rw_n, rw_s, up1_, if_true, if_false, ite_true, ite_false, reduceIte, eq_self, Int.reduceEq, true_and, and_true, not_true_eq_false, not_false_eq_true] at hc)))
      all_goals first | (exfalso; omega) | exact hh) n.toNat 0 (by omega)
    clear ih h hp hh
    refine fr_go k24 [4, 15] 400 rfl ?_
    repeat' (first | (refine And.intro (by first | omega | (simp (disch := decide) only [up_n, up_s, cp_n, rw_n, rw_s, up1_, if_true, if_false, ite_true, ite_false, reduceIte, eq_self, Int.reduceEq, true_and, and_true, not_true_eq_false, not_false_eq_true]; omega)) ?_) | (refine And.intro (fun hc => ?_) (fun hc => ?_) <;> (try (simp (disch := decide) only [up_n, up_s, cp_n, rw_n, rw_s, up1_, if_true, if_false, ite_true, ite_false, reduceIte, eq_self, Int.reduceEq, true_and, and_true, not_true_eq_false, not_false_eq_true] at hc)) <;> (try (exfalso; omega))) | (refine fun (hc : ¬ _) => ?_; try (simp (disch := decide) only [up_n, up_s, cp_n, rw_n, rw_s, up1_, if_true, if_false, ite_true, ite_false, reduceIte, eq_self, Int.reduceEq, true_and, and_true, not_true_eq_false, not_false_eq_true] at hc)) | (refine fun (hc : _ = _) => ?_; try (simp (disch := decide) only [up_n, up_s, cp_n, rw_n, rw_s, up1_, if_true, if_false, ite_true, ite_false, reduceIte, eq_self, Int.reduceEq, true_and, and_true, not_true_eq_false, not_false_eq_true] at hc)))
    all_goals first | (exfalso; omega) | skip
    all_goals (show fr_Call 2 _ sh0 _ _)
    all_goals (refine c_between (by omega) (by omega) ?_)
    rw [h19]
    repeat' (first | (refine And.intro (by first | omega | (simp (disch := decide) only [up_n, up_s, cp_n, rw_n, rw_s, up1_, if_true, if_false, ite_true, ite_false, reduceIte, eq_self, Int.reduceEq, true_and, and_true, not_true_eq_false, not_false_eq_true]; omega)) ?_) | (refine And.intro (fun hc => ?_) (fun hc => ?_) <;> (try (simp (disch := decide) only [up_n, up_s, cp_n, rw_n, rw_s, up1_, if_true, if_false, ite_true, ite_false, reduceIte, eq_self, Int.reduceEq, true_and, and_true, not_true_eq_false, not_false_eq_true] at hc)) <;> (try (exfalso; omega))) | (refine fun (hc : ¬ _) => ?_; try (simp (disch := decide) only [up_n, up_s, cp_n, rw_n, rw_s, up1_, if_true, if_false, ite_true, ite_false, reduceIte, eq_self, Int.reduceEq, true_and, and_true, not_true_eq_false, not_false_eq_true] at hc)) | (refine fun (hc : _ = _) => ?_; try (simp (disch := decide) only [up_n, up_s, cp_n, rw_n, rw_s, up1_, if_true, if_false, ite_true, ite_false, reduceIte, eq_self, Int.reduceEq, true_and, and_true, not_true_eq_false, not_false_eq_true] at hc)))
    all_goals first | (exfalso; omega) | exact h2
set_option maxHeartbeats 4000000 in
set_option maxRecDepth 100000 in
theorem c_bound {M : fr_M} {n : Int} {f : Int → Int → Int} {Q : Option fr_V → fr_H → fr_M → Prop} (hn : M 18 2 = n ∧ 0 < n ∧ n ≤ 9) (hf : ∀ i j, 0 ≤ i → i < n → 0 ≤ f i j ∧ f i j ≤ 6000000) (hp : PT f n n (M 19)) (h : Q (some (.inl (bds f n.toNat n.toNat))) sh0 M) : fr_Call 24 [.inr (.inl 18)] sh0 M Q := by
  refine fr_cgo k24 [some (.inr (.inl 18)), none, none, none, none] 0 0 [4] 400 rfl rfl rfl rfl ?_
  repeat' (first | (refine And.intro (by first | omega | (simp (disch := decide) only [up_n, up_s, cp_n, rw_n, rw_s, up1_, if_true, if_false, ite_true, ite_false, reduceIte, eq_self, Int.reduceEq, true_and, and_true, not_true_eq_false, not_false_eq_true]; omega)) ?_) | (refine And.intro (fun hc => ?_) (fun hc => ?_) <;> (try (simp (disch := decide) only [up_n, up_s, cp_n, rw_n, rw_s, up1_, if_true, if_false, ite_true, ite_false, reduceIte, eq_self, Int.reduceEq, true_and, and_true, not_true_eq_false, not_false_eq_true] at hc)) <;> (try (exfalso; omega))) | (refine fun (hc : ¬ _) => ?_; try (simp (disch := decide) only [up_n, up_s, cp_n, rw_n, rw_s, up1_, if_true, if_false, ite_true, ite_false, reduceIte, eq_self, Int.reduceEq, true_and, and_true, not_true_eq_false, not_false_eq_true] at hc)) | (refine fun (hc : _ = _) => ?_; try (simp (disch := decide) only [up_n, up_s, cp_n, rw_n, rw_s, up1_, if_true, if_false, ite_true, ite_false, reduceIte, eq_self, Int.reduceEq, true_and, and_true, not_true_eq_false, not_false_eq_true] at hc)))
  exact c_bd1 hn hf hp h n.toNat 0 none none (by omega)
/-- least cost of a block, of its own ways -/
def mrf (M : fr_M) (b : Int) : Nat → Int
  | 0 => cs M b (-9)
  | w + 1 => if cs M b (M 84 (4 * b + (w : Int))) < mrf M b w then cs M b (M 84 (4 * b + (w : Int))) else mrf M b w
theorem mrf_le {M : fr_M} {b : Int} : ∀ n : Nat, mrf M b n ≤ cs M b (-9) ∧ ∀ j : Nat, j < n → mrf M b n ≤ cs M b (M 84 (4 * b + (j : Int)))
  | 0 => ⟨Int.le_refl _, fun j hj => by omega⟩
  | n + 1 => by
    have a := mrf_le (M := M) (b := b) n
    rw [mrf]
    refine ⟨by split <;> omega, fun j hj => ?_⟩
    by_cases e : j = n
    · rw [e]
      split <;> omega
    · have := a.2 j (by omega)
      split <;> omega
theorem mrf_ex {M : fr_M} {b : Int} : ∀ n : Nat, mrf M b n = cs M b (-9) ∨ ∃ j : Nat, j < n ∧ mrf M b n = cs M b (M 84 (4 * b + (j : Int)))
  | 0 => Or.inl rfl
  | n + 1 => by
    have a := mrf_ex (M := M) (b := b) n
    rw [mrf]
    by_cases e : cs M b (M 84 (4 * b + (n : Int))) < mrf M b n
    · rw [if_pos e]
      exact Or.inr ⟨n, by omega, rfl⟩
    · rw [if_neg e]
      rcases a with a | ⟨j, hj, a⟩
      · exact Or.inl a
      · exact Or.inr ⟨j, by omega, a⟩
theorem mrf_eq {M : fr_M} {r n i : Int} (hR : RC M r n) (hi : 0 ≤ i ∧ i < n) : mrf M (M 77 (9 * r + i)) (M 83 (M 77 (9 * r + i))).toNat = mnf (cf M r) i n.toNat := by
  have hb := hR.2.2.2.1 i hi.1 hi.2
  have a1 := mnf_le (f := cf M r) (i := i) n.toNat
  have b1 := mrf_le (M := M) (b := M 77 (9 * r + i)) (M 83 (M 77 (9 * r + i))).toNat
  have e9 : cf M r i 9 = cs M (M 77 (9 * r + i)) (-9) := by
    unfold cf
    rw [if_pos rfl]
  have ej : ∀ j, 0 ≤ j → j < n → cf M r i j = cs M (M 77 (9 * r + i)) (M 77 (9 * r + j)) := fun j q0 q1 => by
    have := hR.2.2.1
    unfold cf
    rw [if_neg (by omega)]
  have h1 : mnf (cf M r) i n.toNat ≤ mrf M (M 77 (9 * r + i)) (M 83 (M 77 (9 * r + i))).toNat := by
    rcases mrf_ex (M := M) (b := M 77 (9 * r + i)) (M 83 (M 77 (9 * r + i))).toNat with c | ⟨j, hj, c⟩
    · rw [c, ← e9]
      exact a1.1
    · obtain ⟨-, x, hx, ex⟩ := hb.2.2.2.2.2 (j : Int) (by omega) (by omega)
      rw [c, ← ex, ← ej x hx.1 hx.2]
      have := a1.2 x.toNat (by omega)
      rw [show ((x.toNat : Nat) : Int) = x by omega] at this
      exact this
  have h2 : mrf M (M 77 (9 * r + i)) (M 83 (M 77 (9 * r + i))).toNat ≤ mnf (cf M r) i n.toNat := by
    rcases mnf_ex (f := cf M r) (i := i) n.toNat with c | ⟨j, hj, c⟩
    · rw [c, e9]
      exact b1.1
    · rw [c, ej (j : Int) (by omega) (by omega)]
      by_cases hw : ∃ w, (0 ≤ w ∧ w < M 83 (M 77 (9 * r + i))) ∧ M 84 (4 * M 77 (9 * r + i) + w) = M 77 (9 * r + (j : Int))
      · obtain ⟨w, hw, ew⟩ := hw
        rw [← ew]
        have := b1.2 w.toNat (by omega)
        rw [show ((w.toNat : Nat) : Int) = w by omega] at this
        exact this
      · rw [cs_none hR hi (fun w w0 w1 e => hw ⟨w, ⟨w0, w1⟩, e⟩)]
        exact b1.1
  omega
set_option maxHeartbeats 4000000 in
set_option maxRecDepth 100000 in
theorem m_bd2 {M : fr_M} {r n i s : Int} {Q : Option fr_V → fr_H → fr_M → Prop} (hR : RC M r n) (hi : 0 ≤ i ∧ i < n) (h : ∀ x7, fr_Run 174 none 53 [some (.inr (.inl 75)), some (.inl r), some (.inl s), some (.inl i), some (.inl (M 77 (9 * r + i))), some (.inl (mnf (cf M r) i n.toNat)), some (.inl (M 83 (M 77 (9 * r + i)))), x7] [] sh0 M 0 0 Q) : ∀ (t w : Nat) (x7 : Option fr_V), (w : Int) + t = M 83 (M 77 (9 * r + i)) → fr_Run 174 none 26 [some (.inr (.inl 75)), some (.inl r), some (.inl s), some (.inl i), some (.inl (M 77 (9 * r + i))), some (.inl (mrf M (M 77 (9 * r + i)) w)), some (.inl (w : Int)), x7] [] sh0 M 0 0 Q := by
  have hb := hR.2.2.2.1 i hi.1 hi.2
  rw [← mrf_eq hR hi] at h
  have h85 := hR.2.2.2.2.2
  obtain ⟨b1, b2, b3, b4, b5, b6⟩ := hb
  clear hR b4 b5 b6
  generalize M 77 (9 * r + i) = b at *
  intro t
  induction t with
  | zero =>
    intro w x7 q0
    have e : (M 83 b).toNat = w := by omega
    have hh := h x7
    rw [e, show M 83 b = (w : Int) by omega] at hh
    clear h
    refine fr_go k174 [26, 53] 400 rfl ?_
    repeat' (first | (refine And.intro (by first | omega | (simp (disch := decide) only [up_n, up_s, cp_n, rw_n, rw_s, up1_, if_true, if_false, ite_true, ite_false, reduceIte, eq_self, Int.reduceEq, true_and, and_true, not_true_eq_false, not_false_eq_true]; omega)) ?_) | (refine And.intro (fun hc => ?_) (fun hc => ?_) <;> (try (simp (disch := decide) only [up_n, up_s, cp_n, rw_n, rw_s, up1_, if_true, if_false, ite_true, ite_false, reduceIte, eq_self, Int.reduceEq, true_and, and_true, not_true_eq_false, not_false_eq_true] at hc)) <;> (try (exfalso; omega))) | (refine fun (hc : ¬ _) => ?_; try (simp (disch := decide) only [up_n, up_s, cp_n, rw_n, rw_s, up1_, if_true, if_false, ite_true, ite_false, reduceIte, eq_self, Int.reduceEq, true_and, and_true, not_true_eq_false, not_false_eq_true] at hc)) | (refine fun (hc : _ = _) => ?_; try (simp (disch := decide) only [up_n, up_s, cp_n, rw_n, rw_s, up1_, if_true, if_false, ite_true, ite_false, reduceIte, eq_self, Int.reduceEq, true_and, and_true, not_true_eq_false, not_false_eq_true] at hc)))
    all_goals first | (exfalso; omega) | exact hh
  | succ t ih =>
    intro w x7 q0
    have hh := fun x7 => ih (w + 1) x7 (by omega)
    have h84 : 0 ≤ 4 * b + (w : Int) ∧ 4 * b + (w : Int) < 160 := by omega
    rw [mrf, show ((w + 1 : Nat) : Int) = (w : Int) + 1 by omega] at hh
    clear ih h
    refine fr_go k174 [26, 53] 400 rfl ?_
    repeat' (first | (refine And.intro (by first | omega | (simp (disch := decide) only [up_n, up_s, cp_n, rw_n, rw_s, up1_, if_true, if_false, ite_true, ite_false, reduceIte, eq_self, Int.reduceEq, true_and, and_true, not_true_eq_false, not_false_eq_true]; omega)) ?_) | (refine m_cost b1 b2 h85 ?_) | (refine And.intro (fun hc => ?_) (fun hc => ?_) <;> (try (simp (disch := decide) only [up_n, up_s, cp_n, rw_n, rw_s, up1_, if_true, if_false, ite_true, ite_false, reduceIte, eq_self, Int.reduceEq, true_and, and_true, not_true_eq_false, not_false_eq_true] at hc)) <;> (try (exfalso; omega))) | (refine fun (hc : ¬ _) => ?_; try (simp (disch := decide) only [up_n, up_s, cp_n, rw_n, rw_s, up1_, if_true, if_false, ite_true, ite_false, reduceIte, eq_self, Int.reduceEq, true_and, and_true, not_true_eq_false, not_false_eq_true] at hc)) | (refine fun (hc : _ = _) => ?_; try (simp (disch := decide) only [up_n, up_s, cp_n, rw_n, rw_s, up1_, if_true, if_false, ite_true, ite_false, reduceIte, eq_self, Int.reduceEq, true_and, and_true, not_true_eq_false, not_false_eq_true] at hc)))
    all_goals first | (exfalso; omega) | skip
    · rw [if_neg (by omega)] at hh
      exact hh _
    · rw [if_pos (by omega)] at hh
      exact hh _
set_option maxHeartbeats 4000000 in
set_option maxRecDepth 100000 in
theorem m_bd1 {M : fr_M} {r n : Int} {Q : Option fr_V → fr_H → fr_M → Prop} (hR : RC M r n) (h : Q (some (.inl (bds (cf M r) n.toNat n.toNat))) sh0 M) : ∀ (t k : Nat) (x4 x5 x6 x7 : Option fr_V), (k : Int) + t = n → fr_Run 174 none 4 [some (.inr (.inl 75)), some (.inl r), some (.inl (bds (cf M r) n.toNat k)), some (.inl (k : Int)), x4, x5, x6, x7] [] sh0 M 0 0 Q := by
  have hr := hR.1
  have hn := hR.2.1
  have hn9 := hR.2.2.1
  have hf : ∀ i j, 0 ≤ i → i < n → 0 ≤ cf M r i j ∧ cf M r i j ≤ 6000000 := fun i j a0 a1 => cf_b hR ⟨a0, a1⟩
  intro t
  induction t with
  | zero =>
    intro k x4 x5 x6 x7 q0
    have e : n.toNat = k := by omega
    have e2 : bds (cf M r) n.toNat n.toNat = bds (cf M r) n.toNat k := by rw [e]
    rw [e2] at h
    refine fr_go k174 [4] 400 rfl ?_
    repeat' (first | (refine And.intro (by first | omega | (simp (disch := decide) only [up_n, up_s, cp_n, rw_n, rw_s, up1_, if_true, if_false, ite_true, ite_false, reduceIte, eq_self, Int.reduceEq, true_and, and_true, not_true_eq_false, not_false_eq_true]; omega)) ?_) | (refine And.intro (fun hc => ?_) (fun hc => ?_) <;> (try (simp (disch := decide) only [up_n, up_s, cp_n, rw_n, rw_s, up1_, if_true, if_false, ite_true, ite_false, reduceIte, eq_self, Int.reduceEq, true_and, and_true, not_true_eq_false, not_false_eq_true] at hc)) <;> (try (exfalso; omega))) | (refine fun (hc : ¬ _) => ?_; try (simp (disch := decide) only [up_n, up_s, cp_n, rw_n, rw_s, up1_, if_true, if_false, ite_true, ite_false, reduceIte, eq_self, Int.reduceEq, true_and, and_true, not_true_eq_false, not_false_eq_true] at hc)) | (refine fun (hc : _ = _) => ?_; try (simp (disch := decide) only [up_n, up_s, cp_n, rw_n, rw_s, up1_, if_true, if_false, ite_true, ite_false, reduceIte, eq_self, Int.reduceEq, true_and, and_true, not_true_eq_false, not_false_eq_true] at hc)))
    all_goals first | (exfalso; omega) | exact h
  | succ t ih =>
    intro k x4 x5 x6 x7 q0
    have hb := bds_b hf k (by omega)
    have hm := mnf_b (f := cf M r) (n := n) (i := (k : Int)) (by omega) hf n.toNat
    have hbk := hR.bl (k := (k : Int)) (by omega)
    have hh := fun x4 x5 x6 x7 => ih (k + 1) x4 x5 x6 x7 (by omega)
    rw [bds, show ((k + 1 : Nat) : Int) = (k : Int) + 1 by omega] at hh
    have h2 := m_bd2 (Q := Q) (s := bds (cf M r) n.toNat k) (i := (k : Int)) hR (by omega) (fun x7 => by
      clear ih h
      refine fr_go k174 [4] 400 rfl ?_
      repeat' (first | (refine And.intro (by first | omega | (simp (disch := decide) only [up_n, up_s, cp_n, rw_n, rw_s, up1_, if_true, if_false, ite_true, ite_false, reduceIte, eq_self, Int.reduceEq, true_and, and_true, not_true_eq_false, not_false_eq_true]; omega)) ?_) | (refine And.intro (fun hc => ?_) (fun hc => ?_) <;> (try (simp (disch := decide) only [up_n, up_s, cp_n, rw_n, rw_s, up1_, if_true, if_false, ite_true, ite_false, reduceIte, eq_self, Int.reduceEq, true_and, and_true, not_true_eq_false, not_false_eq_true] at hc)) <;> (try (exfalso; omega))) | (refine fun (hc : ¬ _) => ?_; try (simp (disch := decide) only [up_n, up_s, cp_n, rw_n, rw_s, up1_, if_true, if_false, ite_true, ite_false, reduceIte, eq_self, Int.reduceEq, true_and, and_true, not_true_eq_false, not_false_eq_true] at hc)) | (refine fun (hc : _ = _) => ?_; try (simp (disch := decide) only [up_n, up_s, cp_n, rw_n, rw_s, up1_, if_true, if_false, ite_true, ite_false, reduceIte, eq_self, Int.reduceEq, true_and, and_true, not_true_eq_false, not_false_eq_true] at hc)))
      all_goals first | (exfalso; omega) | exact hh _ _ _ _) (M 83 (M 77 (9 * r + (k : Int)))).toNat 0 x7 (by omega)
    have h85 := hR.2.2.2.2.2
    clear ih h hh
    refine fr_go k174 [4, 26] 400 rfl ?_
    repeat' (first | (refine And.intro (by first | omega | (simp (disch := decide) only [up_n, up_s, cp_n, rw_n, rw_s, up1_, if_true, if_false, ite_true, ite_false, reduceIte, eq_self, Int.reduceEq, true_and, and_true, not_true_eq_false, not_false_eq_true]; omega)) ?_) | (refine m_cost hbk.1 hbk.2.1 h85 ?_) | (refine And.intro (fun hc => ?_) (fun hc => ?_) <;> (try (simp (disch := decide) only [up_n, up_s, cp_n, rw_n, rw_s, up1_, if_true, if_false, ite_true, ite_false, reduceIte, eq_self, Int.reduceEq, true_and, and_true, not_true_eq_false, not_false_eq_true] at hc)) <;> (try (exfalso; omega))) | (refine fun (hc : ¬ _) => ?_; try (simp (disch := decide) only [up_n, up_s, cp_n, rw_n, rw_s, up1_, if_true, if_false, ite_true, ite_false, reduceIte, eq_self, Int.reduceEq, true_and, and_true, not_true_eq_false, not_false_eq_true] at hc)) | (refine fun (hc : _ = _) => ?_; try (simp (disch := decide) only [up_n, up_s, cp_n, rw_n, rw_s, up1_, if_true, if_false, ite_true, ite_false, reduceIte, eq_self, Int.reduceEq, true_and, and_true, not_true_eq_false, not_false_eq_true] at hc)))
    all_goals first | (exfalso; omega) | exact h2
set_option maxHeartbeats 4000000 in
set_option maxRecDepth 100000 in
theorem m_boundOf {M : fr_M} {r n : Int} {Q : Option fr_V → fr_H → fr_M → Prop} (hR : RC M r n) (h : Q (some (.inl (bds (cf M r) n.toNat n.toNat))) sh0 M) : fr_Call 174 [.inr (.inl 75), .inl r] sh0 M Q := by
  have hn9 := hR.2.2.1
  refine fr_cgo k174 [some (.inr (.inl 75)), some (.inl r), none, none, none, none, none, none] 0 0 [4] 400 rfl rfl rfl rfl ?_
  repeat' (first | (refine And.intro (by first | omega | (simp (disch := decide) only [up_n, up_s, cp_n, rw_n, rw_s, up1_, if_true, if_false, ite_true, ite_false, reduceIte, eq_self, Int.reduceEq, true_and, and_true, not_true_eq_false, not_false_eq_true]; omega)) ?_) | (refine And.intro (fun hc => ?_) (fun hc => ?_) <;> (try (simp (disch := decide) only [up_n, up_s, cp_n, rw_n, rw_s, up1_, if_true, if_false, ite_true, ite_false, reduceIte, eq_self, Int.reduceEq, true_and, and_true, not_true_eq_false, not_false_eq_true] at hc)) <;> (try (exfalso; omega))) | (refine fun (hc : ¬ _) => ?_; try (simp (disch := decide) only [up_n, up_s, cp_n, rw_n, rw_s, up1_, if_true, if_false, ite_true, ite_false, reduceIte, eq_self, Int.reduceEq, true_and, and_true, not_true_eq_false, not_false_eq_true] at hc)) | (refine fun (hc : _ = _) => ?_; try (simp (disch := decide) only [up_n, up_s, cp_n, rw_n, rw_s, up1_, if_true, if_false, ite_true, ite_false, reduceIte, eq_self, Int.reduceEq, true_and, and_true, not_true_eq_false, not_false_eq_true] at hc)))
  exact m_bd1 hR h n.toNat 0 none none none none (by omega)
