theorem bit_up {t j : Int} (ht : 0 ≤ t ∧ t < 256) (hj : 0 ≤ j ∧ j < 8) : btt t j = 0 → pcn (t + b2 j) = pcn t + 1 ∧ btt (t + b2 j) j = 1 ∧ ∀ i : Fin 8, ((i.val : Nat) : Int) ≠ j → btt (t + b2 j) ((i.val : Nat) : Int) = btt t ((i.val : Nat) : Int) :=
  fin2 (P := fun t j => btt t j = 0 → pcn (t + b2 j) = pcn t + 1 ∧ btt (t + b2 j) j = 1 ∧ ∀ i : Fin 8, ((i.val : Nat) : Int) ≠ j → btt (t + b2 j) ((i.val : Nat) : Int) = btt t ((i.val : Nat) : Int)) (a := 256) (b := 8) (by decide +kernel) (by omega) (by omega)
theorem pcn_all {n : Int} (hn : 0 < n ∧ n ≤ 9) : pcn (b2 (n - 1) - 1) = n - 1 :=
  fin2 (P := fun _ k => pcn (b2 k - 1) = k) (a := 1) (b := 9) (by decide +kernel) (s := 0) (k := n - 1) (by omega) (by omega)
theorem LT_ex1 {f : Int → Int → Int} {n : Int} (hn : 0 < n ∧ n ≤ 9) (hf : ∀ i j, 0 ≤ i → i < n → 0 ≤ f i j ∧ f i j ≤ 6000000) {s : Int} (hs : 0 ≤ s ∧ s < b2 n) (h : ∃ g, LT_ f n g s 0) : ∀ l : Nat, (l : Int) ≤ n → ∃ g, LT_ f n g s (l : Int)
  | 0, _ => h
  | l + 1, hl => by
    obtain ⟨g, hg⟩ := LT_ex1 hn hf hs h l (by omega)
    have := hg.step hn hs (show 0 ≤ (l : Int) ∧ (l : Int) < n by omega) hf
    exact ⟨_, this⟩
theorem LT_ex {f : Int → Int → Int} {n : Int} (hn : 0 < n ∧ n ≤ 9) (hf : ∀ i j, 0 ≤ i → i < n → 0 ≤ f i j ∧ f i j ≤ 6000000) : ∀ s : Nat, (s : Int) ≤ b2 n → ∃ g, LT_ f n g (s : Int) 0
  | 0, _ => ⟨fun _ => 0, fun s' l' a0 a1 c0 c1 hlt => by omega⟩
  | s + 1, hs => by
    obtain ⟨g, hg⟩ := LT_ex1 hn hf (s := (s : Int)) (by omega) (LT_ex hn hf s (by omega)) n.toNat (by omega)
    refine ⟨g, fun s' l' a0 a1 c0 c1 hlt => hg s' l' a0 a1 c0 c1 (by omega)⟩
theorem CT_le {f : Int → Int → Int} {n : Int} {g : Int → Int} (hn : 0 < n ∧ n ≤ 9) (hf : ∀ i j, 0 ≤ i → i < n → 0 ≤ f i j ∧ f i j ≤ 6000000) (hC : CT_ f n g (-1) 0) {t l : Int} (ht : 0 ≤ t ∧ t < b2 (n - 1)) (hl : 0 ≤ l ∧ l < n) (hT : isT n t l) : g (t * 9 + l) ≤ 60000000 := by
  have hb := (bit_shl (k := n) (by omega)).2
  obtain ⟨g', hL⟩ := LT_ex hn hf (b2 n).toNat (by omega)
  rw [show (((b2 n).toNat : Nat) : Int) = b2 n by omega] at hL
  have e := tab_eq hn hf hC hL (b2 (n - 1) - 1 - t).toNat t l (by omega) ht.1 hl hT
  have hs := b2_s hn
  have a := (hL (2 * (b2 (n - 1) - 1 - t)) l (by omega) (by omega) hl.1 hl.2 (by omega)).2.2
  have hp := pcn_b (s := 2 * (b2 (n - 1) - 1 - t))
  omega
theorem cfo_ex {f : Int → Int → Int} {R : Int → Int} {t l : Int} : ∀ k : Nat, cfo f R t l k = 1000000000 ∨ ∃ j : Nat, j < k ∧ btt t (j : Int) = 0 ∧ f l ((j : Int) + 1) + R ((t + b2 (j : Int)) * 9 + ((j : Int) + 1)) = cfo f R t l k
  | 0 => Or.inl rfl
  | k + 1 => by
    have a := cfo_ex (f := f) (R := R) (t := t) (l := l) k
    rw [cfo]
    by_cases e : btt t (k : Int) = 0
    · rw [if_pos e]
      by_cases c : cfo f R t l k ≤ f l ((k : Int) + 1) + R ((t + b2 (k : Int)) * 9 + ((k : Int) + 1))
      · rw [show min (cfo f R t l k) (f l ((k : Int) + 1) + R ((t + b2 (k : Int)) * 9 + ((k : Int) + 1))) = cfo f R t l k by omega]
        rcases a with a | ⟨j, hj, a⟩
        · exact Or.inl a
        · exact Or.inr ⟨j, by omega, a⟩
      · rw [show min (cfo f R t l k) (f l ((k : Int) + 1) + R ((t + b2 (k : Int)) * 9 + ((k : Int) + 1))) = f l ((k : Int) + 1) + R ((t + b2 (k : Int)) * 9 + ((k : Int) + 1)) by omega]
        exact Or.inr ⟨k, by omega, e, rfl⟩
    · rw [if_neg e]
      rcases a with a | ⟨j, hj, a⟩
      · exact Or.inl a
      · exact Or.inr ⟨j, by omega, a⟩
/-- the first that keeps to the least -/
def FB (f : Int → Int → Int) (R : Int → Int) (n t l x : Int) : Prop := (1 ≤ x ∧ x < n) ∧ btt t (x - 1) = 0 ∧ f l x + R ((t + b2 (x - 1)) * 9 + x) = R (t * 9 + l) ∧ ∀ y, 1 ≤ y → y < x → btt t (y - 1) = 0 → f l y + R ((t + b2 (y - 1)) * 9 + y) ≠ R (t * 9 + l)
theorem CT_.ex {f : Int → Int → Int} {n : Int} {g : Int → Int} (hn : 0 < n ∧ n ≤ 9) (hf : ∀ i j, 0 ≤ i → i < n → 0 ≤ f i j ∧ f i j ≤ 6000000) (hC : CT_ f n g (-1) 0) {t l : Int} (ht : 0 ≤ t ∧ t < b2 (n - 1)) (hne : t ≠ b2 (n - 1) - 1) (hl : 0 ≤ l ∧ l < n) (hT : isT n t l) : ∃ j : Nat, (j : Int) < n - 1 ∧ btt t (j : Int) = 0 ∧ f l ((j : Int) + 1) + g ((t + b2 (j : Int)) * 9 + ((j : Int) + 1)) = g (t * 9 + l) := by
  have hle := CT_le hn hf hC ht hl hT
  have c := (hC t l ht.1 ht.2 hl.1 hl.2 (by omega)).1
  rw [lr, if_pos hT, if_neg hne] at c
  rcases cfo_ex (f := f) (R := g) (t := t) (l := l) (n - 1).toNat with a | ⟨j, hj, e1, e2⟩
  · omega
  · exact ⟨j, by omega, e1, by omega⟩
set_option maxHeartbeats 4000000 in
set_option maxRecDepth 100000 in
theorem c_fb_l {M : fr_M} {f : Int → Int → Int} {n t l : Int} {Q : Option fr_V → fr_H → fr_M → Prop} (hn : M 18 2 = n ∧ 0 < n ∧ n ≤ 9) (hp : PT f n n (M 19)) (ht : 0 ≤ t ∧ t < b2 (n - 1)) (hl : 0 ≤ l ∧ l < n) (hf : ∀ i j, 0 ≤ i → i < n → 0 ≤ f i j ∧ f i j ≤ 6000000) (hv : ∀ k, 0 ≤ k → k < n - 1 → btt t k = 0 → (0 ≤ M 21 ((t + b2 k) * 9 + (k + 1)) ∧ M 21 ((t + b2 k) * 9 + (k + 1)) ≤ 1000000000) ∧ t + b2 k < b2 (n - 1) ∧ 1 ≤ b2 k) (hex : ∃ j : Nat, (j : Int) < n - 1 ∧ btt t (j : Int) = 0 ∧ f l ((j : Int) + 1) + M 21 ((t + b2 (j : Int)) * 9 + ((j : Int) + 1)) = M 21 (t * 9 + l)) (h : ∀ x, FB f (M 21) n t l x → Q (some (.inl x)) sh0 M) : ∀ (u k : Nat), (k : Int) + u = n - 1 → (∀ y, 1 ≤ y → y < (k : Int) + 1 → btt t (y - 1) = 0 → f l y + M 21 ((t + b2 (y - 1)) * 9 + y) ≠ M 21 (t * 9 + l)) → fr_Run 5 none 2 [some (.inr (.inl 20)), some (.inl t), some (.inl l), some (.inl ((k : Int) + 1))] [] sh0 M 0 0 Q := by
  have h8 := b2_8 hn.2
  intro u
  induction u with
  | zero =>
    intro k q0 q1
    exfalso
    obtain ⟨j, hj, e1, e2⟩ := hex
    have := q1 ((j : Int) + 1) (by omega) (by omega)
    rw [show (j : Int) + 1 - 1 = (j : Int) by omega] at this
    exact this e1 e2
  | succ u ih =>
    intro k q0 q1
    have hb := bit_and (s := t) (k := (k : Int)) (by omega) (by omega)
    have hbk := (bit_shl (k := (k : Int)) (by omega)).2
    have h01 := bt_01 (s := t) (k := (k : Int))
    rcases h01 with e | e
    · have hvk := hv (k : Int) (by omega) (by omega) e
      have ha : fr_and t (b2 (k : Int)) = 0 := by
        rw [hb.1, e]
        omega
      by_cases hc : f l ((k : Int) + 1) + M 21 ((t + b2 (k : Int)) * 9 + ((k : Int) + 1)) = M 21 (t * 9 + l)
      · have hh := h ((k : Int) + 1) ⟨by omega, by rw [show (k : Int) + 1 - 1 = (k : Int) by omega]; exact e, by rw [show (k : Int) + 1 - 1 = (k : Int) by omega]; exact hc, q1⟩
        clear ih h hv hb hex q1
        refine fr_go k5 [2] 400 rfl ?_
        repeat' (first | (refine And.intro (by first | omega | (simp (disch := decide) only [up_n, up_s, cp_n, rw_n, rw_s, up1_, if_true, if_false, ite_true, ite_false, reduceIte, eq_self, Int.reduceEq, true_and, and_true, not_true_eq_false, not_false_eq_true]; omega)) ?_) | (refine c_bitOf1 (by omega) ?_) | (refine c_through hn.2 hp ht hl (by omega) hf e hvk ?_) | (refine And.intro (fun hc => ?_) (fun hc => ?_) <;> (try (simp (disch := decide) only [up_n, up_s, cp_n, rw_n, rw_s, up1_, if_true, if_false, ite_true, ite_false, reduceIte, eq_self, Int.reduceEq, true_and, and_true, not_true_eq_false, not_false_eq_true] at hc)) <;> (try (exfalso; omega))) | (refine fun (hc : ¬ _) => ?_; try (simp (disch := decide) only [up_n, up_s, cp_n, rw_n, rw_s, up1_, if_true, if_false, ite_true, ite_false, reduceIte, eq_self, Int.reduceEq, true_and, and_true, not_true_eq_false, not_false_eq_true] at hc)) | (refine fun (hc : _ = _) => ?_; try (simp (disch := decide) only [up_n, up_s, cp_n, rw_n, rw_s, up1_, if_true, if_false, ite_true, ite_false, reduceIte, eq_self, Int.reduceEq, true_and, and_true, not_true_eq_false, not_false_eq_true] at hc)))
        all_goals first | (exfalso; omega) | exact hh
      · have hh := ih (k + 1) (by omega) (fun y y0 y1 => by
          by_cases ey : y = (k : Int) + 1
          · rw [ey, show (k : Int) + 1 - 1 = (k : Int) by omega]
            exact fun _ => hc
          · exact q1 y y0 (by omega))
        rw [show ((k + 1 : Nat) : Int) = (k : Int) + 1 by omega] at hh
        clear ih h hv hb hex q1
        refine fr_go k5 [2] 400 rfl ?_
        repeat' (first | (refine And.intro (by first | omega | (simp (disch := decide) only [up_n, up_s, cp_n, rw_n, rw_s, up1_, if_true, if_false, ite_true, ite_false, reduceIte, eq_self, Int.reduceEq, true_and, and_true, not_true_eq_false, not_false_eq_true]; omega)) ?_) | (refine c_bitOf1 (by omega) ?_) | (refine c_through hn.2 hp ht hl (by omega) hf e hvk ?_) | (refine And.intro (fun hc => ?_) (fun hc => ?_) <;> (try (simp (disch := decide) only [up_n, up_s, cp_n, rw_n, rw_s, up1_, if_true, if_false, ite_true, ite_false, reduceIte, eq_self, Int.reduceEq, true_and, and_true, not_true_eq_false, not_false_eq_true] at hc)) <;> (try (exfalso; omega))) | (refine fun (hc : ¬ _) => ?_; try (simp (disch := decide) only [up_n, up_s, cp_n, rw_n, rw_s, up1_, if_true, if_false, ite_true, ite_false, reduceIte, eq_self, Int.reduceEq, true_and, and_true, not_true_eq_false, not_false_eq_true] at hc)) | (refine fun (hc : _ = _) => ?_; try (simp (disch := decide) only [up_n, up_s, cp_n, rw_n, rw_s, up1_, if_true, if_false, ite_true, ite_false, reduceIte, eq_self, Int.reduceEq, true_and, and_true, not_true_eq_false, not_false_eq_true] at hc)))
        all_goals first | (exfalso; omega) | exact hh
    · have ha : fr_and t (b2 (k : Int)) = b2 (k : Int) := by
        rw [hb.1, e]
        omega
      have hh := ih (k + 1) (by omega) (fun y y0 y1 => by
        by_cases ey : y = (k : Int) + 1
        · rw [ey, show (k : Int) + 1 - 1 = (k : Int) by omega]
          intro q
          omega
        · exact q1 y y0 (by omega))
      rw [show ((k + 1 : Nat) : Int) = (k : Int) + 1 by omega] at hh
      clear ih h hv hb hp hf hex q1
      refine fr_go k5 [2] 400 rfl ?_
      repeat' (first | (refine And.intro (by first | omega | (simp (disch := decide) only [up_n, up_s, cp_n, rw_n, rw_s, up1_, if_true, if_false, ite_true, ite_false, reduceIte, eq_self, Int.reduceEq, true_and, and_true, not_true_eq_false, not_false_eq_true]; omega)) ?_) | (refine c_bitOf1 (by omega) ?_) | (refine And.intro (fun hc => ?_) (fun hc => ?_) <;> (try (simp (disch := decide) only [up_n, up_s, cp_n, rw_n, rw_s, up1_, if_true, if_false, ite_true, ite_false, reduceIte, eq_self, Int.reduceEq, true_and, and_true, not_true_eq_false, not_false_eq_true] at hc)) <;> (try (exfalso; omega))) | (refine fun (hc : ¬ _) => ?_; try (simp (disch := decide) only [up_n, up_s, cp_n, rw_n, rw_s, up1_, if_true, if_false, ite_true, ite_false, reduceIte, eq_self, Int.reduceEq, true_and, and_true, not_true_eq_false, not_false_eq_true] at hc)) | (refine fun (hc : _ = _) => ?_; try (simp (disch := decide) only [up_n, up_s, cp_n, rw_n, rw_s, up1_, if_true, if_false, ite_true, ite_false, reduceIte, eq_self, Int.reduceEq, true_and, and_true, not_true_eq_false, not_false_eq_true] at hc)))
      all_goals first | (exfalso; omega) | exact hh
set_option maxHeartbeats 4000000 in
set_option maxRecDepth 100000 in
theorem c_firstBest {M : fr_M} {f : Int → Int → Int} {n t l : Int} {Q : Option fr_V → fr_H → fr_M → Prop} (hn : M 18 2 = n ∧ 0 < n ∧ n ≤ 9) (hp : PT f n n (M 19)) (ht : 0 ≤ t ∧ t < b2 (n - 1)) (hl : 0 ≤ l ∧ l < n) (hf : ∀ i j, 0 ≤ i → i < n → 0 ≤ f i j ∧ f i j ≤ 6000000) (hv : ∀ k, 0 ≤ k → k < n - 1 → btt t k = 0 → (0 ≤ M 21 ((t + b2 k) * 9 + (k + 1)) ∧ M 21 ((t + b2 k) * 9 + (k + 1)) ≤ 1000000000) ∧ t + b2 k < b2 (n - 1) ∧ 1 ≤ b2 k) (hex : ∃ j : Nat, (j : Int) < n - 1 ∧ btt t (j : Int) = 0 ∧ f l ((j : Int) + 1) + M 21 ((t + b2 (j : Int)) * 9 + ((j : Int) + 1)) = M 21 (t * 9 + l)) (h : ∀ x, FB f (M 21) n t l x → Q (some (.inl x)) sh0 M) : fr_Call 5 [.inr (.inl 20), .inl t, .inl l] sh0 M Q := by
  refine fr_cgo k5 [some (.inr (.inl 20)), some (.inl t), some (.inl l), none] 0 0 [2] 400 rfl rfl rfl rfl ?_
  repeat' (first | (refine And.intro (by first | omega | (simp (disch := decide) only [up_n, up_s, cp_n, rw_n, rw_s, up1_, if_true, if_false, ite_true, ite_false, reduceIte, eq_self, Int.reduceEq, true_and, and_true, not_true_eq_false, not_false_eq_true]; omega)) ?_) | (refine And.intro (fun hc => ?_) (fun hc => ?_) <;> (try (simp (disch := decide) only [up_n, up_s, cp_n, rw_n, rw_s, up1_, if_true, if_false, ite_true, ite_false, reduceIte, eq_self, Int.reduceEq, true_and, and_true, not_true_eq_false, not_false_eq_true] at hc)) <;> (try (exfalso; omega))) | (refine fun (hc : ¬ _) => ?_; try (simp (disch := decide) only [up_n, up_s, cp_n, rw_n, rw_s, up1_, if_true, if_false, ite_true, ite_false, reduceIte, eq_self, Int.reduceEq, true_and, and_true, not_true_eq_false, not_false_eq_true] at hc)) | (refine fun (hc : _ = _) => ?_; try (simp (disch := decide) only [up_n, up_s, cp_n, rw_n, rw_s, up1_, if_true, if_false, ite_true, ite_false, reduceIte, eq_self, Int.reduceEq, true_and, and_true, not_true_eq_false, not_false_eq_true] at hc)))
  exact c_fb_l hn hp ht hl hf hv hex h (n - 1).toNat 0 (by omega) (fun y y0 y1 => by omega)
/-- the set of what is picked -/
def TS (h : Int → Int) : Nat → Int
  | 0 => 0
  | k + 1 => TS h k + b2 (h ((k : Int) + 1) - 1)
def WLK (f : Int → Int → Int) (R : Int → Int) (n : Int) (h : Int → Int) (m : Nat) : Prop := h 0 = 0 ∧ ∀ k : Nat, k < m → FB f R n (TS h k) (h (k : Int)) (h ((k : Int) + 1))
theorem TS_cg {h h' : Int → Int} : ∀ m : Nat, (∀ i, 0 ≤ i → i ≤ (m : Int) → h i = h' i) → TS h m = TS h' m
  | 0, _ => rfl
  | m + 1, e => by
    rw [TS, TS, TS_cg m (fun i a0 a1 => e i a0 (by omega)), e ((m : Int) + 1) (by omega) (by omega)]
theorem WLK.cg {f : Int → Int → Int} {R : Int → Int} {n : Int} {h h' : Int → Int} {m : Nat} (w : WLK f R n h m) (e : ∀ i, 0 ≤ i → i ≤ (m : Int) → h' i = h i) : WLK f R n h' m := by
  refine ⟨by rw [e 0 (by omega) (by omega)]; exact w.1, fun k hk => ?_⟩
  rw [TS_cg (h := h') (h' := h) k (fun i a0 a1 => e i a0 (by omega)), e (k : Int) (by omega) (by omega), e ((k : Int) + 1) (by omega) (by omega)]
  exact w.2 k hk
theorem WLK.inv {f : Int → Int → Int} {R : Int → Int} {n : Int} {h : Int → Int} {m : Nat} (hn : 0 < n ∧ n ≤ 9) (w : WLK f R n h m) : ∀ k : Nat, k ≤ m → (0 ≤ TS h k ∧ TS h k < b2 (n - 1)) ∧ isT n (TS h k) (h (k : Int)) ∧ pcn (TS h k) = (k : Int) ∧ (0 ≤ h (k : Int) ∧ h (k : Int) < n) ∧ ∀ j : Nat, 1 ≤ j → j ≤ k → 1 ≤ h (j : Int) ∧ btt (TS h k) (h (j : Int) - 1) = 1
  | 0, _ => by
    have h8 := b2_8 hn
    have w0 := w.1
    refine ⟨⟨Int.le_refl 0, by rw [TS]; omega⟩, Or.inl ⟨w0, Or.inl rfl⟩, rfl, ?_, fun j j0 j1 => by omega⟩
    show 0 ≤ h 0 ∧ h 0 < n
    omega
  | k + 1, hk => by
    obtain ⟨i1, i2, i3, i4, i5⟩ := WLK.inv hn w k (by omega)
    have h8 := b2_8 hn
    have fb := w.2 k (by omega)
    obtain ⟨f1, f2, -, -⟩ := fb
    rw [show ((k + 1 : Nat) : Int) = (k : Int) + 1 by omega, TS]
    have bu := bit_up (t := TS h k) (j := h ((k : Int) + 1) - 1) (by omega) (by omega) f2
    have bc := (bit_co (n := n) (t := TS h k) (k := h ((k : Int) + 1) - 1) (by omega) i1 (by omega)).2.2.2 f2
    have bs := (bit_shl (k := h ((k : Int) + 1) - 1) (by omega)).2
    refine ⟨by omega, Or.inr ⟨by omega, bu.2.1⟩, by omega, by omega, fun j j0 j1 => ?_⟩
    by_cases e : j = k + 1
    · rw [e, show ((k + 1 : Nat) : Int) = (k : Int) + 1 by omega]
      exact ⟨f1.1, bu.2.1⟩
    · have i5 := i5 j j0 (by omega)
      have hj := (w.2 (j - 1) (by omega)).1
      rw [show ((j - 1 : Nat) : Int) + 1 = (j : Int) by omega] at hj
      have := bu.2.2 ⟨(h (j : Int) - 1).toNat, by omega⟩
      rw [show (((h (j : Int) - 1).toNat : Nat) : Int) = h (j : Int) - 1 by omega] at this
      refine ⟨i5.1, ?_⟩
      rw [this (fun q => by rw [q, f2] at i5; omega)]
      exact i5.2
theorem WLK.inj {f : Int → Int → Int} {R : Int → Int} {n : Int} {h : Int → Int} {m : Nat} (hn : 0 < n ∧ n ≤ 9) (w : WLK f R n h m) {i j : Nat} (hij : i < j) (hj : j ≤ m) : h (i : Int) ≠ h (j : Int) := by
  obtain ⟨k, rfl⟩ : ∃ k, j = k + 1 := ⟨j - 1, by omega⟩
  have fb := w.2 k (by omega)
  have inv := (WLK.inv hn w k (by omega)).2.2.2.2 i
  rw [show ((k + 1 : Nat) : Int) = (k : Int) + 1 by omega]
  obtain ⟨f1, f2, -, -⟩ := fb
  by_cases e : i = 0
  · subst e
    have := w.1
    show h 0 ≠ _
    omega
  · have := inv (by omega) (by omega)
    intro q
    rw [q, f2] at this
    omega
