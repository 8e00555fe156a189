def flw (M : fr_M) (b x : Int) : Nat → Int
  | 0 => 0
  | w + 1 => if flw M b x w ≠ 0 ∨ M 84 (4 * b + (w : Int)) = x then 1 else 0
def fl (M : fr_M) (r n k : Int) : Int := if k + 1 < n then flw M (M 78 (9 * r + k)) (M 78 (9 * r + k + 1)) (M 83 (M 78 (9 * r + k))).toNat else 0
def fsm (M : fr_M) (r n : Int) : Nat → Int
  | 0 => 0
  | k + 1 => fsm M r n k + fl M r n (k : Int)
theorem flw_01 {M : fr_M} {b x : Int} : ∀ w : Nat, flw M b x w = 0 ∨ flw M b x w = 1
  | 0 => Or.inl rfl
  | w + 1 => by
    rw [flw]
    split
    · exact Or.inr rfl
    · exact Or.inl rfl
theorem flw_up {M : fr_M} {b x : Int} {w : Nat} (h : flw M b x w = 1) : ∀ t : Nat, flw M b x (w + t) = 1
  | 0 => h
  | t + 1 => by
    have := flw_up h t
    rw [← Nat.add_assoc, flw, if_pos (Or.inl (by omega))]
theorem fl_01 {M : fr_M} {r n k : Int} : fl M r n k = 0 ∨ fl M r n k = 1 := by
  unfold fl
  split
  · exact flw_01 _
  · exact Or.inl rfl
theorem fsm_b {M : fr_M} {r n : Int} : ∀ k : Nat, 0 ≤ fsm M r n k ∧ fsm M r n k ≤ (k : Int)
  | 0 => ⟨Int.le_refl 0, Int.le_refl 0⟩
  | k + 1 => by
    have a := fsm_b (M := M) (r := r) (n := n) k
    have b := fl_01 (M := M) (r := r) (n := n) (k := (k : Int))
    rw [fsm]
    omega
set_option maxHeartbeats 4000000 in
set_option maxRecDepth 100000 in
theorem c_fo_l {M : fr_M} {b x n : Int} {Q : Option fr_V → fr_H → fr_M → Prop} (hb : 0 ≤ b ∧ b < 40) (hn : M 8 b = n ∧ 0 ≤ n ∧ n ≤ 4) (hw : ∀ w, 0 ≤ w → w < n → M 11 (b * 4 + w) = M 84 (4 * b + w)) (hx : x ≠ -1) (h : Q (some (.inl (flw M b x n.toNat))) sh0 M) : ∀ (t w : Nat), (w : Int) + t = n → flw M b x w = 0 → fr_Run 52 none 6 [some (.inr (.inl 13)), some (.inl b), some (.inl x), some (.inl (w : Int))] [] sh0 M 0 0 Q := by
  intro t
  induction t with
  | zero =>
    intro w q0 q1
    rw [show n.toNat = w by omega, q1] at h
    refine fr_go k52 [6] 400 rfl ?_
    repeat' (first | (refine And.intro (by first | omega | (simp (disch := decide) only [up_n, up_s, cp_n, rw_n, rw_s, up1_, if_true, if_false, ite_true, ite_false, reduceIte, eq_self, Int.reduceEq, true_and, and_true, not_true_eq_false, not_false_eq_true]; omega)) ?_) | (refine And.intro (fun hc => ?_) (fun hc => ?_) <;> (try (simp (disch := decide) only [up_n, up_s, cp_n, rw_n, rw_s, up1_, if_true, if_false, ite_true, ite_false, reduceIte, eq_self, Int.reduceEq, true_and, and_true, not_true_eq_false, not_false_eq_true] at hc)) <;> (try (exfalso; omega))) | (refine fun (hc : ¬ _) => ?_; try (simp (disch := decide) only [up_n, up_s, cp_n, rw_n, rw_s, up1_, if_true, if_false, ite_true, ite_false, reduceIte, eq_self, Int.reduceEq, true_and, and_true, not_true_eq_false, not_false_eq_true] at hc)) | (refine fun (hc : _ = _) => ?_; try (simp (disch := decide) only [up_n, up_s, cp_n, rw_n, rw_s, up1_, if_true, if_false, ite_true, ite_false, reduceIte, eq_self, Int.reduceEq, true_and, and_true, not_true_eq_false, not_false_eq_true] at hc)))
    all_goals first | (exfalso; omega) | exact h
  | succ t ih =>
    intro w q0 q1
    have hw1 := hw (w : Int) (by omega) (by omega)
    by_cases e : M 84 (4 * b + (w : Int)) = x
    · have e1 : flw M b x (w + 1) = 1 := by rw [flw, if_pos (Or.inr e)]
      have e2 := flw_up e1 t
      rw [show n.toNat = w + 1 + t by omega, e2] at h
      clear ih hw
      refine fr_go k52 [6] 400 rfl ?_
      repeat' (first | (refine And.intro (by first | omega | (simp (disch := decide) only [up_n, up_s, cp_n, rw_n, rw_s, up1_, if_true, if_false, ite_true, ite_false, reduceIte, eq_self, Int.reduceEq, true_and, and_true, not_true_eq_false, not_false_eq_true]; omega)) ?_) | (refine c_wayOf (by omega) (by omega) (fun hc => ?_) (fun hc => ?_) <;> (try (simp (disch := decide) only [up_n, up_s, cp_n, rw_n, rw_s, up1_, if_true, if_false, ite_true, ite_false, reduceIte, eq_self, Int.reduceEq, true_and, and_true, not_true_eq_false, not_false_eq_true] at hc))) | (refine And.intro (fun hc => ?_) (fun hc => ?_) <;> (try (simp (disch := decide) only [up_n, up_s, cp_n, rw_n, rw_s, up1_, if_true, if_false, ite_true, ite_false, reduceIte, eq_self, Int.reduceEq, true_and, and_true, not_true_eq_false, not_false_eq_true] at hc)) <;> (try (exfalso; omega))) | (refine fun (hc : ¬ _) => ?_; try (simp (disch := decide) only [up_n, up_s, cp_n, rw_n, rw_s, up1_, if_true, if_false, ite_true, ite_false, reduceIte, eq_self, Int.reduceEq, true_and, and_true, not_true_eq_false, not_false_eq_true] at hc)) | (refine fun (hc : _ = _) => ?_; try (simp (disch := decide) only [up_n, up_s, cp_n, rw_n, rw_s, up1_, if_true, if_false, ite_true, ite_false, reduceIte, eq_self, Int.reduceEq, true_and, and_true, not_true_eq_false, not_false_eq_true] at hc)))
      all_goals first | (exfalso; omega) | exact h
    · have hh := ih (w + 1) (by omega) (by rw [flw, if_neg (by omega)])
      rw [show ((w + 1 : Nat) : Int) = (w : Int) + 1 by omega] at hh
      clear ih hw h
      refine fr_go k52 [6] 400 rfl ?_
      repeat' (first | (refine And.intro (by first | omega | (simp (disch := decide) only [up_n, up_s, cp_n, rw_n, rw_s, up1_, if_true, if_false, ite_true, ite_false, reduceIte, eq_self, Int.reduceEq, true_and, and_true, not_true_eq_false, not_false_eq_true]; omega)) ?_) | (refine c_wayOf (by omega) (by omega) (fun hc => ?_) (fun hc => ?_) <;> (try (simp (disch := decide) only [up_n, up_s, cp_n, rw_n, rw_s, up1_, if_true, if_false, ite_true, ite_false, reduceIte, eq_self, Int.reduceEq, true_and, and_true, not_true_eq_false, not_false_eq_true] at hc))) | (refine And.intro (fun hc => ?_) (fun hc => ?_) <;> (try (simp (disch := decide) only [up_n, up_s, cp_n, rw_n, rw_s, up1_, if_true, if_false, ite_true, ite_false, reduceIte, eq_self, Int.reduceEq, true_and, and_true, not_true_eq_false, not_false_eq_true] at hc)) <;> (try (exfalso; omega))) | (refine fun (hc : ¬ _) => ?_; try (simp (disch := decide) only [up_n, up_s, cp_n, rw_n, rw_s, up1_, if_true, if_false, ite_true, ite_false, reduceIte, eq_self, Int.reduceEq, true_and, and_true, not_true_eq_false, not_false_eq_true] at hc)) | (refine fun (hc : _ = _) => ?_; try (simp (disch := decide) only [up_n, up_s, cp_n, rw_n, rw_s, up1_, if_true, if_false, ite_true, ite_false, reduceIte, eq_self, Int.reduceEq, true_and, and_true, not_true_eq_false, not_false_eq_true] at hc)))
      all_goals first | (exfalso; omega) | exact hh
set_option maxHeartbeats 4000000 in
set_option maxRecDepth 100000 in
theorem c_fo_0 {M : fr_M} {b n : Int} {Q : Option fr_V → fr_H → fr_M → Prop} (hb : 0 ≤ b ∧ b < 40) (hn : M 8 b = n ∧ 0 ≤ n ∧ n ≤ 4) (h : Q (some (.inl 0)) sh0 M) : ∀ (t w : Nat), (w : Int) + t = n → fr_Run 52 none 6 [some (.inr (.inl 13)), some (.inl b), some (.inl (-1)), some (.inl (w : Int))] [] sh0 M 0 0 Q := by
  intro t
  induction t with
  | zero =>
    intro w q0
    refine fr_go k52 [6] 400 rfl ?_
    repeat' (first | (refine And.intro (by first | omega | (simp (disch := decide) only [up_n, up_s, cp_n, rw_n, rw_s, up1_, if_true, if_false, ite_true, ite_false, reduceIte, eq_self, Int.reduceEq, true_and, and_true, not_true_eq_false, not_false_eq_true]; omega)) ?_) | (refine And.intro (fun hc => ?_) (fun hc => ?_) <;> (try (simp (disch := decide) only [up_n, up_s, cp_n, rw_n, rw_s, up1_, if_true, if_false, ite_true, ite_false, reduceIte, eq_self, Int.reduceEq, true_and, and_true, not_true_eq_false, not_false_eq_true] at hc)) <;> (try (exfalso; omega))) | (refine fun (hc : ¬ _) => ?_; try (simp (disch := decide) only [up_n, up_s, cp_n, rw_n, rw_s, up1_, if_true, if_false, ite_true, ite_false, reduceIte, eq_self, Int.reduceEq, true_and, and_true, not_true_eq_false, not_false_eq_true] at hc)) | (refine fun (hc : _ = _) => ?_; try (simp (disch := decide) only [up_n, up_s, cp_n, rw_n, rw_s, up1_, if_true, if_false, ite_true, ite_false, reduceIte, eq_self, Int.reduceEq, true_and, and_true, not_true_eq_false, not_false_eq_true] at hc)))
    all_goals first | (exfalso; omega) | exact h
  | succ t ih =>
    intro w q0
    have hh := ih (w + 1) (by omega)
    rw [show ((w + 1 : Nat) : Int) = (w : Int) + 1 by omega] at hh
    clear ih h
    refine fr_go k52 [6] 400 rfl ?_
    repeat' (first | (refine And.intro (by first | omega | (simp (disch := decide) only [up_n, up_s, cp_n, rw_n, rw_s, up1_, if_true, if_false, ite_true, ite_false, reduceIte, eq_self, Int.reduceEq, true_and, and_true, not_true_eq_false, not_false_eq_true]; omega)) ?_) | (refine And.intro (fun hc => ?_) (fun hc => ?_) <;> (try (simp (disch := decide) only [up_n, up_s, cp_n, rw_n, rw_s, up1_, if_true, if_false, ite_true, ite_false, reduceIte, eq_self, Int.reduceEq, true_and, and_true, not_true_eq_false, not_false_eq_true] at hc)) <;> (try (exfalso; omega))) | (refine fun (hc : ¬ _) => ?_; try (simp (disch := decide) only [up_n, up_s, cp_n, rw_n, rw_s, up1_, if_true, if_false, ite_true, ite_false, reduceIte, eq_self, Int.reduceEq, true_and, and_true, not_true_eq_false, not_false_eq_true] at hc)) | (refine fun (hc : _ = _) => ?_; try (simp (disch := decide) only [up_n, up_s, cp_n, rw_n, rw_s, up1_, if_true, if_false, ite_true, ite_false, reduceIte, eq_self, Int.reduceEq, true_and, and_true, not_true_eq_false, not_false_eq_true] at hc)))
    all_goals first | (exfalso; omega) | exact hh
set_option maxHeartbeats 4000000 in
set_option maxRecDepth 100000 in
theorem c_fallsOn {M : fr_M} {r n k b : Int} {Q : Option fr_V → fr_H → fr_M → Prop} (hP : PC M) (o1 : O1 M) (hr : 0 ≤ r ∧ r < 6) (hn : M 76 r = n) (hk : 0 ≤ k ∧ k < n) (eb : M 78 (9 * r + k) = b) (h : Q (some (.inl (fl M r n k))) sh0 M) : fr_Call 52 [.inr (.inl 13), .inl b] sh0 M Q := by
  have a := o1 r k hr.1 hr.2 hk.1 (by omega)
  have h2 := hP.2.1 r hr.1 hr.2
  have hp4 := hP.1.2.2.2.2.2
  have b4 := hP.2.2.2.1 (M 78 (9 * r + k)) a.2.1 a.2.2.1
  have b5 := hP.2.2.2.2.1 (M 78 (9 * r + k)) a.2.1 a.2.2.1
  have b6 := fun w => hP.2.2.2.2.2.1 (M 78 (9 * r + k)) w a.2.1 a.2.2.1
  obtain ⟨c1, c2, c3, c4, c5, c6, c7, c8, -, -⟩ := b5
  have e4 : M 4 (M 78 (9 * r + k)) = r := b4.1.trans a.2.2.2.1
  have e15 := a.2.2.2.2
  have hb : 0 ≤ M 78 (9 * r + k) ∧ M 78 (9 * r + k) < 40 := by omega
  have hw : ∀ w, 0 ≤ w → w < M 83 (M 78 (9 * r + k)) → M 11 (M 78 (9 * r + k) * 4 + w) = M 84 (4 * M 78 (9 * r + k) + w) := fun w w0 w1 => (b6 w w0 w1).1
  clear b6 b4
  have h24 : M 2 (M 4 (M 78 (9 * r + k))) = n := by rw [e4]; omega
  by_cases e : k + 1 < n
  · have a1 := o1 r (k + 1) hr.1 hr.2 (by omega) (by omega)
    rw [show 9 * r + (k + 1) = 9 * r + k + 1 by omega] at a1
    have hl := c_fo_l (M := M) (b := M 78 (9 * r + k)) (x := M 78 (9 * r + k + 1)) (Q := Q) hb ⟨c4, by omega, by omega⟩ hw (by omega) (by rw [fl, if_pos e] at h; exact h) (M 83 (M 78 (9 * r + k))).toNat 0 (by omega) rfl
    rw [← a1.1] at hl
    have a14 := a1.1
    clear h hw
    rw [eb] at *
    refine fr_cgo k52 [some (.inr (.inl 13)), some (.inl b), none, none] 0 0 [6] 400 rfl rfl rfl rfl ?_
    refine fr_cgo k47 [some (.inr (.inl 13)), some (.inl b), none, none] 0 0 [] 400 rfl rfl rfl rfl ?_
    repeat' (first | (refine And.intro (by first | omega | (simp (disch := decide) only [up_n, up_s, cp_n, rw_n, rw_s, up1_, if_true, if_false, ite_true, ite_false, reduceIte, eq_self, Int.reduceEq, true_and, and_true, not_true_eq_false, not_false_eq_true]; omega)) ?_) | (refine And.intro (fun hc => ?_) (fun hc => ?_) <;> (try (simp (disch := decide) only [up_n, up_s, cp_n, rw_n, rw_s, up1_, if_true, if_false, ite_true, ite_false, reduceIte, eq_self, Int.reduceEq, true_and, and_true, not_true_eq_false, not_false_eq_true] at hc)) <;> (try (exfalso; omega))) | (refine fun (hc : ¬ _) => ?_; try (simp (disch := decide) only [up_n, up_s, cp_n, rw_n, rw_s, up1_, if_true, if_false, ite_true, ite_false, reduceIte, eq_self, Int.reduceEq, true_and, and_true, not_true_eq_false, not_false_eq_true] at hc)) | (refine fun (hc : _ = _) => ?_; try (simp (disch := decide) only [up_n, up_s, cp_n, rw_n, rw_s, up1_, if_true, if_false, ite_true, ite_false, reduceIte, eq_self, Int.reduceEq, true_and, and_true, not_true_eq_false, not_false_eq_true] at hc)))
    all_goals first | (exfalso; omega) | skip
    rw [e4, e15]
    exact hl
  · have hl := c_fo_0 (M := M) (b := M 78 (9 * r + k)) (Q := Q) hb ⟨c4, by omega, by omega⟩ (by rw [fl, if_neg e] at h; exact h) (M 83 (M 78 (9 * r + k))).toNat 0 (by omega)
    clear h hw
    rw [eb] at *
    refine fr_cgo k52 [some (.inr (.inl 13)), some (.inl b), none, none] 0 0 [6] 400 rfl rfl rfl rfl ?_
    refine fr_cgo k47 [some (.inr (.inl 13)), some (.inl b), none, none] 0 0 [] 400 rfl rfl rfl rfl ?_
    repeat' (first | (refine And.intro (by first | omega | (simp (disch := decide) only [up_n, up_s, cp_n, rw_n, rw_s, up1_, if_true, if_false, ite_true, ite_false, reduceIte, eq_self, Int.reduceEq, true_and, and_true, not_true_eq_false, not_false_eq_true]; omega)) ?_) | (refine And.intro (fun hc => ?_) (fun hc => ?_) <;> (try (simp (disch := decide) only [up_n, up_s, cp_n, rw_n, rw_s, up1_, if_true, if_false, ite_true, ite_false, reduceIte, eq_self, Int.reduceEq, true_and, and_true, not_true_eq_false, not_false_eq_true] at hc)) <;> (try (exfalso; omega))) | (refine fun (hc : ¬ _) => ?_; try (simp (disch := decide) only [up_n, up_s, cp_n, rw_n, rw_s, up1_, if_true, if_false, ite_true, ite_false, reduceIte, eq_self, Int.reduceEq, true_and, and_true, not_true_eq_false, not_false_eq_true] at hc)) | (refine fun (hc : _ = _) => ?_; try (simp (disch := decide) only [up_n, up_s, cp_n, rw_n, rw_s, up1_, if_true, if_false, ite_true, ite_false, reduceIte, eq_self, Int.reduceEq, true_and, and_true, not_true_eq_false, not_false_eq_true] at hc)))
    all_goals first | (exfalso; omega) | skip
    exact hl
set_option maxHeartbeats 4000000 in
set_option maxRecDepth 100000 in
theorem c_fs_l {M : fr_M} {r n : Int} {Q : Option fr_V → fr_H → fr_M → Prop} (hP : PC M) (o1 : O1 M) (hr : 0 ≤ r ∧ r < 6) (hn : M 76 r = n) (h : Q (some (.inl (fsm M r n n.toNat))) sh0 M) : ∀ (t k : Nat), (k : Int) + t = n → fr_Run 53 none 4 [some (.inr (.inl 13)), some (.inl r), some (.inl (fsm M r n k)), some (.inl (k : Int))] [] sh0 M 0 0 Q := by
  have h2 := hP.2.1 r hr.1 hr.2
  intro t
  induction t with
  | zero =>
    intro k q0
    rw [show n.toNat = k by omega] at h
    refine fr_go k53 [4] 400 rfl ?_
    repeat' (first | (refine And.intro (by first | omega | (simp (disch := decide) only [up_n, up_s, cp_n, rw_n, rw_s, up1_, if_true, if_false, ite_true, ite_false, reduceIte, eq_self, Int.reduceEq, true_and, and_true, not_true_eq_false, not_false_eq_true]; omega)) ?_) | (refine And.intro (fun hc => ?_) (fun hc => ?_) <;> (try (simp (disch := decide) only [up_n, up_s, cp_n, rw_n, rw_s, up1_, if_true, if_false, ite_true, ite_false, reduceIte, eq_self, Int.reduceEq, true_and, and_true, not_true_eq_false, not_false_eq_true] at hc)) <;> (try (exfalso; omega))) | (refine fun (hc : ¬ _) => ?_; try (simp (disch := decide) only [up_n, up_s, cp_n, rw_n, rw_s, up1_, if_true, if_false, ite_true, ite_false, reduceIte, eq_self, Int.reduceEq, true_and, and_true, not_true_eq_false, not_false_eq_true] at hc)) | (refine fun (hc : _ = _) => ?_; try (simp (disch := decide) only [up_n, up_s, cp_n, rw_n, rw_s, up1_, if_true, if_false, ite_true, ite_false, reduceIte, eq_self, Int.reduceEq, true_and, and_true, not_true_eq_false, not_false_eq_true] at hc)))
    all_goals first | (exfalso; omega) | exact h
  | succ t ih =>
    intro k q0
    have hh := ih (k + 1) (by omega)
    have hb := fsm_b (M := M) (r := r) (n := n) k
    have a := (o1 r (k : Int) hr.1 hr.2 (by omega) (by omega)).1
    have h01 := fl_01 (M := M) (r := r) (n := n) (k := (k : Int))
    rw [fsm, show ((k + 1 : Nat) : Int) = (k : Int) + 1 by omega] at hh
    clear ih h
    refine fr_go k53 [4] 400 rfl ?_
    repeat' (first | (refine And.intro (by first | omega | (simp (disch := decide) only [up_n, up_s, cp_n, rw_n, rw_s, up1_, if_true, if_false, ite_true, ite_false, reduceIte, eq_self, Int.reduceEq, true_and, and_true, not_true_eq_false, not_false_eq_true]; omega)) ?_) | (refine And.intro (fun hc => ?_) (fun hc => ?_) <;> (try (simp (disch := decide) only [up_n, up_s, cp_n, rw_n, rw_s, up1_, if_true, if_false, ite_true, ite_false, reduceIte, eq_self, Int.reduceEq, true_and, and_true, not_true_eq_false, not_false_eq_true] at hc)) <;> (try (exfalso; omega))) | (refine fun (hc : ¬ _) => ?_; try (simp (disch := decide) only [up_n, up_s, cp_n, rw_n, rw_s, up1_, if_true, if_false, ite_true, ite_false, reduceIte, eq_self, Int.reduceEq, true_and, and_true, not_true_eq_false, not_false_eq_true] at hc)) | (refine fun (hc : _ = _) => ?_; try (simp (disch := decide) only [up_n, up_s, cp_n, rw_n, rw_s, up1_, if_true, if_false, ite_true, ite_false, reduceIte, eq_self, Int.reduceEq, true_and, and_true, not_true_eq_false, not_false_eq_true] at hc)))
    all_goals first | (exfalso; omega) | skip
    all_goals (show fr_Call 52 _ sh0 _ _)
    rw [a]
    refine c_fallsOn hP o1 hr hn (by omega) rfl ?_
    rcases h01 with e | e
    · rw [e] at hh ⊢
      rw [show fsm M r n k + 0 = fsm M r n k by omega] at hh
      repeat' (first | (refine And.intro (by first | omega | (simp (disch := decide) only [up_n, up_s, cp_n, rw_n, rw_s, up1_, if_true, if_false, ite_true, ite_false, reduceIte, eq_self, Int.reduceEq, true_and, and_true, not_true_eq_false, not_false_eq_true]; omega)) ?_) | (refine And.intro (fun hc => ?_) (fun hc => ?_) <;> (try (simp (disch := decide) only [up_n, up_s, cp_n, rw_n, rw_s, up1_, if_true, if_false, ite_true, ite_false, reduceIte, eq_self, Int.reduceEq, true_and, and_true, not_true_eq_false, not_false_eq_true] at hc)) <;> (try (exfalso; omega))) | (refine fun (hc : ¬ _) => ?_; try (simp (disch := decide) only [up_n, up_s, cp_n, rw_n, rw_s, up1_, if_true, if_false, ite_true, ite_false, reduceIte, eq_self, Int.reduceEq, true_and, and_true, not_true_eq_false, not_false_eq_true] at hc)) | (refine fun (hc : _ = _) => ?_; try (simp (disch := decide) only [up_n, up_s, cp_n, rw_n, rw_s, up1_, if_true, if_false, ite_true, ite_false, reduceIte, eq_self, Int.reduceEq, true_and, and_true, not_true_eq_false, not_false_eq_true] at hc)))
      all_goals first | (exfalso; omega) | exact hh
    · rw [e] at hh ⊢
      repeat' (first | (refine And.intro (by first | omega | (simp (disch := decide) only [up_n, up_s, cp_n, rw_n, rw_s, up1_, if_true, if_false, ite_true, ite_false, reduceIte, eq_self, Int.reduceEq, true_and, and_true, not_true_eq_false, not_false_eq_true]; omega)) ?_) | (refine And.intro (fun hc => ?_) (fun hc => ?_) <;> (try (simp (disch := decide) only [up_n, up_s, cp_n, rw_n, rw_s, up1_, if_true, if_false, ite_true, ite_false, reduceIte, eq_self, Int.reduceEq, true_and, and_true, not_true_eq_false, not_false_eq_true] at hc)) <;> (try (exfalso; omega))) | (refine fun (hc : ¬ _) => ?_; try (simp (disch := decide) only [up_n, up_s, cp_n, rw_n, rw_s, up1_, if_true, if_false, ite_true, ite_false, reduceIte, eq_self, Int.reduceEq, true_and, and_true, not_true_eq_false, not_false_eq_true] at hc)) | (refine fun (hc : _ = _) => ?_; try (simp (disch := decide) only [up_n, up_s, cp_n, rw_n, rw_s, up1_, if_true, if_false, ite_true, ite_false, reduceIte, eq_self, Int.reduceEq, true_and, and_true, not_true_eq_false, not_false_eq_true] at hc)))
      all_goals first | (exfalso; omega) | exact hh
set_option maxHeartbeats 4000000 in
set_option maxRecDepth 100000 in
theorem c_falls {M : fr_M} {r n : Int} {Q : Option fr_V → fr_H → fr_M → Prop} (hP : PC M) (o1 : O1 M) (hr : 0 ≤ r ∧ r < 6) (hn : M 76 r = n) (h : Q (some (.inl (fsm M r n n.toNat))) sh0 M) : fr_Call 53 [.inr (.inl 13), .inl r] sh0 M Q := by
  have h2 := hP.2.1 r hr.1 hr.2
  refine fr_cgo k53 [some (.inr (.inl 13)), some (.inl r), none, none] 0 0 [4] 400 rfl rfl rfl rfl ?_
  repeat' (first | (refine And.intro (by first | omega | (simp (disch := decide) only [up_n, up_s, cp_n, rw_n, rw_s, up1_, if_true, if_false, ite_true, ite_false, reduceIte, eq_self, Int.reduceEq, true_and, and_true, not_true_eq_false, not_false_eq_true]; omega)) ?_) | (refine And.intro (fun hc => ?_) (fun hc => ?_) <;> (try (simp (disch := decide) only [up_n, up_s, cp_n, rw_n, rw_s, up1_, if_true, if_false, ite_true, ite_false, reduceIte, eq_self, Int.reduceEq, true_and, and_true, not_true_eq_false, not_false_eq_true] at hc)) <;> (try (exfalso; omega))) | (refine fun (hc : ¬ _) => ?_; try (simp (disch := decide) only [up_n, up_s, cp_n, rw_n, rw_s, up1_, if_true, if_false, ite_true, ite_false, reduceIte, eq_self, Int.reduceEq, true_and, and_true, not_true_eq_false, not_false_eq_true] at hc)) | (refine fun (hc : _ = _) => ?_; try (simp (disch := decide) only [up_n, up_s, cp_n, rw_n, rw_s, up1_, if_true, if_false, ite_true, ite_false, reduceIte, eq_self, Int.reduceEq, true_and, and_true, not_true_eq_false, not_false_eq_true] at hc)))
  exact c_fs_l hP o1 hr hn h n.toNat 0 (by omega)
set_option maxHeartbeats 4000000 in
set_option maxRecDepth 100000 in
theorem m_fl_l {M : fr_M} {r s i b : Int} {n : Int} {Q : Option fr_V → fr_H → fr_M → Prop} (hr : 0 ≤ r ∧ r < 6) (hi : 0 ≤ i ∧ i < 8) (hb : 0 ≤ b ∧ b < 40) (hn : M 83 b = n ∧ 0 ≤ n ∧ n ≤ 4) (h : fr_Run 175 none 58 [some (.inr (.inl 75)), some (.inl r), some (.inl s), some (.inl i), some (.inl b), some (.inl (flw M b (M 78 (9 * r + i + 1)) n.toNat)), some (.inl n)] [] sh0 M 0 0 Q) : ∀ (t w : Nat), (w : Int) + t = n → fr_Run 175 none 25 [some (.inr (.inl 75)), some (.inl r), some (.inl s), some (.inl i), some (.inl b), some (.inl (flw M b (M 78 (9 * r + i + 1)) w)), some (.inl (w : Int))] [] sh0 M 0 0 Q := by
  intro t
  induction t with
  | zero =>
    intro w q0
    rw [show n.toNat = w by omega, show n = (w : Int) by omega] at h
    refine fr_go k175 [25, 58] 400 rfl ?_
    repeat' (first | (refine And.intro (by first | omega | (simp (disch := decide) only [up_n, up_s, cp_n, rw_n, rw_s, up1_, if_true, if_false, ite_true, ite_false, reduceIte, eq_self, Int.reduceEq, true_and, and_true, not_true_eq_false, not_false_eq_true]; omega)) ?_) | (refine And.intro (fun hc => ?_) (fun hc => ?_) <;> (try (simp (disch := decide) only [up_n, up_s, cp_n, rw_n, rw_s, up1_, if_true, if_false, ite_true, ite_false, reduceIte, eq_self, Int.reduceEq, true_and, and_true, not_true_eq_false, not_false_eq_true] at hc)) <;> (try (exfalso; omega))) | (refine fun (hc : ¬ _) => ?_; try (simp (disch := decide) only [up_n, up_s, cp_n, rw_n, rw_s, up1_, if_true, if_false, ite_true, ite_false, reduceIte, eq_self, Int.reduceEq, true_and, and_true, not_true_eq_false, not_false_eq_true] at hc)) | (refine fun (hc : _ = _) => ?_; try (simp (disch := decide) only [up_n, up_s, cp_n, rw_n, rw_s, up1_, if_true, if_false, ite_true, ite_false, reduceIte, eq_self, Int.reduceEq, true_and, and_true, not_true_eq_false, not_false_eq_true] at hc)))
    all_goals first | (exfalso; omega) | exact h
  | succ t ih =>
    intro w q0
    have hh := ih (w + 1) (by omega)
    rw [flw, show ((w + 1 : Nat) : Int) = (w : Int) + 1 by omega] at hh
    clear ih h
    refine fr_go k175 [25, 58] 400 rfl ?_
    repeat' (first | (refine And.intro (by first | omega | (simp (disch := decide) only [up_n, up_s, cp_n, rw_n, rw_s, up1_, if_true, if_false, ite_true, ite_false, reduceIte, eq_self, Int.reduceEq, true_and, and_true, not_true_eq_false, not_false_eq_true]; omega)) ?_) | (refine And.intro (fun hc => ?_) (fun hc => ?_) <;> (try (simp (disch := decide) only [up_n, up_s, cp_n, rw_n, rw_s, up1_, if_true, if_false, ite_true, ite_false, reduceIte, eq_self, Int.reduceEq, true_and, and_true, not_true_eq_false, not_false_eq_true] at hc)) <;> (try (exfalso; omega))) | (refine fun (hc : ¬ _) => ?_; try (simp (disch := decide) only [up_n, up_s, cp_n, rw_n, rw_s, up1_, if_true, if_false, ite_true, ite_false, reduceIte, eq_self, Int.reduceEq, true_and, and_true, not_true_eq_false, not_false_eq_true] at hc)) | (refine fun (hc : _ = _) => ?_; try (simp (disch := decide) only [up_n, up_s, cp_n, rw_n, rw_s, up1_, if_true, if_false, ite_true, ite_false, reduceIte, eq_self, Int.reduceEq, true_and, and_true, not_true_eq_false, not_false_eq_true] at hc)))
    all_goals first | (exfalso; omega) | (rw [if_pos (by omega)] at hh; exact hh) | (rw [if_neg (by omega)] at hh; exact hh)
set_option maxHeartbeats 4000000 in
set_option maxRecDepth 100000 in
theorem m_fs_l {M : fr_M} {r n : Int} {Q : Option fr_V → fr_H → fr_M → Prop} (hP : PC M) (o1 : O1 M) (hr : 0 ≤ r ∧ r < 6) (hn : M 76 r = n ∧ 0 < n ∧ n ≤ 9) (h : Q (some (.inl (fsm M r n n.toNat))) sh0 M) : ∀ (t k : Nat) (x4 x5 x6 : Option fr_V), (k : Int) + t = n - 1 → fr_Run 175 none 4 [some (.inr (.inl 75)), some (.inl r), some (.inl (fsm M r n k)), some (.inl (k : Int)), x4, x5, x6] [] sh0 M 0 0 Q := by
  intro t
  induction t with
  | zero =>
    intro k x4 x5 x6 q0
    have e : fsm M r n n.toNat = fsm M r n k := by
      rw [show n.toNat = k + 1 by omega, fsm, fl, if_neg (by omega)]
      omega
    rw [e] at h
    refine fr_go k175 [4] 400 rfl ?_
    repeat' (first | (refine And.intro (by first | omega | (simp (disch := decide) only [up_n, up_s, cp_n, rw_n, rw_s, up1_, if_true, if_false, ite_true, ite_false, reduceIte, eq_self, Int.reduceEq, true_and, and_true, not_true_eq_false, not_false_eq_true]; omega)) ?_) | (refine And.intro (fun hc => ?_) (fun hc => ?_) <;> (try (simp (disch := decide) only [up_n, up_s, cp_n, rw_n, rw_s, up1_, if_true, if_false, ite_true, ite_false, reduceIte, eq_self, Int.reduceEq, true_and, and_true, not_true_eq_false, not_false_eq_true] at hc)) <;> (try (exfalso; omega))) | (refine fun (hc : ¬ _) => ?_; try (simp (disch := decide) only [up_n, up_s, cp_n, rw_n, rw_s, up1_, if_true, if_false, ite_true, ite_false, reduceIte, eq_self, Int.reduceEq, true_and, and_true, not_true_eq_false, not_false_eq_true] at hc)) | (refine fun (hc : _ = _) => ?_; try (simp (disch := decide) only [up_n, up_s, cp_n, rw_n, rw_s, up1_, if_true, if_false, ite_true, ite_false, reduceIte, eq_self, Int.reduceEq, true_and, and_true, not_true_eq_false, not_false_eq_true] at hc)))
    all_goals first | (exfalso; omega) | exact h
  | succ t ih =>
    intro k x4 x5 x6 q0
    have hh := fun x4 x5 x6 => ih (k + 1) x4 x5 x6 (by omega)
    have hb := fsm_b (M := M) (r := r) (n := n) k
    have a := o1 r (k : Int) hr.1 hr.2 (by omega) (by omega)
    have hp4 := hP.1.2.2.2.2.2
    have b5 := hP.2.2.2.2.1 (M 78 (9 * r + (k : Int))) a.2.1 a.2.2.1
    obtain ⟨c1, c2, c3, c4, c5, c6, c7, c8, -, -⟩ := b5
    have efl : fl M r n (k : Int) = flw M (M 78 (9 * r + (k : Int))) (M 78 (9 * r + (k : Int) + 1)) (M 83 (M 78 (9 * r + (k : Int)))).toNat := by rw [fl, if_pos (by omega)]
    have h01 := fl_01 (M := M) (r := r) (n := n) (k := (k : Int))
    rw [fsm, show ((k + 1 : Nat) : Int) = (k : Int) + 1 by omega] at hh
    rw [efl] at hh h01
    have h2 := m_fl_l (M := M) (Q := Q) (r := r) (s := fsm M r n k) (i := (k : Int)) (b := M 78 (9 * r + (k : Int))) (n := M 83 (M 78 (9 * r + (k : Int)))) hr (by omega) (by omega) ⟨rfl, by omega, by omega⟩ (by
      clear ih h
      rcases h01 with e | e
      · rw [e] at hh ⊢
        refine fr_go k175 [4] 400 rfl ?_
        repeat' (first | (refine And.intro (by first | omega | (simp (disch := decide) only [up_n, up_s, cp_n, rw_n, rw_s, up1_, if_true, if_false, ite_true, ite_false, reduceIte, eq_self, Int.reduceEq, true_and, and_true, not_true_eq_false, not_false_eq_true]; omega)) ?_) | (refine And.intro (fun hc => ?_) (fun hc => ?_) <;> (try (simp (disch := decide) only [up_n, up_s, cp_n, rw_n, rw_s, up1_, if_true, if_false, ite_true, ite_false, reduceIte, eq_self, Int.reduceEq, true_and, and_true, not_true_eq_false, not_false_eq_true] at hc)) <;> (try (exfalso; omega))) | (refine fun (hc : ¬ _) => ?_; try (simp (disch := decide) only [up_n, up_s, cp_n, rw_n, rw_s, up1_, if_true, if_false, ite_true, ite_false, reduceIte, eq_self, Int.reduceEq, true_and, and_true, not_true_eq_false, not_false_eq_true] at hc)) | (refine fun (hc : _ = _) => ?_; try (simp (disch := decide) only [up_n, up_s, cp_n, rw_n, rw_s, up1_, if_true, if_false, ite_true, ite_false, reduceIte, eq_self, Int.reduceEq, true_and, and_true, not_true_eq_false, not_false_eq_true] at hc)))
        all_goals first | (exfalso; omega) | exact hh _ _ _
      · rw [e] at hh ⊢
        refine fr_go k175 [4] 400 rfl ?_
        repeat' (first | (refine And.intro (by first | omega | (simp (disch := decide) only [up_n, up_s, cp_n, rw_n, rw_s, up1_, if_true, if_false, ite_true, ite_false, reduceIte, eq_self, Int.reduceEq, true_and, and_true, not_true_eq_false, not_false_eq_true]; omega)) ?_) | (refine And.intro (fun hc => ?_) (fun hc => ?_) <;> (try (simp (disch := decide) only [up_n, up_s, cp_n, rw_n, rw_s, up1_, if_true, if_false, ite_true, ite_false, reduceIte, eq_self, Int.reduceEq, true_and, and_true, not_true_eq_false, not_false_eq_true] at hc)) <;> (try (exfalso; omega))) | (refine fun (hc : ¬ _) => ?_; try (simp (disch := decide) only [up_n, up_s, cp_n, rw_n, rw_s, up1_, if_true, if_false, ite_true, ite_false, reduceIte, eq_self, Int.reduceEq, true_and, and_true, not_true_eq_false, not_false_eq_true] at hc)) | (refine fun (hc : _ = _) => ?_; try (simp (disch := decide) only [up_n, up_s, cp_n, rw_n, rw_s, up1_, if_true, if_false, ite_true, ite_false, reduceIte, eq_self, Int.reduceEq, true_and, and_true, not_true_eq_false, not_false_eq_true] at hc)))
        all_goals first | (exfalso; omega) | exact hh _ _ _) (M 83 (M 78 (9 * r + (k : Int)))).toNat 0 (by omega)
    clear ih h hh
    refine fr_go k175 [4, 25] 400 rfl ?_
    repeat' (first | (refine And.intro (by first | omega | (simp (disch := decide) only [up_n, up_s, cp_n, rw_n, rw_s, up1_, if_true, if_false, ite_true, ite_false, reduceIte, eq_self, Int.reduceEq, true_and, and_true, not_true_eq_false, not_false_eq_true]; omega)) ?_) | (refine And.intro (fun hc => ?_) (fun hc => ?_) <;> (try (simp (disch := decide) only [up_n, up_s, cp_n, rw_n, rw_s, up1_, if_true, if_false, ite_true, ite_false, reduceIte, eq_self, Int.reduceEq, true_and, and_true, not_true_eq_false, not_false_eq_true] at hc)) <;> (try (exfalso; omega))) | (refine fun (hc : ¬ _) => ?_; try (simp (disch := decide) only [up_n, up_s, cp_n, rw_n, rw_s, up1_, if_true, if_false, ite_true, ite_false, reduceIte, eq_self, Int.reduceEq, true_and, and_true, not_true_eq_false, not_false_eq_true] at hc)) | (refine fun (hc : _ = _) => ?_; try (simp (disch := decide) only [up_n, up_s, cp_n, rw_n, rw_s, up1_, if_true, if_false, ite_true, ite_false, reduceIte, eq_self, Int.reduceEq, true_and, and_true, not_true_eq_false, not_false_eq_true] at hc)))
    all_goals first | (exfalso; omega) | exact h2
set_option maxHeartbeats 4000000 in
set_option maxRecDepth 100000 in
theorem m_falls {M : fr_M} {r n : Int} {Q : Option fr_V → fr_H → fr_M → Prop} (hP : PC M) (o1 : O1 M) (hr : 0 ≤ r ∧ r < 6) (hn : M 76 r = n ∧ 0 < n ∧ n ≤ 9) (h : Q (some (.inl (fsm M r n n.toNat))) sh0 M) : fr_Call 175 [.inr (.inl 75), .inl r] sh0 M Q := by
  refine fr_cgo k175 [some (.inr (.inl 75)), some (.inl r), none, none, none, none, none] 0 0 [4] 400 rfl rfl rfl rfl ?_
  repeat' (first | (refine And.intro (by first | omega | (simp (disch := decide) only [up_n, up_s, cp_n, rw_n, rw_s, up1_, if_true, if_false, ite_true, ite_false, reduceIte, eq_self, Int.reduceEq, true_and, and_true, not_true_eq_false, not_false_eq_true]; omega)) ?_) | (refine And.intro (fun hc => ?_) (fun hc => ?_) <;> (try (simp (disch := decide) only [up_n, up_s, cp_n, rw_n, rw_s, up1_, if_true, if_false, ite_true, ite_false, reduceIte, eq_self, Int.reduceEq, true_and, and_true, not_true_eq_false, not_false_eq_true] at hc)) <;> (try (exfalso; omega))) | (refine fun (hc : ¬ _) => ?_; try (simp (disch := decide) only [up_n, up_s, cp_n, rw_n, rw_s, up1_, if_true, if_false, ite_true, ite_false, reduceIte, eq_self, Int.reduceEq, true_and, and_true, not_true_eq_false, not_false_eq_true] at hc)) | (refine fun (hc : _ = _) => ?_; try (simp (disch := decide) only [up_n, up_s, cp_n, rw_n, rw_s, up1_, if_true, if_false, ite_true, ite_false, reduceIte, eq_self, Int.reduceEq, true_and, and_true, not_true_eq_false, not_false_eq_true] at hc)))
  exact m_fs_l hP o1 hr hn h (n - 1).toNat 0 none none none (by omega)
