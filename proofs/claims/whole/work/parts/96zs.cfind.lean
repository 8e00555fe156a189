theorem ld_cg {p q : fr_M} {r y x : Int} {fi : Int → Int} (h : ∀ k i, k = 5 ∨ k = 77 ∨ k = 83 ∨ k = 84 ∨ k = 85 → q k i = p k i) : ld q r fi y x = ld p r fi y x := by
  unfold ld
  rw [h 77 _ (by omega), h 83 _ (by omega)]
  exact ldw_cg (fun k i hk => h k i (by omega)) _ (fun v hv => rfl)
def PRel (n : Int) (X : fr_M) (rk : Int → Int) (pd : Nat) (pl : Int → Int) : Prop := X 24 7 = (pd : Int) ∧ (∀ i, 0 ≤ i → i < (pd : Int) → X 74 i = rk i) ∧ (∀ y, 0 ≤ y → y < n → X 28 y = pl y)
set_option maxHeartbeats 4000000 in
set_option maxRecDepth 100000 in
theorem c_pl_l {N : fr_M} {n : Int} {fi fo pr : Int → Int} {L : Int → Int → Int} {y : Int} {Q : Option fr_V → fr_H → fr_M → Prop} (hn : N 24 6 = n ∧ 0 < n ∧ n ≤ 9) (hJ : JI n fi fo pr) (h26 : ∀ i, 0 ≤ i → i < n → N 26 i = fo i) : ∀ (t : Nat) (X : fr_M) (rk : Int → Int) (pd : Nat) (pl : Int → Int) (x i : Int), (pd : Int) + t = n → PI n fi fo pr rk pd pl x → PRel n X rk pd pl → (∀ k i, ¬ (k = 74 ∨ k = 28 ∨ (k = 24 ∧ i = 7)) → X k i = N k i) → (0 ≤ i ∧ i ≤ (pd : Int)) → (∀ X' rk' (pd' : Nat) pl' (j : Nat), (∀ k i, ¬ (k = 74 ∨ k = 28 ∨ (k = 24 ∧ i = 7)) → X' k i = N k i) → PRel n X' rk' pd' pl' → PI n fi fo pr rk' pd' pl' (-1) → (pd ≤ pd' ∧ (x ≠ -1 → pd < pd')) → (∀ k rkF, PRn n fi fo L k rk' pd' pl' (-1) rkF → PRn n fi fo L (k + j) rk pd pl x rkF) → Q none sh0 X') → fr_Run 16 none 4 [some (.inr (.inl 24)), some (.inl y), some (.inr (.inl 74)), some (.inl x), some (.inl i)] [] sh0 X 0 0 Q := by
  intro t
  induction t with
  | zero =>
    intro X rk pd pl x i q0 q1 q2 q3 q4 h
    have hlt := q1.lt (by omega)
    have hx : x = -1 := Classical.byContradiction (fun q => by
      have := hlt.2 q
      omega)
    subst hx
    have hh := h X rk pd pl 0 q3 q2 q1 ⟨Nat.le_refl _, fun q => absurd rfl q⟩ (fun k rkF q => q)
    have e6 : X 24 6 = n := by rw [q3 24 6 (by omega)]; exact hn.1
    clear h q2
    refine fr_go k16 [4] 400 rfl ?_
    repeat' (first | (refine And.intro (by first | omega | (simp (disch := decide) only [up_n, up_s, cp_n, rw_n, rw_s, up1_, if_true, if_false, ite_true, ite_false, reduceIte, eq_self, Int.reduceEq, true_and, and_true, not_true_eq_false, not_false_eq_true]; omega)) ?_) | (refine And.intro (fun hc => ?_) (fun hc => ?_) <;> (try (simp (disch := decide) only [up_n, up_s, cp_n, rw_n, rw_s, up1_, if_true, if_false, ite_true, ite_false, reduceIte, eq_self, Int.reduceEq, true_and, and_true, not_true_eq_false, not_false_eq_true] at hc)) <;> (try (exfalso; omega))) | (refine fun (hc : ¬ _) => ?_; try (simp (disch := decide) only [up_n, up_s, cp_n, rw_n, rw_s, up1_, if_true, if_false, ite_true, ite_false, reduceIte, eq_self, Int.reduceEq, true_and, and_true, not_true_eq_false, not_false_eq_true] at hc)) | (refine fun (hc : _ = _) => ?_; try (simp (disch := decide) only [up_n, up_s, cp_n, rw_n, rw_s, up1_, if_true, if_false, ite_true, ite_false, reduceIte, eq_self, Int.reduceEq, true_and, and_true, not_true_eq_false, not_false_eq_true] at hc)))
    all_goals first | (exfalso; omega) | exact hh
  | succ t ih =>
    intro X rk pd pl x i q0 q1 q2 q3 q4 h
    have e6 : X 24 6 = n := by rw [q3 24 6 (by omega)]; exact hn.1
    by_cases hx : x = -1
    · subst hx
      have hh := h X rk pd pl 0 q3 q2 q1 ⟨Nat.le_refl _, fun q => absurd rfl q⟩ (fun k rkF q => q)
      clear h q2 ih
      refine fr_go k16 [4] 400 rfl ?_
      repeat' (first | (refine And.intro (by first | omega | (simp (disch := decide) only [up_n, up_s, cp_n, rw_n, rw_s, up1_, if_true, if_false, ite_true, ite_false, reduceIte, eq_self, Int.reduceEq, true_and, and_true, not_true_eq_false, not_false_eq_true]; omega)) ?_) | (refine And.intro (fun hc => ?_) (fun hc => ?_) <;> (try (simp (disch := decide) only [up_n, up_s, cp_n, rw_n, rw_s, up1_, if_true, if_false, ite_true, ite_false, reduceIte, eq_self, Int.reduceEq, true_and, and_true, not_true_eq_false, not_false_eq_true] at hc)) <;> (try (exfalso; omega))) | (refine fun (hc : ¬ _) => ?_; try (simp (disch := decide) only [up_n, up_s, cp_n, rw_n, rw_s, up1_, if_true, if_false, ite_true, ite_false, reduceIte, eq_self, Int.reduceEq, true_and, and_true, not_true_eq_false, not_false_eq_true] at hc)) | (refine fun (hc : _ = _) => ?_; try (simp (disch := decide) only [up_n, up_s, cp_n, rw_n, rw_s, up1_, if_true, if_false, ite_true, ite_false, reduceIte, eq_self, Int.reduceEq, true_and, and_true, not_true_eq_false, not_false_eq_true] at hc)))
      all_goals first | (exfalso; omega) | exact hh
    · have hxr : 0 ≤ x ∧ x < n := by
        rcases q1.2.2.2.2.2.2.1 with c | c
        · exact absurd c hx
        · exact c.1
      have hfo : X 26 x = fo x := by rw [q3 26 x (by omega)]; exact h26 x hxr.1 hxr.2
      have e7 := q2.1
      have hh := ih (fr_up (fr_up (fr_up X 74 (pd : Int) x) 28 x 1) 24 7 ((pd : Int) + 1)) (up1 rk (pd : Int) x) (pd + 1) (up1 pl x 1) (fo x) (i + 1) (by omega) (q1.place hJ hx) ⟨by show (pd : Int) + 1 = _; omega, fun j j0 j1 => by
        show up1 (X 74) (pd : Int) x j = up1 rk (pd : Int) x j
        rw [up1_, up1_]
        by_cases e : j = (pd : Int)
        · rw [if_pos e, if_pos e]
        · rw [if_neg e, if_neg e]
          exact q2.2.1 j j0 (by omega), fun y y0 y1 => by
        show up1 (X 28) x 1 y = up1 pl x 1 y
        rw [up1_, up1_, q2.2.2 y y0 y1]⟩ (fun k i hk => by rw [up_x (by omega), up_x (by omega), up_x (by omega)]; exact q3 k i hk) (by omega) (fun X' rk' pd' pl' j a1 a2 a3 a4 a5 => h X' rk' pd' pl' (j + 1) a1 a2 a3 ⟨by omega, fun _ => by omega⟩ (fun k rkF q => Or.inl ⟨hx, a5 k rkF q⟩))
      clear ih h q1 q2 h26
      refine fr_go k16 [4] 400 rfl ?_
      repeat' (first | (refine And.intro (by first | omega | (simp (disch := decide) only [up_n, up_s, cp_n, rw_n, rw_s, up1_, if_true, if_false, ite_true, ite_false, reduceIte, eq_self, Int.reduceEq, true_and, and_true, not_true_eq_false, not_false_eq_true]; omega)) ?_) | (refine And.intro (fun hc => ?_) (fun hc => ?_) <;> (try (simp (disch := decide) only [up_n, up_s, cp_n, rw_n, rw_s, up1_, if_true, if_false, ite_true, ite_false, reduceIte, eq_self, Int.reduceEq, true_and, and_true, not_true_eq_false, not_false_eq_true] at hc)) <;> (try (exfalso; omega))) | (refine fun (hc : ¬ _) => ?_; try (simp (disch := decide) only [up_n, up_s, cp_n, rw_n, rw_s, up1_, if_true, if_false, ite_true, ite_false, reduceIte, eq_self, Int.reduceEq, true_and, and_true, not_true_eq_false, not_false_eq_true] at hc)) | (refine fun (hc : _ = _) => ?_; try (simp (disch := decide) only [up_n, up_s, cp_n, rw_n, rw_s, up1_, if_true, if_false, ite_true, ite_false, reduceIte, eq_self, Int.reduceEq, true_and, and_true, not_true_eq_false, not_false_eq_true] at hc)))
      all_goals first | (exfalso; omega) | (exfalso; simp (disch := decide) only [up_n, up_s, cp_n, rw_n, rw_s, up1_, if_true, if_false, ite_true, ite_false, reduceIte, eq_self, Int.reduceEq, true_and, and_true, not_true_eq_false, not_false_eq_true] at *; omega) | skip
      all_goals (show fr_Run 16 none 4 _ _ _ _ 0 0 Q)
      simp (disch := decide) only [up_n, up_s, cp_n, rw_n, rw_s, up1_, if_true, if_false, ite_true, ite_false, reduceIte, eq_self, Int.reduceEq, true_and, and_true, not_true_eq_false, not_false_eq_true]
      rw [e7, hfo]
      exact hh
set_option maxHeartbeats 4000000 in
set_option maxRecDepth 100000 in
theorem c_place {N : fr_M} {n x : Int} {fi fo pr rk : Int → Int} {pd : Nat} {pl : Int → Int} {L : Int → Int → Int} {Q : Option fr_V → fr_H → fr_M → Prop} (hn : N 24 6 = n ∧ 0 < n ∧ n ≤ 9) (hJ : JI n fi fo pr) (h26 : ∀ i, 0 ≤ i → i < n → N 26 i = fo i) (hI : PI n fi fo pr rk pd pl x) (hr : PRel n N rk pd pl) (h : ∀ X' rk' (pd' : Nat) pl' (j : Nat), (∀ k i, ¬ (k = 74 ∨ k = 28 ∨ (k = 24 ∧ i = 7)) → X' k i = N k i) → PRel n X' rk' pd' pl' → PI n fi fo pr rk' pd' pl' (-1) → (pd ≤ pd' ∧ (x ≠ -1 → pd < pd')) → (∀ k rkF, PRn n fi fo L k rk' pd' pl' (-1) rkF → PRn n fi fo L (k + j) rk pd pl x rkF) → Q none sh0 X') : fr_Call 16 [.inr (.inl 24), .inl x, .inr (.inl 74)] sh0 N Q := by
  have hlt := hI.lt (by omega)
  refine fr_cgo k16 [some (.inr (.inl 24)), some (.inl x), some (.inr (.inl 74)), none, none] 0 0 [4] 400 rfl rfl rfl rfl ?_
  repeat' (first | (refine And.intro (by first | omega | (simp (disch := decide) only [up_n, up_s, cp_n, rw_n, rw_s, up1_, if_true, if_false, ite_true, ite_false, reduceIte, eq_self, Int.reduceEq, true_and, and_true, not_true_eq_false, not_false_eq_true]; omega)) ?_) | (refine And.intro (fun hc => ?_) (fun hc => ?_) <;> (try (simp (disch := decide) only [up_n, up_s, cp_n, rw_n, rw_s, up1_, if_true, if_false, ite_true, ite_false, reduceIte, eq_self, Int.reduceEq, true_and, and_true, not_true_eq_false, not_false_eq_true] at hc)) <;> (try (exfalso; omega))) | (refine fun (hc : ¬ _) => ?_; try (simp (disch := decide) only [up_n, up_s, cp_n, rw_n, rw_s, up1_, if_true, if_false, ite_true, ite_false, reduceIte, eq_self, Int.reduceEq, true_and, and_true, not_true_eq_false, not_false_eq_true] at hc)) | (refine fun (hc : _ = _) => ?_; try (simp (disch := decide) only [up_n, up_s, cp_n, rw_n, rw_s, up1_, if_true, if_false, ite_true, ite_false, reduceIte, eq_self, Int.reduceEq, true_and, and_true, not_true_eq_false, not_false_eq_true] at hc)))
  exact c_pl_l hn hJ h26 (n - (pd : Int)).toNat N rk pd pl x 0 (by omega) hI hr (fun k i _ => rfl) (by omega) h
theorem PI.nn {n r : Int} {N : fr_M} {fi fo pr rk : Int → Int} {pd : Nat} {pl : Int → Int} {x : Int} (hR : RC N r n) (hI : PI n fi fo pr rk pd pl x) : ∀ e, 0 ≤ e → e < n → 0 ≤ sm (fun i => ld N r fi (rk i) e) pd := fun e e0 e1 => (sm_b (u := fun i => ld N r fi (rk i) e) (B := 4000000) pd (fun i i0 i1 => ld_b hR (hI.1 i i0 i1).1)).1
set_option maxHeartbeats 4000000 in
set_option maxRecDepth 100000 in
theorem c_fn_l {N : fr_M} {r n : Int} {fi fo pr : Int → Int} {Q : Option fr_V → fr_H → fr_M → Prop} (hP : PC N) (hR : RC N r n) (hn : N 24 5 = r ∧ N 24 6 = n) (hJ : JI n fi fo pr) (h25 : ∀ i, 0 ≤ i → i < n → N 25 i = fi i ∧ N 26 i = fo i) : ∀ (t : Nat) (i : Int) (X : fr_M) (rk : Int → Int) (pd : Nat) (pl : Int → Int), i + t = n → (1 ≤ i ∧ i ≤ (pd : Int)) → PI n fi fo pr rk pd pl (-1) → PRel n X rk pd pl → (∀ k i, ¬ (k = 74 ∨ k = 28 ∨ (k = 24 ∧ i = 7)) → X k i = N k i) → (∀ X' k, (∀ k i, ¬ (k = 74 ∨ k = 28 ∨ (k = 24 ∧ i = 7)) → X' k i = N k i) → PRn n fi fo (ld N r fi) k rk pd pl (-1) (X' 74) → Q none sh0 X') → fr_Run 19 none 60 [some (.inr (.inl 24)), some (.inl r), some (.inr (.inl 74)), some (.inl i)] [] sh0 X 0 0 Q := by
  have hn9 := hR.2.2.1
  have fin : ∀ (X : fr_M) (rk : Int → Int) (pd : Nat) (pl : Int → Int), (pd : Int) = n → PI n fi fo pr rk pd pl (-1) → PRel n X rk pd pl → PRn n fi fo (ld N r fi) 0 rk pd pl (-1) (X 74) := by
    intro X rk pd pl e hI hr
    refine ⟨rfl, ?_, fun a a0 a1 => hr.2.1 a a0 (by omega)⟩
    have c := hI.cnt
    have f := (sm_full hI.2.2.1 n.toNat).2 (by omega)
    rcases stg_b (fi := fi) (pl := pl) (S := fun z => sm (fun i => ld N r fi (rk i) z) pd) n.toNat (fun e e0 e1 => PI.nn hR hI e e0 (by omega)) with d | d
    · exact d.1
    · have := f _ d.1.1 (by omega)
      omega
  intro t
  induction t with
  | zero =>
    intro i X rk pd pl q0 q1 q2 q3 q4 h
    have hlt := q2.lt (by omega)
    have hh := h X 0 q4 (fin X rk pd pl (by omega) q2 q3)
    have e6 : X 24 6 = n := by rw [q4 24 6 (by omega)]; exact hn.2
    clear h fin
    refine fr_go k19 [60] 400 rfl ?_
    repeat' (first | (refine And.intro (by first | omega | (simp (disch := decide) only [up_n, up_s, cp_n, rw_n, rw_s, up1_, if_true, if_false, ite_true, ite_false, reduceIte, eq_self, Int.reduceEq, true_and, and_true, not_true_eq_false, not_false_eq_true]; omega)) ?_) | (refine And.intro (fun hc => ?_) (fun hc => ?_) <;> (try (simp (disch := decide) only [up_n, up_s, cp_n, rw_n, rw_s, up1_, if_true, if_false, ite_true, ite_false, reduceIte, eq_self, Int.reduceEq, true_and, and_true, not_true_eq_false, not_false_eq_true] at hc)) <;> (try (exfalso; omega))) | (refine fun (hc : ¬ _) => ?_; try (simp (disch := decide) only [up_n, up_s, cp_n, rw_n, rw_s, up1_, if_true, if_false, ite_true, ite_false, reduceIte, eq_self, Int.reduceEq, true_and, and_true, not_true_eq_false, not_false_eq_true] at hc)) | (refine fun (hc : _ = _) => ?_; try (simp (disch := decide) only [up_n, up_s, cp_n, rw_n, rw_s, up1_, if_true, if_false, ite_true, ite_false, reduceIte, eq_self, Int.reduceEq, true_and, and_true, not_true_eq_false, not_false_eq_true] at hc)))
    all_goals first | (exfalso; omega) | exact hh
  | succ t ih =>
    intro i X rk pd pl q0 q1 q2 q3 q4 h
    have hlt := q2.lt (by omega)
    have e6 : X 24 6 = n := by rw [q4 24 6 (by omega)]; exact hn.2
    have e5 : X 24 5 = r := by rw [q4 24 5 (by omega)]; exact hn.1
    have e7 := q3.1
    by_cases c : (pd : Int) = n
    · have hh := h X 0 q4 (fin X rk pd pl c q2 q3)
      clear h fin ih q2 q3
      refine fr_go k19 [60] 400 rfl ?_
      repeat' (first | (refine And.intro (by first | omega | (simp (disch := decide) only [up_n, up_s, cp_n, rw_n, rw_s, up1_, if_true, if_false, ite_true, ite_false, reduceIte, eq_self, Int.reduceEq, true_and, and_true, not_true_eq_false, not_false_eq_true]; omega)) ?_) | (refine And.intro (fun hc => ?_) (fun hc => ?_) <;> (try (simp (disch := decide) only [up_n, up_s, cp_n, rw_n, rw_s, up1_, if_true, if_false, ite_true, ite_false, reduceIte, eq_self, Int.reduceEq, true_and, and_true, not_true_eq_false, not_false_eq_true] at hc)) <;> (try (exfalso; omega))) | (refine fun (hc : ¬ _) => ?_; try (simp (disch := decide) only [up_n, up_s, cp_n, rw_n, rw_s, up1_, if_true, if_false, ite_true, ite_false, reduceIte, eq_self, Int.reduceEq, true_and, and_true, not_true_eq_false, not_false_eq_true] at hc)) | (refine fun (hc : _ = _) => ?_; try (simp (disch := decide) only [up_n, up_s, cp_n, rw_n, rw_s, up1_, if_true, if_false, ite_true, ite_false, reduceIte, eq_self, Int.reduceEq, true_and, and_true, not_true_eq_false, not_false_eq_true] at hc)))
      all_goals first | (exfalso; omega) | exact hh
    · have eld : ld X r fi = ld N r fi := by
        funext y x
        exact ld_cg (fun k i hk => q4 k i (by omega))
      have hs : (stg fi pl (fun z => sm (fun i => ld N r fi (rk i) z) pd) n.toNat).1 ≠ -1 := fun q => c (PI.all (S := fun z => sm (fun i => ld N r fi (rk i) z) pd) hn9.1 hJ q2 (PI.nn hR q2) q).1
      have hI := PI.pick (S := fun z => sm (fun i => ld N r fi (rk i) z) pd) hn9.1 hJ q2 (PI.nn hR q2) hs
      have hst := fun Q' hq => c_strongest (X := X) (r := r) (n := n) (pd := pd) (fi := fi) (pl := pl) (rk := rk) (Q := Q') (hP.cg (fun k i hk => q4 k i (by omega))) (hR.cg (fun k i hk => q4 k i (by omega))) ⟨e5, e6, e7⟩ hlt.1 (fun j j0 j1 => ⟨by rw [q4 25 j (by omega)]; exact (h25 j j0 j1).1, q3.2.2 j j0 j1⟩) (fun i i0 i1 => ⟨q3.2.1 i i0 i1, (q2.1 i i0 i1).1⟩) hq
      rw [eld] at hst
      have h26 : ∀ i, 0 ≤ i → i < n → X 26 i = fo i := fun i i0 i1 => by
        rw [q4 26 i (by omega)]
        exact (h25 i i0 i1).2
      refine fr_go k19 [60] 400 rfl ?_
      repeat' (first | (refine And.intro (by first | omega | (simp (disch := decide) only [up_n, up_s, cp_n, rw_n, rw_s, up1_, if_true, if_false, ite_true, ite_false, reduceIte, eq_self, Int.reduceEq, true_and, and_true, not_true_eq_false, not_false_eq_true]; omega)) ?_) | (refine And.intro (fun hc => ?_) (fun hc => ?_) <;> (try (simp (disch := decide) only [up_n, up_s, cp_n, rw_n, rw_s, up1_, if_true, if_false, ite_true, ite_false, reduceIte, eq_self, Int.reduceEq, true_and, and_true, not_true_eq_false, not_false_eq_true] at hc)) <;> (try (exfalso; omega))) | (refine fun (hc : ¬ _) => ?_; try (simp (disch := decide) only [up_n, up_s, cp_n, rw_n, rw_s, up1_, if_true, if_false, ite_true, ite_false, reduceIte, eq_self, Int.reduceEq, true_and, and_true, not_true_eq_false, not_false_eq_true] at hc)) | (refine fun (hc : _ = _) => ?_; try (simp (disch := decide) only [up_n, up_s, cp_n, rw_n, rw_s, up1_, if_true, if_false, ite_true, ite_false, reduceIte, eq_self, Int.reduceEq, true_and, and_true, not_true_eq_false, not_false_eq_true] at hc)))
      all_goals first | (exfalso; omega) | skip
      refine hst _ ?_
      repeat' (first | (refine And.intro (by first | omega | (simp (disch := decide) only [up_n, up_s, cp_n, rw_n, rw_s, up1_, if_true, if_false, ite_true, ite_false, reduceIte, eq_self, Int.reduceEq, true_and, and_true, not_true_eq_false, not_false_eq_true]; omega)) ?_) | (refine And.intro (fun hc => ?_) (fun hc => ?_) <;> (try (simp (disch := decide) only [up_n, up_s, cp_n, rw_n, rw_s, up1_, if_true, if_false, ite_true, ite_false, reduceIte, eq_self, Int.reduceEq, true_and, and_true, not_true_eq_false, not_false_eq_true] at hc)) <;> (try (exfalso; omega))) | (refine fun (hc : ¬ _) => ?_; try (simp (disch := decide) only [up_n, up_s, cp_n, rw_n, rw_s, up1_, if_true, if_false, ite_true, ite_false, reduceIte, eq_self, Int.reduceEq, true_and, and_true, not_true_eq_false, not_false_eq_true] at hc)) | (refine fun (hc : _ = _) => ?_; try (simp (disch := decide) only [up_n, up_s, cp_n, rw_n, rw_s, up1_, if_true, if_false, ite_true, ite_false, reduceIte, eq_self, Int.reduceEq, true_and, and_true, not_true_eq_false, not_false_eq_true] at hc)))
      refine c_place (L := ld N r fi) ⟨e6, hn9⟩ hJ h26 hI q3 (fun X' rk' pd' pl' j a1 a2 a3 a4 a5 => ?_)
      have hh := ih (i + 1) X' rk' pd' pl' (by omega) ⟨by omega, by have := a4.2 hs; omega⟩ a3 a2 (fun k i hk => by rw [a1 k i hk, q4 k i hk]) (fun X'' k b1 b2 => h X'' (k + j + 1) b1 (Or.inr ⟨rfl, hs, a5 k _ b2⟩))
      clear ih h fin q2 q3 a2 a3 a5 hst hI
      repeat' (first | (refine And.intro (by first | omega | (simp (disch := decide) only [up_n, up_s, cp_n, rw_n, rw_s, up1_, if_true, if_false, ite_true, ite_false, reduceIte, eq_self, Int.reduceEq, true_and, and_true, not_true_eq_false, not_false_eq_true]; omega)) ?_) | (refine And.intro (fun hc => ?_) (fun hc => ?_) <;> (try (simp (disch := decide) only [up_n, up_s, cp_n, rw_n, rw_s, up1_, if_true, if_false, ite_true, ite_false, reduceIte, eq_self, Int.reduceEq, true_and, and_true, not_true_eq_false, not_false_eq_true] at hc)) <;> (try (exfalso; omega))) | (refine fun (hc : ¬ _) => ?_; try (simp (disch := decide) only [up_n, up_s, cp_n, rw_n, rw_s, up1_, if_true, if_false, ite_true, ite_false, reduceIte, eq_self, Int.reduceEq, true_and, and_true, not_true_eq_false, not_false_eq_true] at hc)) | (refine fun (hc : _ = _) => ?_; try (simp (disch := decide) only [up_n, up_s, cp_n, rw_n, rw_s, up1_, if_true, if_false, ite_true, ite_false, reduceIte, eq_self, Int.reduceEq, true_and, and_true, not_true_eq_false, not_false_eq_true] at hc)))
      exact hh
set_option maxHeartbeats 4000000 in
set_option maxRecDepth 100000 in
theorem c_in_l {N : fr_M} {r n : Int} {Q : Option fr_V → fr_H → fr_M → Prop} (hn : N 24 6 = n ∧ 0 < n ∧ n ≤ 9) (h : ∀ X x3, (∀ k i, ¬ (25 ≤ k ∧ k ≤ 28) → X k i = N k i) → (∀ j, 0 ≤ j → j < n → X 25 j = j ∧ X 26 j = -1 ∧ X 28 j = 0 ∧ X 27 (2 * j) = 0 ∧ X 27 (2 * j + 1) = 0) → fr_Run 19 none 52 [some (.inr (.inl 24)), some (.inl r), some (.inr (.inl 74)), x3] [] sh0 X 0 0 Q) : ∀ (t : Nat) (i : Int) (X : fr_M), 0 ≤ i → i + t = n → (∀ k i, ¬ (25 ≤ k ∧ k ≤ 28) → X k i = N k i) → (∀ j, 0 ≤ j → j < i → X 25 j = j ∧ X 26 j = -1 ∧ X 28 j = 0 ∧ X 27 (2 * j) = 0 ∧ X 27 (2 * j + 1) = 0) → fr_Run 19 none 15 [some (.inr (.inl 24)), some (.inl r), some (.inr (.inl 74)), some (.inl i)] [] sh0 X 0 0 Q := by
  intro t
  induction t with
  | zero =>
    intro i X q0 q1 q2 q3
    have e : i = n := by omega
    have hh := h X (some (.inl i)) q2 (by rw [← e]; exact q3)
    have e6 : X 24 6 = n := by rw [q2 24 6 (by omega)]; exact hn.1
    clear h q3
    refine fr_go k19 [15, 52] 400 rfl ?_
    repeat' (first | (refine And.intro (by first | omega | (simp (disch := decide) only [up_n, up_s, cp_n, rw_n, rw_s, up1_, if_true, if_false, ite_true, ite_false, reduceIte, eq_self, Int.reduceEq, true_and, and_true, not_true_eq_false, not_false_eq_true]; omega)) ?_) | (refine And.intro (fun hc => ?_) (fun hc => ?_) <;> (try (simp (disch := decide) only [up_n, up_s, cp_n, rw_n, rw_s, up1_, if_true, if_false, ite_true, ite_false, reduceIte, eq_self, Int.reduceEq, true_and, and_true, not_true_eq_false, not_false_eq_true] at hc)) <;> (try (exfalso; omega))) | (refine fun (hc : ¬ _) => ?_; try (simp (disch := decide) only [up_n, up_s, cp_n, rw_n, rw_s, up1_, if_true, if_false, ite_true, ite_false, reduceIte, eq_self, Int.reduceEq, true_and, and_true, not_true_eq_false, not_false_eq_true] at hc)) | (refine fun (hc : _ = _) => ?_; try (simp (disch := decide) only [up_n, up_s, cp_n, rw_n, rw_s, up1_, if_true, if_false, ite_true, ite_false, reduceIte, eq_self, Int.reduceEq, true_and, and_true, not_true_eq_false, not_false_eq_true] at hc)))
    all_goals first | (exfalso; omega) | exact hh
  | succ t ih =>
    intro i X q0 q1 q2 q3
    have e6 : X 24 6 = n := by rw [q2 24 6 (by omega)]; exact hn.1
    have hh := ih (i + 1) (fr_up (fr_up (fr_up (fr_up (fr_up X 25 i i) 26 i (-1)) 28 i 0) 27 (2 * i) 0) 27 (2 * i + 1) 0) (by omega) (by omega) (fun k i hk => by rw [up_x (by omega), up_x (by omega), up_x (by omega), up_x (by omega), up_x (by omega)]; exact q2 k i hk) (fun j j0 j1 => by
      show up1 (X 25) i i j = j ∧ up1 (X 26) i (-1) j = -1 ∧ up1 (X 28) i 0 j = 0 ∧ up1 (up1 (X 27) (2 * i) 0) (2 * i + 1) 0 (2 * j) = 0 ∧ up1 (up1 (X 27) (2 * i) 0) (2 * i + 1) 0 (2 * j + 1) = 0
      rw [up1_, up1_, up1_, up1_, up1_, up1_, up1_]
      by_cases e : j = i
      · rw [e, if_pos rfl, if_pos rfl, if_pos rfl, if_neg (by omega), if_pos rfl, if_pos rfl]
        exact ⟨rfl, rfl, rfl, rfl, rfl⟩
      · rw [if_neg e, if_neg e, if_neg e, if_neg (by omega), if_neg (by omega), if_neg (by omega), if_neg (by omega)]
        exact q3 j j0 (by omega))
    clear ih h q3
    refine fr_go k19 [15, 52] 400 rfl ?_
    repeat' (first | (refine And.intro (by first | omega | (simp (disch := decide) only [up_n, up_s, cp_n, rw_n, rw_s, up1_, if_true, if_false, ite_true, ite_false, reduceIte, eq_self, Int.reduceEq, true_and, and_true, not_true_eq_false, not_false_eq_true]; omega)) ?_) | (refine And.intro (fun hc => ?_) (fun hc => ?_) <;> (try (simp (disch := decide) only [up_n, up_s, cp_n, rw_n, rw_s, up1_, if_true, if_false, ite_true, ite_false, reduceIte, eq_self, Int.reduceEq, true_and, and_true, not_true_eq_false, not_false_eq_true] at hc)) <;> (try (exfalso; omega))) | (refine fun (hc : ¬ _) => ?_; try (simp (disch := decide) only [up_n, up_s, cp_n, rw_n, rw_s, up1_, if_true, if_false, ite_true, ite_false, reduceIte, eq_self, Int.reduceEq, true_and, and_true, not_true_eq_false, not_false_eq_true] at hc)) | (refine fun (hc : _ = _) => ?_; try (simp (disch := decide) only [up_n, up_s, cp_n, rw_n, rw_s, up1_, if_true, if_false, ite_true, ite_false, reduceIte, eq_self, Int.reduceEq, true_and, and_true, not_true_eq_false, not_false_eq_true] at hc)))
    all_goals first | (exfalso; omega) | (exfalso; simp (disch := decide) only [up_n, up_s, cp_n, rw_n, rw_s, up1_, if_true, if_false, ite_true, ite_false, reduceIte, eq_self, Int.reduceEq, true_and, and_true, not_true_eq_false, not_false_eq_true] at *; omega) | skip
    all_goals (show fr_Run 19 none 15 _ _ _ _ 0 0 Q)
    exact hh
set_option maxHeartbeats 4000000 in
set_option maxRecDepth 100000 in
theorem c_chains {M : fr_M} {r n : Int} {Q : Option fr_V → fr_H → fr_M → Prop} (hP : PC M) (hR : RC M r n) (h : ∀ X' k, (∀ k i, ¬ ((24 ≤ k ∧ k ≤ 28) ∨ k = 74) → X' k i = M k i) → PRn n (jrun (pul M r) (tgt M r) (2 * n).toNat (2 * n).toNat).1 (jrun (pul M r) (tgt M r) (2 * n).toNat (2 * n).toNat).2.1 (ld M r (jrun (pul M r) (tgt M r) (2 * n).toNat (2 * n).toNat).1) k (M 74) 0 (fun _ => 0) 0 (X' 74) → Q none sh0 X') : fr_Call 19 [.inr (.inl 24), .inl r, .inr (.inl 74)] sh0 M Q := by
  have hr := hR.1
  have hm := hR.2.1
  have hn9 := hR.2.2.1
  have h2 := (hP.2.1 r hr.1 hr.2).1
  have ht : ∀ e, 0 ≤ e → e < (((2 * n).toNat : Nat) : Int) → 0 < pul M r e → 0 ≤ tgt M r e ∧ tgt M r e < n := fun e e0 e1 hp => by
    have w := pul_w hR (e := e) (by omega) hp
    exact (hP.way hR (k := e / 2) (w := e % 2) (by omega) (by omega)).1
  have hJ := jrun_ji (n := n) (m := (2 * n).toNat) (pu := pul M r) (tg := tgt M r) (by omega) ht (2 * n).toNat
  have key := c_in_l (N := fr_up (fr_up (fr_up M 24 5 r) 24 6 n) 24 7 0) (r := r) (n := n) (Q := Q) ⟨rfl, hn9⟩ (fun X x3 a1 a2 => ?_) n.toNat 0 (fr_up (fr_up (fr_up M 24 5 r) 24 6 n) 24 7 0) (by omega) (by omega) (fun k i _ => rfl) (fun j j0 j1 => by omega)
  · clear h
    refine fr_cgo k19 [some (.inr (.inl 24)), some (.inl r), some (.inr (.inl 74)), none] 0 0 [15] 400 rfl rfl rfl rfl ?_
    repeat' (first | (refine And.intro (by first | omega | (simp (disch := decide) only [up_n, up_s, cp_n, rw_n, rw_s, up1_, if_true, if_false, ite_true, ite_false, reduceIte, eq_self, Int.reduceEq, true_and, and_true, not_true_eq_false, not_false_eq_true]; omega)) ?_) | (refine And.intro (fun hc => ?_) (fun hc => ?_) <;> (try (simp (disch := decide) only [up_n, up_s, cp_n, rw_n, rw_s, up1_, if_true, if_false, ite_true, ite_false, reduceIte, eq_self, Int.reduceEq, true_and, and_true, not_true_eq_false, not_false_eq_true] at hc)) <;> (try (exfalso; omega))) | (refine fun (hc : ¬ _) => ?_; try (simp (disch := decide) only [up_n, up_s, cp_n, rw_n, rw_s, up1_, if_true, if_false, ite_true, ite_false, reduceIte, eq_self, Int.reduceEq, true_and, and_true, not_true_eq_false, not_false_eq_true] at hc)) | (refine fun (hc : _ = _) => ?_; try (simp (disch := decide) only [up_n, up_s, cp_n, rw_n, rw_s, up1_, if_true, if_false, ite_true, ite_false, reduceIte, eq_self, Int.reduceEq, true_and, and_true, not_true_eq_false, not_false_eq_true] at hc)))
    all_goals first | (exfalso; omega) | skip
    all_goals (show fr_Run 19 none 15 _ _ _ _ 0 0 Q)
    simp (disch := decide) only [up_n, up_s, cp_n, rw_n, rw_s, up1_, if_true, if_false, ite_true, ite_false, reduceIte, eq_self, Int.reduceEq, true_and, and_true, not_true_eq_false, not_false_eq_true]
    rw [h2, hm]
    exact key
  · have hXM : ∀ k i, ¬ (24 ≤ k ∧ k ≤ 28) → X k i = M k i := fun k i hk => by
      rw [a1 k i (by omega), up_x (by omega), up_x (by omega), up_x (by omega)]
    have epu : pul X r = pul M r := funext (fun e => pul_cg (fun k i hk => hXM k i (by omega)))
    have etg : tgt X r = tgt M r := funext (fun e => tgt_cg (fun k i hk => hXM k i (by omega)))
    have hPX : PC X := hP.cg (fun k i hk => hXM k i (by omega))
    have hRX : RC X r n := hR.cg (fun k i hk => hXM k i (by omega))
    have x5 : X 24 5 = r := by rw [a1 24 5 (by omega)]; rfl
    have x6 : X 24 6 = n := by rw [a1 24 6 (by omega)]; rfl
    have x7 : X 24 7 = 0 := by rw [a1 24 7 (by omega)]; rfl
    refine fr_go k19 [60] 400 rfl ?_
    refine c_joinAll hPX hRX ⟨x5, x6⟩ ⟨fun i i0 i1 => ⟨(a2 i i0 i1).1, (a2 i i0 i1).2.1⟩, fun e e0 e1 => ?_⟩ (fun Y b1 b2 => ?_)
    · have a := a2 (e / 2) (by omega) (by omega)
      rcases (show e = 2 * (e / 2) ∨ e = 2 * (e / 2) + 1 by omega) with q | q
      · rw [q]
        exact a.2.2.2.1
      · rw [q]
        exact a.2.2.2.2
    rw [epu, etg] at b2
    generalize jrun (pul M r) (tgt M r) (2 * n).toNat (2 * n).toNat = J at *
    have hYM : ∀ k i, ¬ (24 ≤ k ∧ k ≤ 28) → Y k i = M k i := fun k i hk => by
      rw [b1 k i (by omega), hXM k i hk]
    have y5 : Y 24 5 = r := by rw [b1 24 5 (by omega)]; exact x5
    have y6 : Y 24 6 = n := by rw [b1 24 6 (by omega)]; exact x6
    have y7 : Y 24 7 = 0 := by rw [b1 24 7 (by omega)]; exact x7
    have hPY : PC Y := hP.cg (fun k i hk => hYM k i (by omega))
    have hRY : RC Y r n := hR.cg (fun k i hk => hYM k i (by omega))
    have eld : ld Y r J.1 = ld M r J.1 := by
      funext y x
      exact ld_cg (fun k i hk => hYM k i (by omega))
    have e74 : M 74 = Y 74 := funext (fun i => (hYM 74 i (by omega)).symm)
    have hI : PI n J.1 J.2.1 J.2.2.1 (M 74) 0 (fun _ => 0) 0 := PI.zero hn9.1 hJ
    repeat' (first | (refine And.intro (by first | omega | (simp (disch := decide) only [up_n, up_s, cp_n, rw_n, rw_s, up1_, if_true, if_false, ite_true, ite_false, reduceIte, eq_self, Int.reduceEq, true_and, and_true, not_true_eq_false, not_false_eq_true]; omega)) ?_) | (refine And.intro (fun hc => ?_) (fun hc => ?_) <;> (try (simp (disch := decide) only [up_n, up_s, cp_n, rw_n, rw_s, up1_, if_true, if_false, ite_true, ite_false, reduceIte, eq_self, Int.reduceEq, true_and, and_true, not_true_eq_false, not_false_eq_true] at hc)) <;> (try (exfalso; omega))) | (refine fun (hc : ¬ _) => ?_; try (simp (disch := decide) only [up_n, up_s, cp_n, rw_n, rw_s, up1_, if_true, if_false, ite_true, ite_false, reduceIte, eq_self, Int.reduceEq, true_and, and_true, not_true_eq_false, not_false_eq_true] at hc)) | (refine fun (hc : _ = _) => ?_; try (simp (disch := decide) only [up_n, up_s, cp_n, rw_n, rw_s, up1_, if_true, if_false, ite_true, ite_false, reduceIte, eq_self, Int.reduceEq, true_and, and_true, not_true_eq_false, not_false_eq_true] at hc)))
    refine c_place (L := ld M r J.1) ⟨y6, hn9⟩ hJ (fun i i0 i1 => (b2.1 i i0 i1).2) hI ⟨y7, fun i i0 i1 => absurd i1 (by omega), fun y y0 y1 => by rw [b1 28 y (by omega)]; exact (a2 y y0 y1).2.2.1⟩ (fun Z rk' pd' pl' j c1 c2 c3 c4 c5 => ?_)
    repeat' (first | (refine And.intro (by first | omega | (simp (disch := decide) only [up_n, up_s, cp_n, rw_n, rw_s, up1_, if_true, if_false, ite_true, ite_false, reduceIte, eq_self, Int.reduceEq, true_and, and_true, not_true_eq_false, not_false_eq_true]; omega)) ?_) | (refine And.intro (fun hc => ?_) (fun hc => ?_) <;> (try (simp (disch := decide) only [up_n, up_s, cp_n, rw_n, rw_s, up1_, if_true, if_false, ite_true, ite_false, reduceIte, eq_self, Int.reduceEq, true_and, and_true, not_true_eq_false, not_false_eq_true] at hc)) <;> (try (exfalso; omega))) | (refine fun (hc : ¬ _) => ?_; try (simp (disch := decide) only [up_n, up_s, cp_n, rw_n, rw_s, up1_, if_true, if_false, ite_true, ite_false, reduceIte, eq_self, Int.reduceEq, true_and, and_true, not_true_eq_false, not_false_eq_true] at hc)) | (refine fun (hc : _ = _) => ?_; try (simp (disch := decide) only [up_n, up_s, cp_n, rw_n, rw_s, up1_, if_true, if_false, ite_true, ite_false, reduceIte, eq_self, Int.reduceEq, true_and, and_true, not_true_eq_false, not_false_eq_true] at hc)))
    have hZM : ∀ k i, ¬ ((24 ≤ k ∧ k ≤ 28) ∨ k = 74) → Z k i = M k i := fun k i hk => by
      rw [c1 k i (by omega), hYM k i (by omega)]
    have eldZ : ld Z r J.1 = ld M r J.1 := by
      funext y x
      exact ld_cg (fun k i hk => hZM k i (by omega))
    have hpd := c4.2 (by omega)
    refine c_fn_l (N := Z) (r := r) (n := n) (fi := J.1) (fo := J.2.1) (pr := J.2.2.1) (hP.cg (fun k i hk => hZM k i (by omega))) (hR.cg (fun k i hk => hZM k i (by omega))) ⟨by rw [c1 24 5 (by omega)]; exact y5, by rw [c1 24 6 (by omega)]; exact y6⟩ hJ (fun i i0 i1 => by rw [c1 25 i (by omega), c1 26 i (by omega)]; exact b2.1 i i0 i1) (n - 1).toNat 1 Z rk' pd' pl' (by omega) (by omega) c3 c2 (fun k i _ => rfl) (fun X' k d1 d2 => ?_)
    rw [eldZ] at d2
    exact h X' (k + j) (fun k i hk => by rw [d1 k i (by omega), hZM k i hk]) (c5 k _ d2)
