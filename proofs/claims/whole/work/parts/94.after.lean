theorem gt_up {gt tk : Int → Int} (h : ∀ i, 0 ≤ i → i < 160 → gt i = tk i) {x y : Int} (hx : 0 ≤ x ∧ x < 160) (e : x = y) : ∀ i, 0 ≤ i → i < 160 → up1 gt x (gt x + 1) i = up1 tk y (tk y + 1) i := by
  subst e
  intro i q0 q1
  rw [up1_, up1_, h x hx.1 hx.2, h i q0 q1]
set_option maxHeartbeats 4000000 in
set_option maxRecDepth 100000 in
theorem c_take_45 {N : fr_M} {b w : Int} {Q : Option fr_V → fr_H → fr_M → Prop} (hb : 0 ≤ b ∧ b < 40) (hw : 0 ≤ w ∧ w < 4) (hn : w < N 8 b) (ht : 0 ≤ N 48 (b * 4 + w) ∧ N 48 (b * 4 + w) ≤ 1000) (h : Q (some (.inl (N 11 (b * 4 + w)))) sh0 (fr_up N 48 (b * 4 + w) (N 48 (b * 4 + w) + 1))) : fr_Call 85 [.inr (.inl 44), .inl b, .inl w, .inr (.inl 45)] sh0 N Q := by
  refine fr_cgo k85 [some (.inr (.inl 44)), some (.inl b), some (.inl w), some (.inr (.inl 45))] 0 0 [] 400 rfl rfl rfl rfl ?_
  repeat' (first | (refine And.intro (by first | omega | (simp (disch := decide) only [up_n, up_s, cp_n, rw_n, rw_s, up1_, if_true, if_false, ite_true, ite_false, reduceIte, eq_self, Int.reduceEq, true_and, and_true, not_true_eq_false, not_false_eq_true]; omega)) ?_) | (refine c_wayOf (by omega) (by omega) (fun hc => ?_) (fun hc => ?_) <;> (try (simp (disch := decide) only [up_n, up_s, cp_n, rw_n, rw_s, up1_, if_true, if_false, ite_true, ite_false, reduceIte, eq_self, Int.reduceEq, true_and, and_true, not_true_eq_false, not_false_eq_true] at hc))) | (refine And.intro (fun hc => ?_) (fun hc => ?_) <;> (try (simp (disch := decide) only [up_n, up_s, cp_n, rw_n, rw_s, up1_, if_true, if_false, ite_true, ite_false, reduceIte, eq_self, Int.reduceEq, true_and, and_true, not_true_eq_false, not_false_eq_true] at hc)) <;> (try (exfalso; omega))) | (refine fun (hc : ¬ _) => ?_; try (simp (disch := decide) only [up_n, up_s, cp_n, rw_n, rw_s, up1_, if_true, if_false, ite_true, ite_false, reduceIte, eq_self, Int.reduceEq, true_and, and_true, not_true_eq_false, not_false_eq_true] at hc)) | (refine fun (hc : _ = _) => ?_; try (simp (disch := decide) only [up_n, up_s, cp_n, rw_n, rw_s, up1_, if_true, if_false, ite_true, ite_false, reduceIte, eq_self, Int.reduceEq, true_and, and_true, not_true_eq_false, not_false_eq_true] at hc)))
  all_goals first | (exfalso; omega) | exact h
set_option maxHeartbeats 4000000 in
set_option maxRecDepth 100000 in
theorem c_after_45 {N p : fr_M} {tp : Int → Int} {b ch : Int} {st : List Int} {mo : Int} {tk : Int → Int} {jm tj ts : Int} {k : Nat} {g gt gc gr : Int → Int} {Q : Option fr_V → fr_H → fr_M → Prop} (hw : WF p) (hN : RN p tp N) (hS : SI p k (b, ch, st, mo, tk, jm, tj, ts)) (hk : k ≤ 200) (h0 : 0 ≤ b) (hC : CR g gt gc (b, ch, st, mo, tk, jm, tj, ts)) (h : ∀ g' gt' gc' gr', CR g' gt' gc' (stp p tp (b, ch, st, mo, tk, jm, tj, ts)) → (∀ i, i ≠ 1 → i ≠ 3 → i ≠ 4 → i ≠ 5 → g' i = g i) → ((stp p tp (b, ch, st, mo, tk, jm, tj, ts)).1 < 0 → g' 1 = -1 - (stp p tp (b, ch, st, mo, tk, jm, tj, ts)).1) → Q (some (.inl (if (stp p tp (b, ch, st, mo, tk, jm, tj, ts)).1 < 0 then -1 else (stp p tp (b, ch, st, mo, tk, jm, tj, ts)).1))) sh0 (rw_ (rw_ (rw_ (rw_ N 45 g') 48 gt') 49 gc') 50 gr')) : fr_Call 89 [.inr (.inl 44), .inl b, .inr (.inl 45)] sh0 (rw_ (rw_ (rw_ (rw_ N 45 g) 48 gt) 49 gc) 50 gr) Q := by
  obtain ⟨s1, s2, s3, s4, s5, s6, s7, s8, s9⟩ := hS
  have hb : 0 ≤ b ∧ b < p 75 4 := ⟨h0, s1.2⟩
  have h40 := hw.1.1
  replace s2 : 0 ≤ ch ∧ ch ≤ (k : Int) := s2
  replace s4 : st.length ≤ 8 := s4
  replace s5 : 0 ≤ mo ∧ mo ≤ 8 := s5
  replace s6 : ∀ i, 0 ≤ tk i ∧ tk i ≤ (k : Int) := s6
  clear s1 s7 s8 s9
  obtain ⟨n1, n2, n3, n4, n5⟩ := hN
  obtain ⟨c1, c2, c3, c4, c5⟩ := hC
  replace c1 : g 3 = ch := c1
  replace c2 : g 4 = (st.length : Int) := c2
  replace c3 : g 5 = mo := c3
  replace c4 : ∀ i, 0 ≤ i → i < 160 → gt i = tk i := c4
  replace c5 : ∀ (j : Nat) (x : Int), st[j]? = some x → gc ((st.length : Int) - 1 - (j : Int)) = x := c5
  obtain ⟨e7, e8⟩ := n1 b hb.1 hb.2
  obtain ⟨w1', w2', w3', w4', w5', w6', w7', w8'⟩ := hw.2.2.2.2.2.1 b hb.1 hb.2
  have hwy := hw.2.2.2.2.2.2
  have e7' : rw_ (rw_ (rw_ (rw_ N 45 g) 48 gt) 49 gc) 50 gr 7 b = p 82 b := e7
  by_cases k1 : p 82 b = 1
  · have es : stp p tp (b, ch, st, mo, tk, jm, tj, ts) = (-2, ch, st, mo, tk, jm, tj, ts) := by
      simp only [stp, if_pos k1]
    rw [es] at h
    have hh := h (up1 g 1 1) gt gc gr ⟨c1, c2, c3, c4, c5⟩ (fun i q1 q3 q4 q5 => by rw [up1_, if_neg q1]) (fun _ => rfl)
    rw [if_pos (show (-2 : Int) < 0 by omega)] at hh
    clear h n1 n2 n3 n4 n5 c4 c5 hwy
    refine fr_cgo k89 [some (.inr (.inl 44)), some (.inl b), some (.inr (.inl 45))] 0 0 [] 400 rfl rfl rfl rfl ?_
    repeat' (first | (refine And.intro (by first | omega | (simp (disch := decide) only [up_n, up_s, cp_n, rw_n, rw_s, up1_, if_true, if_false, ite_true, ite_false, reduceIte, eq_self, Int.reduceEq, true_and, and_true, not_true_eq_false, not_false_eq_true]; omega)) ?_) | (refine c_stop_45 ?_) | (refine And.intro (fun hc => ?_) (fun hc => ?_) <;> (try (simp (disch := decide) only [up_n, up_s, cp_n, rw_n, rw_s, up1_, if_true, if_false, ite_true, ite_false, reduceIte, eq_self, Int.reduceEq, true_and, and_true, not_true_eq_false, not_false_eq_true] at hc)) <;> (try (exfalso; omega))) | (refine fun (hc : ¬ _) => ?_; try (simp (disch := decide) only [up_n, up_s, cp_n, rw_n, rw_s, up1_, if_true, if_false, ite_true, ite_false, reduceIte, eq_self, Int.reduceEq, true_and, and_true, not_true_eq_false, not_false_eq_true] at hc)) | (refine fun (hc : _ = _) => ?_; try (simp (disch := decide) only [up_n, up_s, cp_n, rw_n, rw_s, up1_, if_true, if_false, ite_true, ite_false, reduceIte, eq_self, Int.reduceEq, true_and, and_true, not_true_eq_false, not_false_eq_true] at hc)))
    all_goals first | (exfalso; omega) | skip
    show Q (some (.inl _)) sh0 _
    simp (disch := decide) only [up_rw, rw_u, up_up, rw_rw, rw_cm]
    exact hh
  · by_cases k5 : p 82 b = 5
    · by_cases k8 : st.length = 8
      · have es : stp p tp (b, ch, st, mo, tk, jm, tj, ts) = (-3, ch, st, mo, tk, jm, tj, ts) := by
          simp only [stp, if_neg k1, if_pos k5, if_pos k8]
        rw [es] at h
        have hh := h (up1 g 1 2) gt gc gr ⟨c1, c2, c3, c4, c5⟩ (fun i q1 q3 q4 q5 => by rw [up1_, if_neg q1]) (fun _ => rfl)
        rw [if_pos (show (-3 : Int) < 0 by omega)] at hh
        clear h n1 n2 n3 n4 n5 c4 c5 hwy
        refine fr_cgo k89 [some (.inr (.inl 44)), some (.inl b), some (.inr (.inl 45))] 0 0 [] 400 rfl rfl rfl rfl ?_
        repeat' (first | (refine And.intro (by first | omega | (simp (disch := decide) only [up_n, up_s, cp_n, rw_n, rw_s, up1_, if_true, if_false, ite_true, ite_false, reduceIte, eq_self, Int.reduceEq, true_and, and_true, not_true_eq_false, not_false_eq_true]; omega)) ?_) | (refine c_open_45 (by simp (disch := decide) only [up_n, up_s, cp_n, rw_n, rw_s, up1_, if_true, if_false, ite_true, ite_false, reduceIte, eq_self, Int.reduceEq, true_and, and_true, not_true_eq_false, not_false_eq_true]; omega) (fun hc => ?_) (fun hc => ?_) <;> (try (simp (disch := decide) only [up_n, up_s, cp_n, rw_n, rw_s, up1_, if_true, if_false, ite_true, ite_false, reduceIte, eq_self, Int.reduceEq, true_and, and_true, not_true_eq_false, not_false_eq_true] at hc))) | (refine c_stop_45 ?_) | (refine And.intro (fun hc => ?_) (fun hc => ?_) <;> (try (simp (disch := decide) only [up_n, up_s, cp_n, rw_n, rw_s, up1_, if_true, if_false, ite_true, ite_false, reduceIte, eq_self, Int.reduceEq, true_and, and_true, not_true_eq_false, not_false_eq_true] at hc)) <;> (try (exfalso; omega))) | (refine fun (hc : ¬ _) => ?_; try (simp (disch := decide) only [up_n, up_s, cp_n, rw_n, rw_s, up1_, if_true, if_false, ite_true, ite_false, reduceIte, eq_self, Int.reduceEq, true_and, and_true, not_true_eq_false, not_false_eq_true] at hc)) | (refine fun (hc : _ = _) => ?_; try (simp (disch := decide) only [up_n, up_s, cp_n, rw_n, rw_s, up1_, if_true, if_false, ite_true, ite_false, reduceIte, eq_self, Int.reduceEq, true_and, and_true, not_true_eq_false, not_false_eq_true] at hc)))
        all_goals first | (exfalso; omega) | (exfalso; simp (disch := decide) only [up_n, up_s, cp_n, rw_n, rw_s, up1_, if_true, if_false, ite_true, ite_false, reduceIte, eq_self, Int.reduceEq, true_and, and_true, not_true_eq_false, not_false_eq_true] at *; omega) | skip
        show Q (some (.inl _)) sh0 _
        simp (disch := decide) only [up_rw, rw_u, up_up, rw_rw, rw_cm]
        exact hh
      · have es : stp p tp (b, ch, st, mo, tk, jm, tj, ts) = (p 77 (9 * p 86 b), ch, b :: st, max mo ((st.length : Int) + 1), tk, jm, tj, ts) := by
          simp only [stp, if_neg k1, if_pos k5, if_neg k8]
        rw [es] at h
        have hcal := w8' k5
        obtain ⟨e9, e3⟩ := n3 b hb.1 hb.2 k5
        have e3' : N 3 (N 9 b * 9 + 0) = p 77 (9 * p 86 b) := by rw [e9]; exact e3
        have hh := h (up1 (up1 g 4 ((st.length : Int) + 1)) 5 (max mo ((st.length : Int) + 1))) gt (up1 gc (st.length : Int) b) (up1 gr (st.length : Int) 0) ⟨c1, by show (st.length : Int) + 1 = ((b :: st).length : Int); simp, rfl, c4, fun j x hx => ?_⟩ (fun i q1 q3 q4 q5 => by rw [up1_, if_neg q5, up1_, if_neg q4]) (fun q => by
          have q : p 77 (9 * p 86 b) < 0 := q
          omega)
        · rw [if_neg (show ¬ p 77 (9 * p 86 b) < 0 by omega)] at hh
          rw [← e3'] at hh
          clear h n1 n2 n3 n5 c4 c5 hwy
          have hmo : max (g 5) (g 4 + 1) = max mo ((st.length : Int) + 1) := by rw [c3, c2]
          rw [← hmo, ← c2] at hh
          refine fr_cgo k89 [some (.inr (.inl 44)), some (.inl b), some (.inr (.inl 45))] 0 0 [] 400 rfl rfl rfl rfl ?_
          repeat' (first | (refine And.intro (by first | omega | (simp (disch := decide) only [up_n, up_s, cp_n, rw_n, rw_s, up1_, if_true, if_false, ite_true, ite_false, reduceIte, eq_self, Int.reduceEq, true_and, and_true, not_true_eq_false, not_false_eq_true]; omega)) ?_) | (refine c_open_45 (by simp (disch := decide) only [up_n, up_s, cp_n, rw_n, rw_s, up1_, if_true, if_false, ite_true, ite_false, reduceIte, eq_self, Int.reduceEq, true_and, and_true, not_true_eq_false, not_false_eq_true]; omega) (fun hc => ?_) (fun hc => ?_) <;> (try (simp (disch := decide) only [up_n, up_s, cp_n, rw_n, rw_s, up1_, if_true, if_false, ite_true, ite_false, reduceIte, eq_self, Int.reduceEq, true_and, and_true, not_true_eq_false, not_false_eq_true] at hc))) | (refine c_ownBlock (by simp (disch := decide) only [up_n, up_s, cp_n, rw_n, rw_s, up1_, if_true, if_false, ite_true, ite_false, reduceIte, eq_self, Int.reduceEq, true_and, and_true, not_true_eq_false, not_false_eq_true]; omega) (by omega) ?_) | (refine And.intro (fun hc => ?_) (fun hc => ?_) <;> (try (simp (disch := decide) only [up_n, up_s, cp_n, rw_n, rw_s, up1_, if_true, if_false, ite_true, ite_false, reduceIte, eq_self, Int.reduceEq, true_and, and_true, not_true_eq_false, not_false_eq_true] at hc)) <;> (try (exfalso; omega))) | (refine fun (hc : ¬ _) => ?_; try (simp (disch := decide) only [up_n, up_s, cp_n, rw_n, rw_s, up1_, if_true, if_false, ite_true, ite_false, reduceIte, eq_self, Int.reduceEq, true_and, and_true, not_true_eq_false, not_false_eq_true] at hc)) | (refine fun (hc : _ = _) => ?_; try (simp (disch := decide) only [up_n, up_s, cp_n, rw_n, rw_s, up1_, if_true, if_false, ite_true, ite_false, reduceIte, eq_self, Int.reduceEq, true_and, and_true, not_true_eq_false, not_false_eq_true] at hc)))
          all_goals first | (exfalso; omega) | (exfalso; simp (disch := decide) only [up_n, up_s, cp_n, rw_n, rw_s, up1_, if_true, if_false, ite_true, ite_false, reduceIte, eq_self, Int.reduceEq, true_and, and_true, not_true_eq_false, not_false_eq_true] at *; omega) | skip
          show Q (some (.inl _)) sh0 _
          simp (disch := decide) only [up_n, up_s, cp_n, rw_n, rw_s, up1_, if_true, if_false, ite_true, ite_false, reduceIte, eq_self, Int.reduceEq, true_and, and_true, not_true_eq_false, not_false_eq_true]
          simp (disch := decide) only [up_rw, rw_u, up_up, rw_rw, rw_cm]
          exact hh
        · show up1 gc (st.length : Int) b (((b :: st).length : Int) - 1 - (j : Int)) = x
          rw [up1_]
          cases j with
          | zero =>
            have hx : b = x := by simpa using hx
            rw [if_pos (by simp), hx]
          | succ j =>
            have hx : st[j]? = some x := by simpa using hx
            have hj := (List.getElem?_eq_some_iff.mp hx).1
            have := c5 j x hx
            have el : (((b :: st).length : Nat) : Int) = (st.length : Int) + 1 := by simp
            rw [el, if_neg (by omega), show (st.length : Int) + 1 - 1 - ((j + 1 : Nat) : Int) = (st.length : Int) - 1 - (j : Int) by omega]
            exact this
    · by_cases k0 : p 82 b = 0
      · cases st with
        | nil =>
          have es : stp p tp (b, ch, [], mo, tk, jm, tj, ts) = (-1, ch, [], mo, tk, jm, tj, ts) := by
            simp only [stp, if_neg k1, if_neg k5, if_pos k0]
          rw [es] at h
          have hh := h (up1 g 1 0) gt gc gr ⟨c1, c2, c3, c4, c5⟩ (fun i q1 q3 q4 q5 => by rw [up1_, if_neg q1]) (fun _ => rfl)
          rw [if_pos (show (-1 : Int) < 0 by omega)] at hh
          replace c2 : g 4 = 0 := c2
          clear h n1 n2 n3 n4 n5 c4 c5 hwy
          refine fr_cgo k89 [some (.inr (.inl 44)), some (.inl b), some (.inr (.inl 45))] 0 0 [] 400 rfl rfl rfl rfl ?_
          repeat' (first | (refine And.intro (by first | omega | (simp (disch := decide) only [up_n, up_s, cp_n, rw_n, rw_s, up1_, if_true, if_false, ite_true, ite_false, reduceIte, eq_self, Int.reduceEq, true_and, and_true, not_true_eq_false, not_false_eq_true]; omega)) ?_) | (refine And.intro (fun hc => ?_) (fun hc => ?_) <;> (try (simp (disch := decide) only [up_n, up_s, cp_n, rw_n, rw_s, up1_, if_true, if_false, ite_true, ite_false, reduceIte, eq_self, Int.reduceEq, true_and, and_true, not_true_eq_false, not_false_eq_true] at hc)) <;> (try (exfalso; omega))) | (refine fun (hc : ¬ _) => ?_; try (simp (disch := decide) only [up_n, up_s, cp_n, rw_n, rw_s, up1_, if_true, if_false, ite_true, ite_false, reduceIte, eq_self, Int.reduceEq, true_and, and_true, not_true_eq_false, not_false_eq_true] at hc)) | (refine fun (hc : _ = _) => ?_; try (simp (disch := decide) only [up_n, up_s, cp_n, rw_n, rw_s, up1_, if_true, if_false, ite_true, ite_false, reduceIte, eq_self, Int.reduceEq, true_and, and_true, not_true_eq_false, not_false_eq_true] at hc)))
          all_goals first | (exfalso; omega) | skip
          refine fr_cgo k88 [some (.inr (.inl 44)), some (.inr (.inl 45))] 0 0 [] 400 rfl rfl rfl rfl ?_
          repeat' (first | (refine And.intro (by first | omega | (simp (disch := decide) only [up_n, up_s, cp_n, rw_n, rw_s, up1_, if_true, if_false, ite_true, ite_false, reduceIte, eq_self, Int.reduceEq, true_and, and_true, not_true_eq_false, not_false_eq_true]; omega)) ?_) | (refine c_stop_45 ?_) | (refine And.intro (fun hc => ?_) (fun hc => ?_) <;> (try (simp (disch := decide) only [up_n, up_s, cp_n, rw_n, rw_s, up1_, if_true, if_false, ite_true, ite_false, reduceIte, eq_self, Int.reduceEq, true_and, and_true, not_true_eq_false, not_false_eq_true] at hc)) <;> (try (exfalso; omega))) | (refine fun (hc : ¬ _) => ?_; try (simp (disch := decide) only [up_n, up_s, cp_n, rw_n, rw_s, up1_, if_true, if_false, ite_true, ite_false, reduceIte, eq_self, Int.reduceEq, true_and, and_true, not_true_eq_false, not_false_eq_true] at hc)) | (refine fun (hc : _ = _) => ?_; try (simp (disch := decide) only [up_n, up_s, cp_n, rw_n, rw_s, up1_, if_true, if_false, ite_true, ite_false, reduceIte, eq_self, Int.reduceEq, true_and, and_true, not_true_eq_false, not_false_eq_true] at hc)))
          all_goals first | (exfalso; omega) | (exfalso; simp (disch := decide) only [up_n, up_s, cp_n, rw_n, rw_s, up1_, if_true, if_false, ite_true, ite_false, reduceIte, eq_self, Int.reduceEq, true_and, and_true, not_true_eq_false, not_false_eq_true] at *; omega) | skip
          show Q (some (.inl _)) sh0 _
          simp (disch := decide) only [up_rw, rw_u, up_up, rw_rw, rw_cm]
          exact hh
        | cons f r =>
          have hf := s3 f (List.mem_cons_self ..)
          have hn := (hw.2.2.2.2.2.1 f hf.1.1 hf.1.2).2.2.2.2.1 (Or.inr hf.2)
          have hq := hwy f 0 hf.1.1 hf.1.2 (by omega) (by omega)
          have e11 := n2 f 0 hf.1.1 hf.1.2 (by omega) (by omega)
          have e8f := (n1 f hf.1.1 hf.1.2).2
          have ef := c5 0 f (by simp)
          have el : (((f :: r).length : Nat) : Int) = (r.length : Int) + 1 := by simp
          rw [el] at c2 ef
          rw [show (r.length : Int) + 1 - 1 - ((0 : Nat) : Int) = (r.length : Int) by omega] at ef
          rw [List.length_cons] at s4
          have es : (stp p tp (b, ch, f :: r, mo, tk, jm, tj, ts)).1 = p 84 (4 * f + 0) ∧ (stp p tp (b, ch, f :: r, mo, tk, jm, tj, ts)).2.1 = ch ∧ (stp p tp (b, ch, f :: r, mo, tk, jm, tj, ts)).2.2.1 = r ∧ (stp p tp (b, ch, f :: r, mo, tk, jm, tj, ts)).2.2.2.1 = mo ∧ (stp p tp (b, ch, f :: r, mo, tk, jm, tj, ts)).2.2.2.2.1 = up1 tk (4 * f + 0) (tk (4 * f + 0) + 1) := by
            simp only [stp, if_neg k1, if_neg k5, if_pos k0, tkw]
            exact ⟨trivial, trivial, trivial, trivial, trivial⟩
          obtain ⟨z1, z2, z3, z4, z5⟩ := es
          have htk := s6 (4 * f + 0)
          have hgt := c4 (f * 4 + 0) (by omega) (by omega)
          have hh := h (up1 g 4 (r.length : Int)) (up1 gt (f * 4 + 0) (gt (f * 4 + 0) + 1)) gc gr ⟨by rw [z2]; exact c1, by rw [z3]; rfl, by rw [z4]; exact c3, by rw [z5]; exact gt_up c4 (by omega) (by omega), fun j x hx => ?_⟩ (fun i q1 q3 q4 q5 => by rw [up1_, if_neg q4]) (fun q => by rw [z1] at q; omega)
          · rw [z1, if_neg (by omega), ← e11] at hh
            have htk2 : gt (f * 4 + 0) = tk (4 * f + 0) := by rw [hgt]; congr 1; omega
            clear h n1 n2 n3 n4 n5 c4 c5 hwy
            have ef' : gc (g 4 - 1) = f := by rw [c2, show (r.length : Int) + 1 - 1 = (r.length : Int) by omega]; exact ef
            rw [show (r.length : Int) = g 4 - 1 by omega] at hh
            refine fr_cgo k89 [some (.inr (.inl 44)), some (.inl b), some (.inr (.inl 45))] 0 0 [] 400 rfl rfl rfl rfl ?_
            repeat' (first | (refine And.intro (by first | omega | (simp (disch := decide) only [up_n, up_s, cp_n, rw_n, rw_s, up1_, if_true, if_false, ite_true, ite_false, reduceIte, eq_self, Int.reduceEq, true_and, and_true, not_true_eq_false, not_false_eq_true]; omega)) ?_) | (refine And.intro (fun hc => ?_) (fun hc => ?_) <;> (try (simp (disch := decide) only [up_n, up_s, cp_n, rw_n, rw_s, up1_, if_true, if_false, ite_true, ite_false, reduceIte, eq_self, Int.reduceEq, true_and, and_true, not_true_eq_false, not_false_eq_true] at hc)) <;> (try (exfalso; omega))) | (refine fun (hc : ¬ _) => ?_; try (simp (disch := decide) only [up_n, up_s, cp_n, rw_n, rw_s, up1_, if_true, if_false, ite_true, ite_false, reduceIte, eq_self, Int.reduceEq, true_and, and_true, not_true_eq_false, not_false_eq_true] at hc)) | (refine fun (hc : _ = _) => ?_; try (simp (disch := decide) only [up_n, up_s, cp_n, rw_n, rw_s, up1_, if_true, if_false, ite_true, ite_false, reduceIte, eq_self, Int.reduceEq, true_and, and_true, not_true_eq_false, not_false_eq_true] at hc)))
            all_goals first | (exfalso; omega) | skip
            refine fr_cgo k88 [some (.inr (.inl 44)), some (.inr (.inl 45))] 0 0 [] 400 rfl rfl rfl rfl ?_
            repeat' (first | (refine And.intro (by first | omega | (simp (disch := decide) only [up_n, up_s, cp_n, rw_n, rw_s, up1_, if_true, if_false, ite_true, ite_false, reduceIte, eq_self, Int.reduceEq, true_and, and_true, not_true_eq_false, not_false_eq_true]; omega)) ?_) | (refine And.intro (fun hc => ?_) (fun hc => ?_) <;> (try (simp (disch := decide) only [up_n, up_s, cp_n, rw_n, rw_s, up1_, if_true, if_false, ite_true, ite_false, reduceIte, eq_self, Int.reduceEq, true_and, and_true, not_true_eq_false, not_false_eq_true] at hc)) <;> (try (exfalso; omega))) | (refine fun (hc : ¬ _) => ?_; try (simp (disch := decide) only [up_n, up_s, cp_n, rw_n, rw_s, up1_, if_true, if_false, ite_true, ite_false, reduceIte, eq_self, Int.reduceEq, true_and, and_true, not_true_eq_false, not_false_eq_true] at hc)) | (refine fun (hc : _ = _) => ?_; try (simp (disch := decide) only [up_n, up_s, cp_n, rw_n, rw_s, up1_, if_true, if_false, ite_true, ite_false, reduceIte, eq_self, Int.reduceEq, true_and, and_true, not_true_eq_false, not_false_eq_true] at hc)))
            all_goals first | (exfalso; omega) | (exfalso; simp (disch := decide) only [up_n, up_s, cp_n, rw_n, rw_s, up1_, if_true, if_false, ite_true, ite_false, reduceIte, eq_self, Int.reduceEq, true_and, and_true, not_true_eq_false, not_false_eq_true] at *; omega) | skip
            all_goals (show fr_Call 85 [.inr (.inl 44), .inl _, .inl 0, .inr (.inl 45)] sh0 _ _)
            simp (disch := decide) only [up_n, up_s, cp_n, rw_n, rw_s, up1_, if_true, if_false, ite_true, ite_false, reduceIte, eq_self, Int.reduceEq, true_and, and_true, not_true_eq_false, not_false_eq_true]
            rw [ef']
            refine c_take_45 (by omega) (by omega) (by simp (disch := decide) only [up_n, up_s, cp_n, rw_n, rw_s, up1_, if_true, if_false, ite_true, ite_false, reduceIte, eq_self, Int.reduceEq, true_and, and_true, not_true_eq_false, not_false_eq_true]; omega) (by simp (disch := decide) only [up_n, up_s, cp_n, rw_n, rw_s, up1_, if_true, if_false, ite_true, ite_false, reduceIte, eq_self, Int.reduceEq, true_and, and_true, not_true_eq_false, not_false_eq_true]; omega) ?_
            repeat' (first | (refine And.intro (by first | omega | (simp (disch := decide) only [up_n, up_s, cp_n, rw_n, rw_s, up1_, if_true, if_false, ite_true, ite_false, reduceIte, eq_self, Int.reduceEq, true_and, and_true, not_true_eq_false, not_false_eq_true]; omega)) ?_) | (refine And.intro (fun hc => ?_) (fun hc => ?_) <;> (try (simp (disch := decide) only [up_n, up_s, cp_n, rw_n, rw_s, up1_, if_true, if_false, ite_true, ite_false, reduceIte, eq_self, Int.reduceEq, true_and, and_true, not_true_eq_false, not_false_eq_true] at hc)) <;> (try (exfalso; omega))) | (refine fun (hc : ¬ _) => ?_; try (simp (disch := decide) only [up_n, up_s, cp_n, rw_n, rw_s, up1_, if_true, if_false, ite_true, ite_false, reduceIte, eq_self, Int.reduceEq, true_and, and_true, not_true_eq_false, not_false_eq_true] at hc)) | (refine fun (hc : _ = _) => ?_; try (simp (disch := decide) only [up_n, up_s, cp_n, rw_n, rw_s, up1_, if_true, if_false, ite_true, ite_false, reduceIte, eq_self, Int.reduceEq, true_and, and_true, not_true_eq_false, not_false_eq_true] at hc)))
            show Q (some (.inl _)) sh0 _
            simp (disch := decide) only [up_n, up_s, cp_n, rw_n, rw_s, up1_, if_true, if_false, ite_true, ite_false, reduceIte, eq_self, Int.reduceEq, true_and, and_true, not_true_eq_false, not_false_eq_true]
            simp (disch := decide) only [up_rw, rw_u, up_up, rw_rw, rw_cm]
            exact hh
          · rw [z3] at hx ⊢
            have := c5 (j + 1) x (by simpa using hx)
            rw [el, show (r.length : Int) + 1 - 1 - ((j + 1 : Nat) : Int) = (r.length : Int) - 1 - (j : Int) by omega] at this
            exact this
      · have ht := n5 ch s2.1
        have hwr : 0 ≤ wy p tp b ch ∧ wy p tp b ch < p 83 b ∧ wy p tp b ch < 4 := by
          unfold wy
          split
          · omega
          · split
            · next q =>
              have := w7' q
              have a := Int.emod_nonneg (tp ch) (show p 83 b ≠ 0 by omega)
              have c := Int.emod_lt_of_pos (tp ch) (show 0 < p 83 b by omega)
              omega
            · split
              · split <;> omega
              · omega
        have hq := hwy b _ hb.1 hb.2 hwr.1 hwr.2.1
        have e11 := n2 b _ hb.1 hb.2 hwr.1 hwr.2.1
        have es : (stp p tp (b, ch, st, mo, tk, jm, tj, ts)).1 = p 84 (4 * b + wy p tp b ch) ∧ (stp p tp (b, ch, st, mo, tk, jm, tj, ts)).2.1 = (if p 82 b = 2 then ch else ch + 1) ∧ (stp p tp (b, ch, st, mo, tk, jm, tj, ts)).2.2.1 = st ∧ (stp p tp (b, ch, st, mo, tk, jm, tj, ts)).2.2.2.1 = mo ∧ (stp p tp (b, ch, st, mo, tk, jm, tj, ts)).2.2.2.2.1 = up1 tk (4 * b + wy p tp b ch) (tk (4 * b + wy p tp b ch) + 1) := by
          simp only [stp, if_neg k1, if_neg k5, if_neg k0, tkw]
          exact ⟨trivial, trivial, trivial, trivial, trivial⟩
        obtain ⟨z1, z2, z3, z4, z5⟩ := es
        have htk := s6 (4 * b + wy p tp b ch)
        have hgt := c4 (b * 4 + wy p tp b ch) (by omega) (by omega)
        have htk2 : gt (b * 4 + wy p tp b ch) = tk (4 * b + wy p tp b ch) := by rw [hgt]; congr 1; omega
        have hh := h (if p 82 b = 2 then g else up1 g 3 (ch + 1)) (up1 gt (b * 4 + wy p tp b ch) (gt (b * 4 + wy p tp b ch) + 1)) gc gr ⟨?_, ?_, ?_, by rw [z5]; exact gt_up c4 (by omega) (by omega), by rw [z3]; exact c5⟩ (fun i q1 q3 q4 q5 => ?_) (fun q => by rw [z1] at q; omega)
        · rw [z1, if_neg (by omega), ← e11] at hh
          clear h n1 n2 n3 c4 c5 hwy
          have etp : (if g 3 < N 42 1 then N 43 (g 3) % 256 else 0) = tp ch := by rw [c1]; exact ht.1.symm
          rcases (show p 82 b = 2 ∨ p 82 b = 3 ∨ p 82 b = 4 ∨ p 82 b = 6 by omega) with kk | kk | kk | kk
          · have ew : wy p tp b ch = 0 := by
              unfold wy
              rw [if_neg (by omega), if_neg (by omega), if_neg (by omega)]
            rw [if_pos kk, ew] at hh
            rw [ew] at htk2 htk
            refine fr_cgo k89 [some (.inr (.inl 44)), some (.inl b), some (.inr (.inl 45))] 0 0 [] 400 rfl rfl rfl rfl ?_
            repeat' (first | (refine And.intro (by first | omega | (simp (disch := decide) only [up_n, up_s, cp_n, rw_n, rw_s, up1_, if_true, if_false, ite_true, ite_false, reduceIte, eq_self, Int.reduceEq, true_and, and_true, not_true_eq_false, not_false_eq_true]; omega)) ?_) | (refine c_take_45 (by omega) (by omega) (by simp (disch := decide) only [up_n, up_s, cp_n, rw_n, rw_s, up1_, if_true, if_false, ite_true, ite_false, reduceIte, eq_self, Int.reduceEq, true_and, and_true, not_true_eq_false, not_false_eq_true]; omega) (by simp (disch := decide) only [up_n, up_s, cp_n, rw_n, rw_s, up1_, if_true, if_false, ite_true, ite_false, reduceIte, eq_self, Int.reduceEq, true_and, and_true, not_true_eq_false, not_false_eq_true]; omega) ?_) | (refine And.intro (fun hc => ?_) (fun hc => ?_) <;> (try (simp (disch := decide) only [up_n, up_s, cp_n, rw_n, rw_s, up1_, if_true, if_false, ite_true, ite_false, reduceIte, eq_self, Int.reduceEq, true_and, and_true, not_true_eq_false, not_false_eq_true] at hc)) <;> (try (exfalso; omega))) | (refine fun (hc : ¬ _) => ?_; try (simp (disch := decide) only [up_n, up_s, cp_n, rw_n, rw_s, up1_, if_true, if_false, ite_true, ite_false, reduceIte, eq_self, Int.reduceEq, true_and, and_true, not_true_eq_false, not_false_eq_true] at hc)) | (refine fun (hc : _ = _) => ?_; try (simp (disch := decide) only [up_n, up_s, cp_n, rw_n, rw_s, up1_, if_true, if_false, ite_true, ite_false, reduceIte, eq_self, Int.reduceEq, true_and, and_true, not_true_eq_false, not_false_eq_true] at hc)))
            all_goals first | (exfalso; omega) | (exfalso; simp (disch := decide) only [up_n, up_s, cp_n, rw_n, rw_s, up1_, if_true, if_false, ite_true, ite_false, reduceIte, eq_self, Int.reduceEq, true_and, and_true, not_true_eq_false, not_false_eq_true] at *; omega) | skip
            show Q (some (.inl _)) sh0 _
            simp (disch := decide) only [up_n, up_s, cp_n, rw_n, rw_s, up1_, if_true, if_false, ite_true, ite_false, reduceIte, eq_self, Int.reduceEq, true_and, and_true, not_true_eq_false, not_false_eq_true]
            simp (disch := decide) only [up_rw, rw_u, up_up, rw_rw, rw_cm]
            exact hh
          · have ew : wy p tp b ch = fr_and (tp ch) 1 := by
              unfold wy
              rw [if_pos kk, and_1a]
            rw [if_neg (by omega)] at hh
            rw [ew] at hh hwr htk2 htk
            refine fr_cgo k89 [some (.inr (.inl 44)), some (.inl b), some (.inr (.inl 45))] 0 0 [] 400 rfl rfl rfl rfl ?_
            repeat' (first | (refine And.intro (by first | omega | (simp (disch := decide) only [up_n, up_s, cp_n, rw_n, rw_s, up1_, if_true, if_false, ite_true, ite_false, reduceIte, eq_self, Int.reduceEq, true_and, and_true, not_true_eq_false, not_false_eq_true]; omega)) ?_) | (refine And.intro (fun hc => ?_) (fun hc => ?_) <;> (try (simp (disch := decide) only [up_n, up_s, cp_n, rw_n, rw_s, up1_, if_true, if_false, ite_true, ite_false, reduceIte, eq_self, Int.reduceEq, true_and, and_true, not_true_eq_false, not_false_eq_true] at hc)) <;> (try (exfalso; omega))) | (refine fun (hc : ¬ _) => ?_; try (simp (disch := decide) only [up_n, up_s, cp_n, rw_n, rw_s, up1_, if_true, if_false, ite_true, ite_false, reduceIte, eq_self, Int.reduceEq, true_and, and_true, not_true_eq_false, not_false_eq_true] at hc)) | (refine fun (hc : _ = _) => ?_; try (simp (disch := decide) only [up_n, up_s, cp_n, rw_n, rw_s, up1_, if_true, if_false, ite_true, ite_false, reduceIte, eq_self, Int.reduceEq, true_and, and_true, not_true_eq_false, not_false_eq_true] at hc)))
            all_goals first | (exfalso; omega) | skip
            refine c_choose_45 (by simp (disch := decide) only [up_n, up_s, cp_n, rw_n, rw_s, up1_, if_true, if_false, ite_true, ite_false, reduceIte, eq_self, Int.reduceEq, true_and, and_true, not_true_eq_false, not_false_eq_true]; omega) n4 ?_
            simp (disch := decide) only [up_n, up_s, cp_n, rw_n, rw_s, up1_, if_true, if_false, ite_true, ite_false, reduceIte, eq_self, Int.reduceEq, true_and, and_true, not_true_eq_false, not_false_eq_true]
            rw [etp, c1]
            repeat' (first | (refine And.intro (by first | omega | (simp (disch := decide) only [up_n, up_s, cp_n, rw_n, rw_s, up1_, if_true, if_false, ite_true, ite_false, reduceIte, eq_self, Int.reduceEq, true_and, and_true, not_true_eq_false, not_false_eq_true]; omega)) ?_) | (refine And.intro (fun hc => ?_) (fun hc => ?_) <;> (try (simp (disch := decide) only [up_n, up_s, cp_n, rw_n, rw_s, up1_, if_true, if_false, ite_true, ite_false, reduceIte, eq_self, Int.reduceEq, true_and, and_true, not_true_eq_false, not_false_eq_true] at hc)) <;> (try (exfalso; omega))) | (refine fun (hc : ¬ _) => ?_; try (simp (disch := decide) only [up_n, up_s, cp_n, rw_n, rw_s, up1_, if_true, if_false, ite_true, ite_false, reduceIte, eq_self, Int.reduceEq, true_and, and_true, not_true_eq_false, not_false_eq_true] at hc)) | (refine fun (hc : _ = _) => ?_; try (simp (disch := decide) only [up_n, up_s, cp_n, rw_n, rw_s, up1_, if_true, if_false, ite_true, ite_false, reduceIte, eq_self, Int.reduceEq, true_and, and_true, not_true_eq_false, not_false_eq_true] at hc)))
            refine c_take_45 (by omega) (by omega) (by simp (disch := decide) only [up_n, up_s, cp_n, rw_n, rw_s, up1_, if_true, if_false, ite_true, ite_false, reduceIte, eq_self, Int.reduceEq, true_and, and_true, not_true_eq_false, not_false_eq_true]; omega) (by simp (disch := decide) only [up_n, up_s, cp_n, rw_n, rw_s, up1_, if_true, if_false, ite_true, ite_false, reduceIte, eq_self, Int.reduceEq, true_and, and_true, not_true_eq_false, not_false_eq_true]; omega) ?_
            repeat' (first | (refine And.intro (by first | omega | (simp (disch := decide) only [up_n, up_s, cp_n, rw_n, rw_s, up1_, if_true, if_false, ite_true, ite_false, reduceIte, eq_self, Int.reduceEq, true_and, and_true, not_true_eq_false, not_false_eq_true]; omega)) ?_) | (refine And.intro (fun hc => ?_) (fun hc => ?_) <;> (try (simp (disch := decide) only [up_n, up_s, cp_n, rw_n, rw_s, up1_, if_true, if_false, ite_true, ite_false, reduceIte, eq_self, Int.reduceEq, true_and, and_true, not_true_eq_false, not_false_eq_true] at hc)) <;> (try (exfalso; omega))) | (refine fun (hc : ¬ _) => ?_; try (simp (disch := decide) only [up_n, up_s, cp_n, rw_n, rw_s, up1_, if_true, if_false, ite_true, ite_false, reduceIte, eq_self, Int.reduceEq, true_and, and_true, not_true_eq_false, not_false_eq_true] at hc)) | (refine fun (hc : _ = _) => ?_; try (simp (disch := decide) only [up_n, up_s, cp_n, rw_n, rw_s, up1_, if_true, if_false, ite_true, ite_false, reduceIte, eq_self, Int.reduceEq, true_and, and_true, not_true_eq_false, not_false_eq_true] at hc)))
            show Q (some (.inl _)) sh0 _
            simp (disch := decide) only [up_n, up_s, cp_n, rw_n, rw_s, up1_, if_true, if_false, ite_true, ite_false, reduceIte, eq_self, Int.reduceEq, true_and, and_true, not_true_eq_false, not_false_eq_true]
            simp (disch := decide) only [up_rw, rw_u, up_up, rw_rw, rw_cm]
            exact hh
          · have hn4 := w7' kk
            have ew : wy p tp b ch = tp ch % max 1 (N 8 b) := by
              unfold wy
              rw [if_neg (by omega), if_pos kk, e8, show max 1 (p 83 b) = p 83 b by omega]
            rw [if_neg (by omega)] at hh
            rw [ew] at hh hwr htk2 htk
            refine fr_cgo k89 [some (.inr (.inl 44)), some (.inl b), some (.inr (.inl 45))] 0 0 [] 400 rfl rfl rfl rfl ?_
            repeat' (first | (refine And.intro (by first | omega | (simp (disch := decide) only [up_n, up_s, cp_n, rw_n, rw_s, up1_, if_true, if_false, ite_true, ite_false, reduceIte, eq_self, Int.reduceEq, true_and, and_true, not_true_eq_false, not_false_eq_true]; omega)) ?_) | (refine And.intro (fun hc => ?_) (fun hc => ?_) <;> (try (simp (disch := decide) only [up_n, up_s, cp_n, rw_n, rw_s, up1_, if_true, if_false, ite_true, ite_false, reduceIte, eq_self, Int.reduceEq, true_and, and_true, not_true_eq_false, not_false_eq_true] at hc)) <;> (try (exfalso; omega))) | (refine fun (hc : ¬ _) => ?_; try (simp (disch := decide) only [up_n, up_s, cp_n, rw_n, rw_s, up1_, if_true, if_false, ite_true, ite_false, reduceIte, eq_self, Int.reduceEq, true_and, and_true, not_true_eq_false, not_false_eq_true] at hc)) | (refine fun (hc : _ = _) => ?_; try (simp (disch := decide) only [up_n, up_s, cp_n, rw_n, rw_s, up1_, if_true, if_false, ite_true, ite_false, reduceIte, eq_self, Int.reduceEq, true_and, and_true, not_true_eq_false, not_false_eq_true] at hc)))
            all_goals first | (exfalso; omega) | skip
            refine c_choose_45 (by simp (disch := decide) only [up_n, up_s, cp_n, rw_n, rw_s, up1_, if_true, if_false, ite_true, ite_false, reduceIte, eq_self, Int.reduceEq, true_and, and_true, not_true_eq_false, not_false_eq_true]; omega) n4 ?_
            simp (disch := decide) only [up_n, up_s, cp_n, rw_n, rw_s, up1_, if_true, if_false, ite_true, ite_false, reduceIte, eq_self, Int.reduceEq, true_and, and_true, not_true_eq_false, not_false_eq_true]
            rw [etp, c1]
            repeat' (first | (refine And.intro (by first | omega | (simp (disch := decide) only [up_n, up_s, cp_n, rw_n, rw_s, up1_, if_true, if_false, ite_true, ite_false, reduceIte, eq_self, Int.reduceEq, true_and, and_true, not_true_eq_false, not_false_eq_true]; omega)) ?_) | (refine And.intro (fun hc => ?_) (fun hc => ?_) <;> (try (simp (disch := decide) only [up_n, up_s, cp_n, rw_n, rw_s, up1_, if_true, if_false, ite_true, ite_false, reduceIte, eq_self, Int.reduceEq, true_and, and_true, not_true_eq_false, not_false_eq_true] at hc)) <;> (try (exfalso; omega))) | (refine fun (hc : ¬ _) => ?_; try (simp (disch := decide) only [up_n, up_s, cp_n, rw_n, rw_s, up1_, if_true, if_false, ite_true, ite_false, reduceIte, eq_self, Int.reduceEq, true_and, and_true, not_true_eq_false, not_false_eq_true] at hc)) | (refine fun (hc : _ = _) => ?_; try (simp (disch := decide) only [up_n, up_s, cp_n, rw_n, rw_s, up1_, if_true, if_false, ite_true, ite_false, reduceIte, eq_self, Int.reduceEq, true_and, and_true, not_true_eq_false, not_false_eq_true] at hc)))
            all_goals (show fr_Call 85 [.inr (.inl 44), .inl b, .inl _, .inr (.inl 45)] sh0 _ _)
            simp (disch := decide) only [up_n, up_s, cp_n, rw_n, rw_s, up1_, if_true, if_false, ite_true, ite_false, reduceIte, eq_self, Int.reduceEq, true_and, and_true, not_true_eq_false, not_false_eq_true]
            refine c_take_45 (by omega) (by omega) (by simp (disch := decide) only [up_n, up_s, cp_n, rw_n, rw_s, up1_, if_true, if_false, ite_true, ite_false, reduceIte, eq_self, Int.reduceEq, true_and, and_true, not_true_eq_false, not_false_eq_true]; omega) (by simp (disch := decide) only [up_n, up_s, cp_n, rw_n, rw_s, up1_, if_true, if_false, ite_true, ite_false, reduceIte, eq_self, Int.reduceEq, true_and, and_true, not_true_eq_false, not_false_eq_true]; omega) ?_
            repeat' (first | (refine And.intro (by first | omega | (simp (disch := decide) only [up_n, up_s, cp_n, rw_n, rw_s, up1_, if_true, if_false, ite_true, ite_false, reduceIte, eq_self, Int.reduceEq, true_and, and_true, not_true_eq_false, not_false_eq_true]; omega)) ?_) | (refine And.intro (fun hc => ?_) (fun hc => ?_) <;> (try (simp (disch := decide) only [up_n, up_s, cp_n, rw_n, rw_s, up1_, if_true, if_false, ite_true, ite_false, reduceIte, eq_self, Int.reduceEq, true_and, and_true, not_true_eq_false, not_false_eq_true] at hc)) <;> (try (exfalso; omega))) | (refine fun (hc : ¬ _) => ?_; try (simp (disch := decide) only [up_n, up_s, cp_n, rw_n, rw_s, up1_, if_true, if_false, ite_true, ite_false, reduceIte, eq_self, Int.reduceEq, true_and, and_true, not_true_eq_false, not_false_eq_true] at hc)) | (refine fun (hc : _ = _) => ?_; try (simp (disch := decide) only [up_n, up_s, cp_n, rw_n, rw_s, up1_, if_true, if_false, ite_true, ite_false, reduceIte, eq_self, Int.reduceEq, true_and, and_true, not_true_eq_false, not_false_eq_true] at hc)))
            show Q (some (.inl _)) sh0 _
            simp (disch := decide) only [up_n, up_s, cp_n, rw_n, rw_s, up1_, if_true, if_false, ite_true, ite_false, reduceIte, eq_self, Int.reduceEq, true_and, and_true, not_true_eq_false, not_false_eq_true]
            simp (disch := decide) only [up_rw, rw_u, up_up, rw_rw, rw_cm]
            exact hh
          · rw [if_neg (by omega)] at hh
            by_cases k255 : tp ch = 255
            · have ew : wy p tp b ch = 1 := by
                unfold wy
                rw [if_neg (by omega), if_neg (by omega), if_pos kk, if_pos k255]
              rw [ew] at hh hwr htk2 htk
              refine fr_cgo k89 [some (.inr (.inl 44)), some (.inl b), some (.inr (.inl 45))] 0 0 [] 400 rfl rfl rfl rfl ?_
              repeat' (first | (refine And.intro (by first | omega | (simp (disch := decide) only [up_n, up_s, cp_n, rw_n, rw_s, up1_, if_true, if_false, ite_true, ite_false, reduceIte, eq_self, Int.reduceEq, true_and, and_true, not_true_eq_false, not_false_eq_true]; omega)) ?_) | (refine And.intro (fun hc => ?_) (fun hc => ?_) <;> (try (simp (disch := decide) only [up_n, up_s, cp_n, rw_n, rw_s, up1_, if_true, if_false, ite_true, ite_false, reduceIte, eq_self, Int.reduceEq, true_and, and_true, not_true_eq_false, not_false_eq_true] at hc)) <;> (try (exfalso; omega))) | (refine fun (hc : ¬ _) => ?_; try (simp (disch := decide) only [up_n, up_s, cp_n, rw_n, rw_s, up1_, if_true, if_false, ite_true, ite_false, reduceIte, eq_self, Int.reduceEq, true_and, and_true, not_true_eq_false, not_false_eq_true] at hc)) | (refine fun (hc : _ = _) => ?_; try (simp (disch := decide) only [up_n, up_s, cp_n, rw_n, rw_s, up1_, if_true, if_false, ite_true, ite_false, reduceIte, eq_self, Int.reduceEq, true_and, and_true, not_true_eq_false, not_false_eq_true] at hc)))
              all_goals first | (exfalso; omega) | skip
              refine c_choose_45 (by simp (disch := decide) only [up_n, up_s, cp_n, rw_n, rw_s, up1_, if_true, if_false, ite_true, ite_false, reduceIte, eq_self, Int.reduceEq, true_and, and_true, not_true_eq_false, not_false_eq_true]; omega) n4 ?_
              simp (disch := decide) only [up_n, up_s, cp_n, rw_n, rw_s, up1_, if_true, if_false, ite_true, ite_false, reduceIte, eq_self, Int.reduceEq, true_and, and_true, not_true_eq_false, not_false_eq_true]
              rw [etp, c1]
              repeat' (first | (refine And.intro (by first | omega | (simp (disch := decide) only [up_n, up_s, cp_n, rw_n, rw_s, up1_, if_true, if_false, ite_true, ite_false, reduceIte, eq_self, Int.reduceEq, true_and, and_true, not_true_eq_false, not_false_eq_true]; omega)) ?_) | (refine c_take_45 (by omega) (by omega) (by simp (disch := decide) only [up_n, up_s, cp_n, rw_n, rw_s, up1_, if_true, if_false, ite_true, ite_false, reduceIte, eq_self, Int.reduceEq, true_and, and_true, not_true_eq_false, not_false_eq_true]; omega) (by simp (disch := decide) only [up_n, up_s, cp_n, rw_n, rw_s, up1_, if_true, if_false, ite_true, ite_false, reduceIte, eq_self, Int.reduceEq, true_and, and_true, not_true_eq_false, not_false_eq_true]; omega) ?_) | (refine And.intro (fun hc => ?_) (fun hc => ?_) <;> (try (simp (disch := decide) only [up_n, up_s, cp_n, rw_n, rw_s, up1_, if_true, if_false, ite_true, ite_false, reduceIte, eq_self, Int.reduceEq, true_and, and_true, not_true_eq_false, not_false_eq_true] at hc)) <;> (try (exfalso; omega))) | (refine fun (hc : ¬ _) => ?_; try (simp (disch := decide) only [up_n, up_s, cp_n, rw_n, rw_s, up1_, if_true, if_false, ite_true, ite_false, reduceIte, eq_self, Int.reduceEq, true_and, and_true, not_true_eq_false, not_false_eq_true] at hc)) | (refine fun (hc : _ = _) => ?_; try (simp (disch := decide) only [up_n, up_s, cp_n, rw_n, rw_s, up1_, if_true, if_false, ite_true, ite_false, reduceIte, eq_self, Int.reduceEq, true_and, and_true, not_true_eq_false, not_false_eq_true] at hc)))
              all_goals first | (exfalso; omega) | skip
              show Q (some (.inl _)) sh0 _
              simp (disch := decide) only [up_n, up_s, cp_n, rw_n, rw_s, up1_, if_true, if_false, ite_true, ite_false, reduceIte, eq_self, Int.reduceEq, true_and, and_true, not_true_eq_false, not_false_eq_true]
              simp (disch := decide) only [up_rw, rw_u, up_up, rw_rw, rw_cm]
              exact hh
            · have ew : wy p tp b ch = 0 := by
                unfold wy
                rw [if_neg (by omega), if_neg (by omega), if_pos kk, if_neg k255]
              rw [ew] at hh hwr htk2 htk
              refine fr_cgo k89 [some (.inr (.inl 44)), some (.inl b), some (.inr (.inl 45))] 0 0 [] 400 rfl rfl rfl rfl ?_
              repeat' (first | (refine And.intro (by first | omega | (simp (disch := decide) only [up_n, up_s, cp_n, rw_n, rw_s, up1_, if_true, if_false, ite_true, ite_false, reduceIte, eq_self, Int.reduceEq, true_and, and_true, not_true_eq_false, not_false_eq_true]; omega)) ?_) | (refine And.intro (fun hc => ?_) (fun hc => ?_) <;> (try (simp (disch := decide) only [up_n, up_s, cp_n, rw_n, rw_s, up1_, if_true, if_false, ite_true, ite_false, reduceIte, eq_self, Int.reduceEq, true_and, and_true, not_true_eq_false, not_false_eq_true] at hc)) <;> (try (exfalso; omega))) | (refine fun (hc : ¬ _) => ?_; try (simp (disch := decide) only [up_n, up_s, cp_n, rw_n, rw_s, up1_, if_true, if_false, ite_true, ite_false, reduceIte, eq_self, Int.reduceEq, true_and, and_true, not_true_eq_false, not_false_eq_true] at hc)) | (refine fun (hc : _ = _) => ?_; try (simp (disch := decide) only [up_n, up_s, cp_n, rw_n, rw_s, up1_, if_true, if_false, ite_true, ite_false, reduceIte, eq_self, Int.reduceEq, true_and, and_true, not_true_eq_false, not_false_eq_true] at hc)))
              all_goals first | (exfalso; omega) | skip
              refine c_choose_45 (by simp (disch := decide) only [up_n, up_s, cp_n, rw_n, rw_s, up1_, if_true, if_false, ite_true, ite_false, reduceIte, eq_self, Int.reduceEq, true_and, and_true, not_true_eq_false, not_false_eq_true]; omega) n4 ?_
              simp (disch := decide) only [up_n, up_s, cp_n, rw_n, rw_s, up1_, if_true, if_false, ite_true, ite_false, reduceIte, eq_self, Int.reduceEq, true_and, and_true, not_true_eq_false, not_false_eq_true]
              rw [etp, c1]
              repeat' (first | (refine And.intro (by first | omega | (simp (disch := decide) only [up_n, up_s, cp_n, rw_n, rw_s, up1_, if_true, if_false, ite_true, ite_false, reduceIte, eq_self, Int.reduceEq, true_and, and_true, not_true_eq_false, not_false_eq_true]; omega)) ?_) | (refine c_take_45 (by omega) (by omega) (by simp (disch := decide) only [up_n, up_s, cp_n, rw_n, rw_s, up1_, if_true, if_false, ite_true, ite_false, reduceIte, eq_self, Int.reduceEq, true_and, and_true, not_true_eq_false, not_false_eq_true]; omega) (by simp (disch := decide) only [up_n, up_s, cp_n, rw_n, rw_s, up1_, if_true, if_false, ite_true, ite_false, reduceIte, eq_self, Int.reduceEq, true_and, and_true, not_true_eq_false, not_false_eq_true]; omega) ?_) | (refine And.intro (fun hc => ?_) (fun hc => ?_) <;> (try (simp (disch := decide) only [up_n, up_s, cp_n, rw_n, rw_s, up1_, if_true, if_false, ite_true, ite_false, reduceIte, eq_self, Int.reduceEq, true_and, and_true, not_true_eq_false, not_false_eq_true] at hc)) <;> (try (exfalso; omega))) | (refine fun (hc : ¬ _) => ?_; try (simp (disch := decide) only [up_n, up_s, cp_n, rw_n, rw_s, up1_, if_true, if_false, ite_true, ite_false, reduceIte, eq_self, Int.reduceEq, true_and, and_true, not_true_eq_false, not_false_eq_true] at hc)) | (refine fun (hc : _ = _) => ?_; try (simp (disch := decide) only [up_n, up_s, cp_n, rw_n, rw_s, up1_, if_true, if_false, ite_true, ite_false, reduceIte, eq_self, Int.reduceEq, true_and, and_true, not_true_eq_false, not_false_eq_true] at hc)))
              all_goals first | (exfalso; omega) | skip
              show Q (some (.inl _)) sh0 _
              simp (disch := decide) only [up_n, up_s, cp_n, rw_n, rw_s, up1_, if_true, if_false, ite_true, ite_false, reduceIte, eq_self, Int.reduceEq, true_and, and_true, not_true_eq_false, not_false_eq_true]
              simp (disch := decide) only [up_rw, rw_u, up_up, rw_rw, rw_cm]
              exact hh
        · rw [z2]
          split
          · exact c1
          · rfl
        · rw [z3]
          split
          · exact c2
          · exact c2
        · rw [z4]
          split
          · exact c3
          · exact c3
        · split
          · rfl
          · rw [up1_, if_neg q3]
set_option maxHeartbeats 4000000 in
set_option maxRecDepth 100000 in
theorem c_take_59 {N : fr_M} {b w : Int} {Q : Option fr_V → fr_H → fr_M → Prop} (hb : 0 ≤ b ∧ b < 40) (hw : 0 ≤ w ∧ w < 4) (hn : w < N 8 b) (ht : 0 ≤ N 62 (b * 4 + w) ∧ N 62 (b * 4 + w) ≤ 1000) (h : Q (some (.inl (N 11 (b * 4 + w)))) sh0 (fr_up N 62 (b * 4 + w) (N 62 (b * 4 + w) + 1))) : fr_Call 85 [.inr (.inl 44), .inl b, .inl w, .inr (.inl 59)] sh0 N Q := by
  refine fr_cgo k85 [some (.inr (.inl 44)), some (.inl b), some (.inl w), some (.inr (.inl 59))] 0 0 [] 400 rfl rfl rfl rfl ?_
  repeat' (first | (refine And.intro (by first | omega | (simp (disch := decide) only [up_n, up_s, cp_n, rw_n, rw_s, up1_, if_true, if_false, ite_true, ite_false, reduceIte, eq_self, Int.reduceEq, true_and, and_true, not_true_eq_false, not_false_eq_true]; omega)) ?_) | (refine c_wayOf (by omega) (by omega) (fun hc => ?_) (fun hc => ?_) <;> (try (simp (disch := decide) only [up_n, up_s, cp_n, rw_n, rw_s, up1_, if_true, if_false, ite_true, ite_false, reduceIte, eq_self, Int.reduceEq, true_and, and_true, not_true_eq_false, not_false_eq_true] at hc))) | (refine And.intro (fun hc => ?_) (fun hc => ?_) <;> (try (simp (disch := decide) only [up_n, up_s, cp_n, rw_n, rw_s, up1_, if_true, if_false, ite_true, ite_false, reduceIte, eq_self, Int.reduceEq, true_and, and_true, not_true_eq_false, not_false_eq_true] at hc)) <;> (try (exfalso; omega))) | (refine fun (hc : ¬ _) => ?_; try (simp (disch := decide) only [up_n, up_s, cp_n, rw_n, rw_s, up1_, if_true, if_false, ite_true, ite_false, reduceIte, eq_self, Int.reduceEq, true_and, and_true, not_true_eq_false, not_false_eq_true] at hc)) | (refine fun (hc : _ = _) => ?_; try (simp (disch := decide) only [up_n, up_s, cp_n, rw_n, rw_s, up1_, if_true, if_false, ite_true, ite_false, reduceIte, eq_self, Int.reduceEq, true_and, and_true, not_true_eq_false, not_false_eq_true] at hc)))
  all_goals first | (exfalso; omega) | exact h
set_option maxHeartbeats 4000000 in
set_option maxRecDepth 100000 in
theorem c_after_59 {N p : fr_M} {tp : Int → Int} {b ch : Int} {st : List Int} {mo : Int} {tk : Int → Int} {jm tj ts : Int} {k : Nat} {g gt gc gr : Int → Int} {Q : Option fr_V → fr_H → fr_M → Prop} (hw : WF p) (hN : RN p tp N) (hS : SI p k (b, ch, st, mo, tk, jm, tj, ts)) (hk : k ≤ 200) (h0 : 0 ≤ b) (hC : CR g gt gc (b, ch, st, mo, tk, jm, tj, ts)) (h : ∀ g' gt' gc' gr', CR g' gt' gc' (stp p tp (b, ch, st, mo, tk, jm, tj, ts)) → (∀ i, i ≠ 1 → i ≠ 3 → i ≠ 4 → i ≠ 5 → g' i = g i) → ((stp p tp (b, ch, st, mo, tk, jm, tj, ts)).1 < 0 → g' 1 = -1 - (stp p tp (b, ch, st, mo, tk, jm, tj, ts)).1) → Q (some (.inl (if (stp p tp (b, ch, st, mo, tk, jm, tj, ts)).1 < 0 then -1 else (stp p tp (b, ch, st, mo, tk, jm, tj, ts)).1))) sh0 (rw_ (rw_ (rw_ (rw_ N 59 g') 62 gt') 63 gc') 64 gr')) : fr_Call 89 [.inr (.inl 44), .inl b, .inr (.inl 59)] sh0 (rw_ (rw_ (rw_ (rw_ N 59 g) 62 gt) 63 gc) 64 gr) Q := by
  obtain ⟨s1, s2, s3, s4, s5, s6, s7, s8, s9⟩ := hS
  have hb : 0 ≤ b ∧ b < p 75 4 := ⟨h0, s1.2⟩
  have h40 := hw.1.1
  replace s2 : 0 ≤ ch ∧ ch ≤ (k : Int) := s2
  replace s4 : st.length ≤ 8 := s4
  replace s5 : 0 ≤ mo ∧ mo ≤ 8 := s5
  replace s6 : ∀ i, 0 ≤ tk i ∧ tk i ≤ (k : Int) := s6
  clear s1 s7 s8 s9
  obtain ⟨n1, n2, n3, n4, n5⟩ := hN
  obtain ⟨c1, c2, c3, c4, c5⟩ := hC
  replace c1 : g 3 = ch := c1
  replace c2 : g 4 = (st.length : Int) := c2
  replace c3 : g 5 = mo := c3
  replace c4 : ∀ i, 0 ≤ i → i < 160 → gt i = tk i := c4
  replace c5 : ∀ (j : Nat) (x : Int), st[j]? = some x → gc ((st.length : Int) - 1 - (j : Int)) = x := c5
  obtain ⟨e7, e8⟩ := n1 b hb.1 hb.2
  obtain ⟨w1', w2', w3', w4', w5', w6', w7', w8'⟩ := hw.2.2.2.2.2.1 b hb.1 hb.2
  have hwy := hw.2.2.2.2.2.2
  have e7' : rw_ (rw_ (rw_ (rw_ N 59 g) 62 gt) 63 gc) 64 gr 7 b = p 82 b := e7
  by_cases k1 : p 82 b = 1
  · have es : stp p tp (b, ch, st, mo, tk, jm, tj, ts) = (-2, ch, st, mo, tk, jm, tj, ts) := by
      simp only [stp, if_pos k1]
    rw [es] at h
    have hh := h (up1 g 1 1) gt gc gr ⟨c1, c2, c3, c4, c5⟩ (fun i q1 q3 q4 q5 => by rw [up1_, if_neg q1]) (fun _ => rfl)
    rw [if_pos (show (-2 : Int) < 0 by omega)] at hh
    clear h n1 n2 n3 n4 n5 c4 c5 hwy
    refine fr_cgo k89 [some (.inr (.inl 44)), some (.inl b), some (.inr (.inl 59))] 0 0 [] 400 rfl rfl rfl rfl ?_
    repeat' (first | (refine And.intro (by first | omega | (simp (disch := decide) only [up_n, up_s, cp_n, rw_n, rw_s, up1_, if_true, if_false, ite_true, ite_false, reduceIte, eq_self, Int.reduceEq, true_and, and_true, not_true_eq_false, not_false_eq_true]; omega)) ?_) | (refine c_stop_59 ?_) | (refine And.intro (fun hc => ?_) (fun hc => ?_) <;> (try (simp (disch := decide) only [up_n, up_s, cp_n, rw_n, rw_s, up1_, if_true, if_false, ite_true, ite_false, reduceIte, eq_self, Int.reduceEq, true_and, and_true, not_true_eq_false, not_false_eq_true] at hc)) <;> (try (exfalso; omega))) | (refine fun (hc : ¬ _) => ?_; try (simp (disch := decide) only [up_n, up_s, cp_n, rw_n, rw_s, up1_, if_true, if_false, ite_true, ite_false, reduceIte, eq_self, Int.reduceEq, true_and, and_true, not_true_eq_false, not_false_eq_true] at hc)) | (refine fun (hc : _ = _) => ?_; try (simp (disch := decide) only [up_n, up_s, cp_n, rw_n, rw_s, up1_, if_true, if_false, ite_true, ite_false, reduceIte, eq_self, Int.reduceEq, true_and, and_true, not_true_eq_false, not_false_eq_true] at hc)))
    all_goals first | (exfalso; omega) | skip
    show Q (some (.inl _)) sh0 _
    simp (disch := decide) only [up_rw, rw_u, up_up, rw_rw, rw_cm]
    exact hh
  · by_cases k5 : p 82 b = 5
    · by_cases k8 : st.length = 8
      · have es : stp p tp (b, ch, st, mo, tk, jm, tj, ts) = (-3, ch, st, mo, tk, jm, tj, ts) := by
          simp only [stp, if_neg k1, if_pos k5, if_pos k8]
        rw [es] at h
        have hh := h (up1 g 1 2) gt gc gr ⟨c1, c2, c3, c4, c5⟩ (fun i q1 q3 q4 q5 => by rw [up1_, if_neg q1]) (fun _ => rfl)
        rw [if_pos (show (-3 : Int) < 0 by omega)] at hh
        clear h n1 n2 n3 n4 n5 c4 c5 hwy
        refine fr_cgo k89 [some (.inr (.inl 44)), some (.inl b), some (.inr (.inl 59))] 0 0 [] 400 rfl rfl rfl rfl ?_
        repeat' (first | (refine And.intro (by first | omega | (simp (disch := decide) only [up_n, up_s, cp_n, rw_n, rw_s, up1_, if_true, if_false, ite_true, ite_false, reduceIte, eq_self, Int.reduceEq, true_and, and_true, not_true_eq_false, not_false_eq_true]; omega)) ?_) | (refine c_open_59 (by simp (disch := decide) only [up_n, up_s, cp_n, rw_n, rw_s, up1_, if_true, if_false, ite_true, ite_false, reduceIte, eq_self, Int.reduceEq, true_and, and_true, not_true_eq_false, not_false_eq_true]; omega) (fun hc => ?_) (fun hc => ?_) <;> (try (simp (disch := decide) only [up_n, up_s, cp_n, rw_n, rw_s, up1_, if_true, if_false, ite_true, ite_false, reduceIte, eq_self, Int.reduceEq, true_and, and_true, not_true_eq_false, not_false_eq_true] at hc))) | (refine c_stop_59 ?_) | (refine And.intro (fun hc => ?_) (fun hc => ?_) <;> (try (simp (disch := decide) only [up_n, up_s, cp_n, rw_n, rw_s, up1_, if_true, if_false, ite_true, ite_false, reduceIte, eq_self, Int.reduceEq, true_and, and_true, not_true_eq_false, not_false_eq_true] at hc)) <;> (try (exfalso; omega))) | (refine fun (hc : ¬ _) => ?_; try (simp (disch := decide) only [up_n, up_s, cp_n, rw_n, rw_s, up1_, if_true, if_false, ite_true, ite_false, reduceIte, eq_self, Int.reduceEq, true_and, and_true, not_true_eq_false, not_false_eq_true] at hc)) | (refine fun (hc : _ = _) => ?_; try (simp (disch := decide) only [up_n, up_s, cp_n, rw_n, rw_s, up1_, if_true, if_false, ite_true, ite_false, reduceIte, eq_self, Int.reduceEq, true_and, and_true, not_true_eq_false, not_false_eq_true] at hc)))
        all_goals first | (exfalso; omega) | (exfalso; simp (disch := decide) only [up_n, up_s, cp_n, rw_n, rw_s, up1_, if_true, if_false, ite_true, ite_false, reduceIte, eq_self, Int.reduceEq, true_and, and_true, not_true_eq_false, not_false_eq_true] at *; omega) | skip
        show Q (some (.inl _)) sh0 _
        simp (disch := decide) only [up_rw, rw_u, up_up, rw_rw, rw_cm]
        exact hh
      · have es : stp p tp (b, ch, st, mo, tk, jm, tj, ts) = (p 77 (9 * p 86 b), ch, b :: st, max mo ((st.length : Int) + 1), tk, jm, tj, ts) := by
          simp only [stp, if_neg k1, if_pos k5, if_neg k8]
        rw [es] at h
        have hcal := w8' k5
        obtain ⟨e9, e3⟩ := n3 b hb.1 hb.2 k5
        have e3' : N 3 (N 9 b * 9 + 0) = p 77 (9 * p 86 b) := by rw [e9]; exact e3
        have hh := h (up1 (up1 g 4 ((st.length : Int) + 1)) 5 (max mo ((st.length : Int) + 1))) gt (up1 gc (st.length : Int) b) (up1 gr (st.length : Int) 0) ⟨c1, by show (st.length : Int) + 1 = ((b :: st).length : Int); simp, rfl, c4, fun j x hx => ?_⟩ (fun i q1 q3 q4 q5 => by rw [up1_, if_neg q5, up1_, if_neg q4]) (fun q => by
          have q : p 77 (9 * p 86 b) < 0 := q
          omega)
        · rw [if_neg (show ¬ p 77 (9 * p 86 b) < 0 by omega)] at hh
          rw [← e3'] at hh
          clear h n1 n2 n3 n5 c4 c5 hwy
          have hmo : max (g 5) (g 4 + 1) = max mo ((st.length : Int) + 1) := by rw [c3, c2]
          rw [← hmo, ← c2] at hh
          refine fr_cgo k89 [some (.inr (.inl 44)), some (.inl b), some (.inr (.inl 59))] 0 0 [] 400 rfl rfl rfl rfl ?_
          repeat' (first | (refine And.intro (by first | omega | (simp (disch := decide) only [up_n, up_s, cp_n, rw_n, rw_s, up1_, if_true, if_false, ite_true, ite_false, reduceIte, eq_self, Int.reduceEq, true_and, and_true, not_true_eq_false, not_false_eq_true]; omega)) ?_) | (refine c_open_59 (by simp (disch := decide) only [up_n, up_s, cp_n, rw_n, rw_s, up1_, if_true, if_false, ite_true, ite_false, reduceIte, eq_self, Int.reduceEq, true_and, and_true, not_true_eq_false, not_false_eq_true]; omega) (fun hc => ?_) (fun hc => ?_) <;> (try (simp (disch := decide) only [up_n, up_s, cp_n, rw_n, rw_s, up1_, if_true, if_false, ite_true, ite_false, reduceIte, eq_self, Int.reduceEq, true_and, and_true, not_true_eq_false, not_false_eq_true] at hc))) | (refine c_ownBlock (by simp (disch := decide) only [up_n, up_s, cp_n, rw_n, rw_s, up1_, if_true, if_false, ite_true, ite_false, reduceIte, eq_self, Int.reduceEq, true_and, and_true, not_true_eq_false, not_false_eq_true]; omega) (by omega) ?_) | (refine And.intro (fun hc => ?_) (fun hc => ?_) <;> (try (simp (disch := decide) only [up_n, up_s, cp_n, rw_n, rw_s, up1_, if_true, if_false, ite_true, ite_false, reduceIte, eq_self, Int.reduceEq, true_and, and_true, not_true_eq_false, not_false_eq_true] at hc)) <;> (try (exfalso; omega))) | (refine fun (hc : ¬ _) => ?_; try (simp (disch := decide) only [up_n, up_s, cp_n, rw_n, rw_s, up1_, if_true, if_false, ite_true, ite_false, reduceIte, eq_self, Int.reduceEq, true_and, and_true, not_true_eq_false, not_false_eq_true] at hc)) | (refine fun (hc : _ = _) => ?_; try (simp (disch := decide) only [up_n, up_s, cp_n, rw_n, rw_s, up1_, if_true, if_false, ite_true, ite_false, reduceIte, eq_self, Int.reduceEq, true_and, and_true, not_true_eq_false, not_false_eq_true] at hc)))
          all_goals first | (exfalso; omega) | (exfalso; simp (disch := decide) only [up_n, up_s, cp_n, rw_n, rw_s, up1_, if_true, if_false, ite_true, ite_false, reduceIte, eq_self, Int.reduceEq, true_and, and_true, not_true_eq_false, not_false_eq_true] at *; omega) | skip
          show Q (some (.inl _)) sh0 _
          simp (disch := decide) only [up_n, up_s, cp_n, rw_n, rw_s, up1_, if_true, if_false, ite_true, ite_false, reduceIte, eq_self, Int.reduceEq, true_and, and_true, not_true_eq_false, not_false_eq_true]
          simp (disch := decide) only [up_rw, rw_u, up_up, rw_rw, rw_cm]
          exact hh
        · show up1 gc (st.length : Int) b (((b :: st).length : Int) - 1 - (j : Int)) = x
          rw [up1_]
          cases j with
          | zero =>
            have hx : b = x := by simpa using hx
            rw [if_pos (by simp), hx]
          | succ j =>
            have hx : st[j]? = some x := by simpa using hx
            have hj := (List.getElem?_eq_some_iff.mp hx).1
            have := c5 j x hx
            have el : (((b :: st).length : Nat) : Int) = (st.length : Int) + 1 := by simp
            rw [el, if_neg (by omega), show (st.length : Int) + 1 - 1 - ((j + 1 : Nat) : Int) = (st.length : Int) - 1 - (j : Int) by omega]
            exact this
    · by_cases k0 : p 82 b = 0
      · cases st with
        | nil =>
          have es : stp p tp (b, ch, [], mo, tk, jm, tj, ts) = (-1, ch, [], mo, tk, jm, tj, ts) := by
            simp only [stp, if_neg k1, if_neg k5, if_pos k0]
          rw [es] at h
          have hh := h (up1 g 1 0) gt gc gr ⟨c1, c2, c3, c4, c5⟩ (fun i q1 q3 q4 q5 => by rw [up1_, if_neg q1]) (fun _ => rfl)
          rw [if_pos (show (-1 : Int) < 0 by omega)] at hh
          replace c2 : g 4 = 0 := c2
          clear h n1 n2 n3 n4 n5 c4 c5 hwy
          refine fr_cgo k89 [some (.inr (.inl 44)), some (.inl b), some (.inr (.inl 59))] 0 0 [] 400 rfl rfl rfl rfl ?_
          repeat' (first | (refine And.intro (by first | omega | (simp (disch := decide) only [up_n, up_s, cp_n, rw_n, rw_s, up1_, if_true, if_false, ite_true, ite_false, reduceIte, eq_self, Int.reduceEq, true_and, and_true, not_true_eq_false, not_false_eq_true]; omega)) ?_) | (refine And.intro (fun hc => ?_) (fun hc => ?_) <;> (try (simp (disch := decide) only [up_n, up_s, cp_n, rw_n, rw_s, up1_, if_true, if_false, ite_true, ite_false, reduceIte, eq_self, Int.reduceEq, true_and, and_true, not_true_eq_false, not_false_eq_true] at hc)) <;> (try (exfalso; omega))) | (refine fun (hc : ¬ _) => ?_; try (simp (disch := decide) only [up_n, up_s, cp_n, rw_n, rw_s, up1_, if_true, if_false, ite_true, ite_false, reduceIte, eq_self, Int.reduceEq, true_and, and_true, not_true_eq_false, not_false_eq_true] at hc)) | (refine fun (hc : _ = _) => ?_; try (simp (disch := decide) only [up_n, up_s, cp_n, rw_n, rw_s, up1_, if_true, if_false, ite_true, ite_false, reduceIte, eq_self, Int.reduceEq, true_and, and_true, not_true_eq_false, not_false_eq_true] at hc)))
          all_goals first | (exfalso; omega) | skip
          refine fr_cgo k88 [some (.inr (.inl 44)), some (.inr (.inl 59))] 0 0 [] 400 rfl rfl rfl rfl ?_
          repeat' (first | (refine And.intro (by first | omega | (simp (disch := decide) only [up_n, up_s, cp_n, rw_n, rw_s, up1_, if_true, if_false, ite_true, ite_false, reduceIte, eq_self, Int.reduceEq, true_and, and_true, not_true_eq_false, not_false_eq_true]; omega)) ?_) | (refine c_stop_59 ?_) | (refine And.intro (fun hc => ?_) (fun hc => ?_) <;> (try (simp (disch := decide) only [up_n, up_s, cp_n, rw_n, rw_s, up1_, if_true, if_false, ite_true, ite_false, reduceIte, eq_self, Int.reduceEq, true_and, and_true, not_true_eq_false, not_false_eq_true] at hc)) <;> (try (exfalso; omega))) | (refine fun (hc : ¬ _) => ?_; try (simp (disch := decide) only [up_n, up_s, cp_n, rw_n, rw_s, up1_, if_true, if_false, ite_true, ite_false, reduceIte, eq_self, Int.reduceEq, true_and, and_true, not_true_eq_false, not_false_eq_true] at hc)) | (refine fun (hc : _ = _) => ?_; try (simp (disch := decide) only [up_n, up_s, cp_n, rw_n, rw_s, up1_, if_true, if_false, ite_true, ite_false, reduceIte, eq_self, Int.reduceEq, true_and, and_true, not_true_eq_false, not_false_eq_true] at hc)))
          all_goals first | (exfalso; omega) | (exfalso; simp (disch := decide) only [up_n, up_s, cp_n, rw_n, rw_s, up1_, if_true, if_false, ite_true, ite_false, reduceIte, eq_self, Int.reduceEq, true_and, and_true, not_true_eq_false, not_false_eq_true] at *; omega) | skip
          show Q (some (.inl _)) sh0 _
          simp (disch := decide) only [up_rw, rw_u, up_up, rw_rw, rw_cm]
          exact hh
        | cons f r =>
          have hf := s3 f (List.mem_cons_self ..)
          have hn := (hw.2.2.2.2.2.1 f hf.1.1 hf.1.2).2.2.2.2.1 (Or.inr hf.2)
          have hq := hwy f 0 hf.1.1 hf.1.2 (by omega) (by omega)
          have e11 := n2 f 0 hf.1.1 hf.1.2 (by omega) (by omega)
          have e8f := (n1 f hf.1.1 hf.1.2).2
          have ef := c5 0 f (by simp)
          have el : (((f :: r).length : Nat) : Int) = (r.length : Int) + 1 := by simp
          rw [el] at c2 ef
          rw [show (r.length : Int) + 1 - 1 - ((0 : Nat) : Int) = (r.length : Int) by omega] at ef
          rw [List.length_cons] at s4
          have es : (stp p tp (b, ch, f :: r, mo, tk, jm, tj, ts)).1 = p 84 (4 * f + 0) ∧ (stp p tp (b, ch, f :: r, mo, tk, jm, tj, ts)).2.1 = ch ∧ (stp p tp (b, ch, f :: r, mo, tk, jm, tj, ts)).2.2.1 = r ∧ (stp p tp (b, ch, f :: r, mo, tk, jm, tj, ts)).2.2.2.1 = mo ∧ (stp p tp (b, ch, f :: r, mo, tk, jm, tj, ts)).2.2.2.2.1 = up1 tk (4 * f + 0) (tk (4 * f + 0) + 1) := by
            simp only [stp, if_neg k1, if_neg k5, if_pos k0, tkw]
            exact ⟨trivial, trivial, trivial, trivial, trivial⟩
          obtain ⟨z1, z2, z3, z4, z5⟩ := es
          have htk := s6 (4 * f + 0)
          have hgt := c4 (f * 4 + 0) (by omega) (by omega)
          have hh := h (up1 g 4 (r.length : Int)) (up1 gt (f * 4 + 0) (gt (f * 4 + 0) + 1)) gc gr ⟨by rw [z2]; exact c1, by rw [z3]; rfl, by rw [z4]; exact c3, by rw [z5]; exact gt_up c4 (by omega) (by omega), fun j x hx => ?_⟩ (fun i q1 q3 q4 q5 => by rw [up1_, if_neg q4]) (fun q => by rw [z1] at q; omega)
          · rw [z1, if_neg (by omega), ← e11] at hh
            have htk2 : gt (f * 4 + 0) = tk (4 * f + 0) := by rw [hgt]; congr 1; omega
            clear h n1 n2 n3 n4 n5 c4 c5 hwy
            have ef' : gc (g 4 - 1) = f := by rw [c2, show (r.length : Int) + 1 - 1 = (r.length : Int) by omega]; exact ef
            rw [show (r.length : Int) = g 4 - 1 by omega] at hh
            refine fr_cgo k89 [some (.inr (.inl 44)), some (.inl b), some (.inr (.inl 59))] 0 0 [] 400 rfl rfl rfl rfl ?_
            repeat' (first | (refine And.intro (by first | omega | (simp (disch := decide) only [up_n, up_s, cp_n, rw_n, rw_s, up1_, if_true, if_false, ite_true, ite_false, reduceIte, eq_self, Int.reduceEq, true_and, and_true, not_true_eq_false, not_false_eq_true]; omega)) ?_) | (refine And.intro (fun hc => ?_) (fun hc => ?_) <;> (try (simp (disch := decide) only [up_n, up_s, cp_n, rw_n, rw_s, up1_, if_true, if_false, ite_true, ite_false, reduceIte, eq_self, Int.reduceEq, true_and, and_true, not_true_eq_false, not_false_eq_true] at hc)) <;> (try (exfalso; omega))) | (refine fun (hc : ¬ _) => ?_; try (simp (disch := decide) only [up_n, up_s, cp_n, rw_n, rw_s, up1_, if_true, if_false, ite_true, ite_false, reduceIte, eq_self, Int.reduceEq, true_and, and_true, not_true_eq_false, not_false_eq_true] at hc)) | (refine fun (hc : _ = _) => ?_; try (simp (disch := decide) only [up_n, up_s, cp_n, rw_n, rw_s, up1_, if_true, if_false, ite_true, ite_false, reduceIte, eq_self, Int.reduceEq, true_and, and_true, not_true_eq_false, not_false_eq_true] at hc)))
            all_goals first | (exfalso; omega) | skip
            refine fr_cgo k88 [some (.inr (.inl 44)), some (.inr (.inl 59))] 0 0 [] 400 rfl rfl rfl rfl ?_
            repeat' (first | (refine And.intro (by first | omega | (simp (disch := decide) only [up_n, up_s, cp_n, rw_n, rw_s, up1_, if_true, if_false, ite_true, ite_false, reduceIte, eq_self, Int.reduceEq, true_and, and_true, not_true_eq_false, not_false_eq_true]; omega)) ?_) | (refine And.intro (fun hc => ?_) (fun hc => ?_) <;> (try (simp (disch := decide) only [up_n, up_s, cp_n, rw_n, rw_s, up1_, if_true, if_false, ite_true, ite_false, reduceIte, eq_self, Int.reduceEq, true_and, and_true, not_true_eq_false, not_false_eq_true] at hc)) <;> (try (exfalso; omega))) | (refine fun (hc : ¬ _) => ?_; try (simp (disch := decide) only [up_n, up_s, cp_n, rw_n, rw_s, up1_, if_true, if_false, ite_true, ite_false, reduceIte, eq_self, Int.reduceEq, true_and, and_true, not_true_eq_false, not_false_eq_true] at hc)) | (refine fun (hc : _ = _) => ?_; try (simp (disch := decide) only [up_n, up_s, cp_n, rw_n, rw_s, up1_, if_true, if_false, ite_true, ite_false, reduceIte, eq_self, Int.reduceEq, true_and, and_true, not_true_eq_false, not_false_eq_true] at hc)))
            all_goals first | (exfalso; omega) | (exfalso; simp (disch := decide) only [up_n, up_s, cp_n, rw_n, rw_s, up1_, if_true, if_false, ite_true, ite_false, reduceIte, eq_self, Int.reduceEq, true_and, and_true, not_true_eq_false, not_false_eq_true] at *; omega) | skip
            all_goals (show fr_Call 85 [.inr (.inl 44), .inl _, .inl 0, .inr (.inl 59)] sh0 _ _)
            simp (disch := decide) only [up_n, up_s, cp_n, rw_n, rw_s, up1_, if_true, if_false, ite_true, ite_false, reduceIte, eq_self, Int.reduceEq, true_and, and_true, not_true_eq_false, not_false_eq_true]
            rw [ef']
            refine c_take_59 (by omega) (by omega) (by simp (disch := decide) only [up_n, up_s, cp_n, rw_n, rw_s, up1_, if_true, if_false, ite_true, ite_false, reduceIte, eq_self, Int.reduceEq, true_and, and_true, not_true_eq_false, not_false_eq_true]; omega) (by simp (disch := decide) only [up_n, up_s, cp_n, rw_n, rw_s, up1_, if_true, if_false, ite_true, ite_false, reduceIte, eq_self, Int.reduceEq, true_and, and_true, not_true_eq_false, not_false_eq_true]; omega) ?_
            repeat' (first | (refine And.intro (by first | omega | (simp (disch := decide) only [up_n, up_s, cp_n, rw_n, rw_s, up1_, if_true, if_false, ite_true, ite_false, reduceIte, eq_self, Int.reduceEq, true_and, and_true, not_true_eq_false, not_false_eq_true]; omega)) ?_) | (refine And.intro (fun hc => ?_) (fun hc => ?_) <;> (try (simp (disch := decide) only [up_n, up_s, cp_n, rw_n, rw_s, up1_, if_true, if_false, ite_true, ite_false, reduceIte, eq_self, Int.reduceEq, true_and, and_true, not_true_eq_false, not_false_eq_true] at hc)) <;> (try (exfalso; omega))) | (refine fun (hc : ¬ _) => ?_; try (simp (disch := decide) only [up_n, up_s, cp_n, rw_n, rw_s, up1_, if_true, if_false, ite_true, ite_false, reduceIte, eq_self, Int.reduceEq, true_and, and_true, not_true_eq_false, not_false_eq_true] at hc)) | (refine fun (hc : _ = _) => ?_; try (simp (disch := decide) only [up_n, up_s, cp_n, rw_n, rw_s, up1_, if_true, if_false, ite_true, ite_false, reduceIte, eq_self, Int.reduceEq, true_and, and_true, not_true_eq_false, not_false_eq_true] at hc)))
            show Q (some (.inl _)) sh0 _
            simp (disch := decide) only [up_n, up_s, cp_n, rw_n, rw_s, up1_, if_true, if_false, ite_true, ite_false, reduceIte, eq_self, Int.reduceEq, true_and, and_true, not_true_eq_false, not_false_eq_true]
            simp (disch := decide) only [up_rw, rw_u, up_up, rw_rw, rw_cm]
            exact hh
          · rw [z3] at hx ⊢
            have := c5 (j + 1) x (by simpa using hx)
            rw [el, show (r.length : Int) + 1 - 1 - ((j + 1 : Nat) : Int) = (r.length : Int) - 1 - (j : Int) by omega] at this
            exact this
      · have ht := n5 ch s2.1
        have hwr : 0 ≤ wy p tp b ch ∧ wy p tp b ch < p 83 b ∧ wy p tp b ch < 4 := by
          unfold wy
          split
          · omega
          · split
            · next q =>
              have := w7' q
              have a := Int.emod_nonneg (tp ch) (show p 83 b ≠ 0 by omega)
              have c := Int.emod_lt_of_pos (tp ch) (show 0 < p 83 b by omega)
              omega
            · split
              · split <;> omega
              · omega
        have hq := hwy b _ hb.1 hb.2 hwr.1 hwr.2.1
        have e11 := n2 b _ hb.1 hb.2 hwr.1 hwr.2.1
        have es : (stp p tp (b, ch, st, mo, tk, jm, tj, ts)).1 = p 84 (4 * b + wy p tp b ch) ∧ (stp p tp (b, ch, st, mo, tk, jm, tj, ts)).2.1 = (if p 82 b = 2 then ch else ch + 1) ∧ (stp p tp (b, ch, st, mo, tk, jm, tj, ts)).2.2.1 = st ∧ (stp p tp (b, ch, st, mo, tk, jm, tj, ts)).2.2.2.1 = mo ∧ (stp p tp (b, ch, st, mo, tk, jm, tj, ts)).2.2.2.2.1 = up1 tk (4 * b + wy p tp b ch) (tk (4 * b + wy p tp b ch) + 1) := by
          simp only [stp, if_neg k1, if_neg k5, if_neg k0, tkw]
          exact ⟨trivial, trivial, trivial, trivial, trivial⟩
        obtain ⟨z1, z2, z3, z4, z5⟩ := es
        have htk := s6 (4 * b + wy p tp b ch)
        have hgt := c4 (b * 4 + wy p tp b ch) (by omega) (by omega)
        have htk2 : gt (b * 4 + wy p tp b ch) = tk (4 * b + wy p tp b ch) := by rw [hgt]; congr 1; omega
        have hh := h (if p 82 b = 2 then g else up1 g 3 (ch + 1)) (up1 gt (b * 4 + wy p tp b ch) (gt (b * 4 + wy p tp b ch) + 1)) gc gr ⟨?_, ?_, ?_, by rw [z5]; exact gt_up c4 (by omega) (by omega), by rw [z3]; exact c5⟩ (fun i q1 q3 q4 q5 => ?_) (fun q => by rw [z1] at q; omega)
        · rw [z1, if_neg (by omega), ← e11] at hh
          clear h n1 n2 n3 c4 c5 hwy
          have etp : (if g 3 < N 42 1 then N 43 (g 3) % 256 else 0) = tp ch := by rw [c1]; exact ht.1.symm
          rcases (show p 82 b = 2 ∨ p 82 b = 3 ∨ p 82 b = 4 ∨ p 82 b = 6 by omega) with kk | kk | kk | kk
          · have ew : wy p tp b ch = 0 := by
              unfold wy
              rw [if_neg (by omega), if_neg (by omega), if_neg (by omega)]
            rw [if_pos kk, ew] at hh
            rw [ew] at htk2 htk
            refine fr_cgo k89 [some (.inr (.inl 44)), some (.inl b), some (.inr (.inl 59))] 0 0 [] 400 rfl rfl rfl rfl ?_
            repeat' (first | (refine And.intro (by first | omega | (simp (disch := decide) only [up_n, up_s, cp_n, rw_n, rw_s, up1_, if_true, if_false, ite_true, ite_false, reduceIte, eq_self, Int.reduceEq, true_and, and_true, not_true_eq_false, not_false_eq_true]; omega)) ?_) | (refine c_take_59 (by omega) (by omega) (by simp (disch := decide) only [up_n, up_s, cp_n, rw_n, rw_s, up1_, if_true, if_false, ite_true, ite_false, reduceIte, eq_self, Int.reduceEq, true_and, and_true, not_true_eq_false, not_false_eq_true]; omega) (by simp (disch := decide) only [up_n, up_s, cp_n, rw_n, rw_s, up1_, if_true, if_false, ite_true, ite_false, reduceIte, eq_self, Int.reduceEq, true_and, and_true, not_true_eq_false, not_false_eq_true]; omega) ?_) | (refine And.intro (fun hc => ?_) (fun hc => ?_) <;> (try (simp (disch := decide) only [up_n, up_s, cp_n, rw_n, rw_s, up1_, if_true, if_false, ite_true, ite_false, reduceIte, eq_self, Int.reduceEq, true_and, and_true, not_true_eq_false, not_false_eq_true] at hc)) <;> (try (exfalso; omega))) | (refine fun (hc : ¬ _) => ?_; try (simp (disch := decide) only [up_n, up_s, cp_n, rw_n, rw_s, up1_, if_true, if_false, ite_true, ite_false, reduceIte, eq_self, Int.reduceEq, true_and, and_true, not_true_eq_false, not_false_eq_true] at hc)) | (refine fun (hc : _ = _) => ?_; try (simp (disch := decide) only [up_n, up_s, cp_n, rw_n, rw_s, up1_, if_true, if_false, ite_true, ite_false, reduceIte, eq_self, Int.reduceEq, true_and, and_true, not_true_eq_false, not_false_eq_true] at hc)))
            all_goals first | (exfalso; omega) | (exfalso; simp (disch := decide) only [up_n, up_s, cp_n, rw_n, rw_s, up1_, if_true, if_false, ite_true, ite_false, reduceIte, eq_self, Int.reduceEq, true_and, and_true, not_true_eq_false, not_false_eq_true] at *; omega) | skip
            show Q (some (.inl _)) sh0 _
            simp (disch := decide) only [up_n, up_s, cp_n, rw_n, rw_s, up1_, if_true, if_false, ite_true, ite_false, reduceIte, eq_self, Int.reduceEq, true_and, and_true, not_true_eq_false, not_false_eq_true]
            simp (disch := decide) only [up_rw, rw_u, up_up, rw_rw, rw_cm]
            exact hh
          · have ew : wy p tp b ch = fr_and (tp ch) 1 := by
              unfold wy
              rw [if_pos kk, and_1a]
            rw [if_neg (by omega)] at hh
            rw [ew] at hh hwr htk2 htk
            refine fr_cgo k89 [some (.inr (.inl 44)), some (.inl b), some (.inr (.inl 59))] 0 0 [] 400 rfl rfl rfl rfl ?_
            repeat' (first | (refine And.intro (by first | omega | (simp (disch := decide) only [up_n, up_s, cp_n, rw_n, rw_s, up1_, if_true, if_false, ite_true, ite_false, reduceIte, eq_self, Int.reduceEq, true_and, and_true, not_true_eq_false, not_false_eq_true]; omega)) ?_) | (refine And.intro (fun hc => ?_) (fun hc => ?_) <;> (try (simp (disch := decide) only [up_n, up_s, cp_n, rw_n, rw_s, up1_, if_true, if_false, ite_true, ite_false, reduceIte, eq_self, Int.reduceEq, true_and, and_true, not_true_eq_false, not_false_eq_true] at hc)) <;> (try (exfalso; omega))) | (refine fun (hc : ¬ _) => ?_; try (simp (disch := decide) only [up_n, up_s, cp_n, rw_n, rw_s, up1_, if_true, if_false, ite_true, ite_false, reduceIte, eq_self, Int.reduceEq, true_and, and_true, not_true_eq_false, not_false_eq_true] at hc)) | (refine fun (hc : _ = _) => ?_; try (simp (disch := decide) only [up_n, up_s, cp_n, rw_n, rw_s, up1_, if_true, if_false, ite_true, ite_false, reduceIte, eq_self, Int.reduceEq, true_and, and_true, not_true_eq_false, not_false_eq_true] at hc)))
            all_goals first | (exfalso; omega) | skip
            refine c_choose_59 (by simp (disch := decide) only [up_n, up_s, cp_n, rw_n, rw_s, up1_, if_true, if_false, ite_true, ite_false, reduceIte, eq_self, Int.reduceEq, true_and, and_true, not_true_eq_false, not_false_eq_true]; omega) n4 ?_
            simp (disch := decide) only [up_n, up_s, cp_n, rw_n, rw_s, up1_, if_true, if_false, ite_true, ite_false, reduceIte, eq_self, Int.reduceEq, true_and, and_true, not_true_eq_false, not_false_eq_true]
            rw [etp, c1]
            repeat' (first | (refine And.intro (by first | omega | (simp (disch := decide) only [up_n, up_s, cp_n, rw_n, rw_s, up1_, if_true, if_false, ite_true, ite_false, reduceIte, eq_self, Int.reduceEq, true_and, and_true, not_true_eq_false, not_false_eq_true]; omega)) ?_) | (refine And.intro (fun hc => ?_) (fun hc => ?_) <;> (try (simp (disch := decide) only [up_n, up_s, cp_n, rw_n, rw_s, up1_, if_true, if_false, ite_true, ite_false, reduceIte, eq_self, Int.reduceEq, true_and, and_true, not_true_eq_false, not_false_eq_true] at hc)) <;> (try (exfalso; omega))) | (refine fun (hc : ¬ _) => ?_; try (simp (disch := decide) only [up_n, up_s, cp_n, rw_n, rw_s, up1_, if_true, if_false, ite_true, ite_false, reduceIte, eq_self, Int.reduceEq, true_and, and_true, not_true_eq_false, not_false_eq_true] at hc)) | (refine fun (hc : _ = _) => ?_; try (simp (disch := decide) only [up_n, up_s, cp_n, rw_n, rw_s, up1_, if_true, if_false, ite_true, ite_false, reduceIte, eq_self, Int.reduceEq, true_and, and_true, not_true_eq_false, not_false_eq_true] at hc)))
            refine c_take_59 (by omega) (by omega) (by simp (disch := decide) only [up_n, up_s, cp_n, rw_n, rw_s, up1_, if_true, if_false, ite_true, ite_false, reduceIte, eq_self, Int.reduceEq, true_and, and_true, not_true_eq_false, not_false_eq_true]; omega) (by simp (disch := decide) only [up_n, up_s, cp_n, rw_n, rw_s, up1_, if_true, if_false, ite_true, ite_false, reduceIte, eq_self, Int.reduceEq, true_and, and_true, not_true_eq_false, not_false_eq_true]; omega) ?_
            repeat' (first | (refine And.intro (by first | omega | (simp (disch := decide) only [up_n, up_s, cp_n, rw_n, rw_s, up1_, if_true, if_false, ite_true, ite_false, reduceIte, eq_self, Int.reduceEq, true_and, and_true, not_true_eq_false, not_false_eq_true]; omega)) ?_) | (refine And.intro (fun hc => ?_) (fun hc => ?_) <;> (try (simp (disch := decide) only [up_n, up_s, cp_n, rw_n, rw_s, up1_, if_true, if_false, ite_true, ite_false, reduceIte, eq_self, Int.reduceEq, true_and, and_true, not_true_eq_false, not_false_eq_true] at hc)) <;> (try (exfalso; omega))) | (refine fun (hc : ¬ _) => ?_; try (simp (disch := decide) only [up_n, up_s, cp_n, rw_n, rw_s, up1_, if_true, if_false, ite_true, ite_false, reduceIte, eq_self, Int.reduceEq, true_and, and_true, not_true_eq_false, not_false_eq_true] at hc)) | (refine fun (hc : _ = _) => ?_; try (simp (disch := decide) only [up_n, up_s, cp_n, rw_n, rw_s, up1_, if_true, if_false, ite_true, ite_false, reduceIte, eq_self, Int.reduceEq, true_and, and_true, not_true_eq_false, not_false_eq_true] at hc)))
            show Q (some (.inl _)) sh0 _
            simp (disch := decide) only [up_n, up_s, cp_n, rw_n, rw_s, up1_, if_true, if_false, ite_true, ite_false, reduceIte, eq_self, Int.reduceEq, true_and, and_true, not_true_eq_false, not_false_eq_true]
            simp (disch := decide) only [up_rw, rw_u, up_up, rw_rw, rw_cm]
            exact hh
          · have hn4 := w7' kk
            have ew : wy p tp b ch = tp ch % max 1 (N 8 b) := by
              unfold wy
              rw [if_neg (by omega), if_pos kk, e8, show max 1 (p 83 b) = p 83 b by omega]
            rw [if_neg (by omega)] at hh
            rw [ew] at hh hwr htk2 htk
            refine fr_cgo k89 [some (.inr (.inl 44)), some (.inl b), some (.inr (.inl 59))] 0 0 [] 400 rfl rfl rfl rfl ?_
            repeat' (first | (refine And.intro (by first | omega | (simp (disch := decide) only [up_n, up_s, cp_n, rw_n, rw_s, up1_, if_true, if_false, ite_true, ite_false, reduceIte, eq_self, Int.reduceEq, true_and, and_true, not_true_eq_false, not_false_eq_true]; omega)) ?_) | (refine And.intro (fun hc => ?_) (fun hc => ?_) <;> (try (simp (disch := decide) only [up_n, up_s, cp_n, rw_n, rw_s, up1_, if_true, if_false, ite_true, ite_false, reduceIte, eq_self, Int.reduceEq, true_and, and_true, not_true_eq_false, not_false_eq_true] at hc)) <;> (try (exfalso; omega))) | (refine fun (hc : ¬ _) => ?_; try (simp (disch := decide) only [up_n, up_s, cp_n, rw_n, rw_s, up1_, if_true, if_false, ite_true, ite_false, reduceIte, eq_self, Int.reduceEq, true_and, and_true, not_true_eq_false, not_false_eq_true] at hc)) | (refine fun (hc : _ = _) => ?_; try (simp (disch := decide) only [up_n, up_s, cp_n, rw_n, rw_s, up1_, if_true, if_false, ite_true, ite_false, reduceIte, eq_self, Int.reduceEq, true_and, and_true, not_true_eq_false, not_false_eq_true] at hc)))
            all_goals first | (exfalso; omega) | skip
            refine c_choose_59 (by simp (disch := decide) only [up_n, up_s, cp_n, rw_n, rw_s, up1_, if_true, if_false, ite_true, ite_false, reduceIte, eq_self, Int.reduceEq, true_and, and_true, not_true_eq_false, not_false_eq_true]; omega) n4 ?_
            simp (disch := decide) only [up_n, up_s, cp_n, rw_n, rw_s, up1_, if_true, if_false, ite_true, ite_false, reduceIte, eq_self, Int.reduceEq, true_and, and_true, not_true_eq_false, not_false_eq_true]
            rw [etp, c1]
            repeat' (first | (refine And.intro (by first | omega | (simp (disch := decide) only [up_n, up_s, cp_n, rw_n, rw_s, up1_, if_true, if_false, ite_true, ite_false, reduceIte, eq_self, Int.reduceEq, true_and, and_true, not_true_eq_false, not_false_eq_true]; omega)) ?_) | (refine And.intro (fun hc => ?_) (fun hc => ?_) <;> (try (simp (disch := decide) only [up_n, up_s, cp_n, rw_n, rw_s, up1_, if_true, if_false, ite_true, ite_false, reduceIte, eq_self, Int.reduceEq, true_and, and_true, not_true_eq_false, not_false_eq_true] at hc)) <;> (try (exfalso; omega))) | (refine fun (hc : ¬ _) => ?_; try (simp (disch := decide) only [up_n, up_s, cp_n, rw_n, rw_s, up1_, if_true, if_false, ite_true, ite_false, reduceIte, eq_self, Int.reduceEq, true_and, and_true, not_true_eq_false, not_false_eq_true] at hc)) | (refine fun (hc : _ = _) => ?_; try (simp (disch := decide) only [up_n, up_s, cp_n, rw_n, rw_s, up1_, if_true, if_false, ite_true, ite_false, reduceIte, eq_self, Int.reduceEq, true_and, and_true, not_true_eq_false, not_false_eq_true] at hc)))
            all_goals (show fr_Call 85 [.inr (.inl 44), .inl b, .inl _, .inr (.inl 59)] sh0 _ _)
            simp (disch := decide) only [up_n, up_s, cp_n, rw_n, rw_s, up1_, if_true, if_false, ite_true, ite_false, reduceIte, eq_self, Int.reduceEq, true_and, and_true, not_true_eq_false, not_false_eq_true]
            refine c_take_59 (by omega) (by omega) (by simp (disch := decide) only [up_n, up_s, cp_n, rw_n, rw_s, up1_, if_true, if_false, ite_true, ite_false, reduceIte, eq_self, Int.reduceEq, true_and, and_true, not_true_eq_false, not_false_eq_true]; omega) (by simp (disch := decide) only [up_n, up_s, cp_n, rw_n, rw_s, up1_, if_true, if_false, ite_true, ite_false, reduceIte, eq_self, Int.reduceEq, true_and, and_true, not_true_eq_false, not_false_eq_true]; omega) ?_
            repeat' (first | (refine And.intro (by first | omega | (simp (disch := decide) only [up_n, up_s, cp_n, rw_n, rw_s, up1_, if_true, if_false, ite_true, ite_false, reduceIte, eq_self, Int.reduceEq, true_and, and_true, not_true_eq_false, not_false_eq_true]; omega)) ?_) | (refine And.intro (fun hc => ?_) (fun hc => ?_) <;> (try (simp (disch := decide) only [up_n, up_s, cp_n, rw_n, rw_s, up1_, if_true, if_false, ite_true, ite_false, reduceIte, eq_self, Int.reduceEq, true_and, and_true, not_true_eq_false, not_false_eq_true] at hc)) <;> (try (exfalso; omega))) | (refine fun (hc : ¬ _) => ?_; try (simp (disch := decide) only [up_n, up_s, cp_n, rw_n, rw_s, up1_, if_true, if_false, ite_true, ite_false, reduceIte, eq_self, Int.reduceEq, true_and, and_true, not_true_eq_false, not_false_eq_true] at hc)) | (refine fun (hc : _ = _) => ?_; try (simp (disch := decide) only [up_n, up_s, cp_n, rw_n, rw_s, up1_, if_true, if_false, ite_true, ite_false, reduceIte, eq_self, Int.reduceEq, true_and, and_true, not_true_eq_false, not_false_eq_true] at hc)))
            show Q (some (.inl _)) sh0 _
            simp (disch := decide) only [up_n, up_s, cp_n, rw_n, rw_s, up1_, if_true, if_false, ite_true, ite_false, reduceIte, eq_self, Int.reduceEq, true_and, and_true, not_true_eq_false, not_false_eq_true]
            simp (disch := decide) only [up_rw, rw_u, up_up, rw_rw, rw_cm]
            exact hh
          · rw [if_neg (by omega)] at hh
            by_cases k255 : tp ch = 255
            · have ew : wy p tp b ch = 1 := by
                unfold wy
                rw [if_neg (by omega), if_neg (by omega), if_pos kk, if_pos k255]
              rw [ew] at hh hwr htk2 htk
              refine fr_cgo k89 [some (.inr (.inl 44)), some (.inl b), some (.inr (.inl 59))] 0 0 [] 400 rfl rfl rfl rfl ?_
              repeat' (first | (refine And.intro (by first | omega | (simp (disch := decide) only [up_n, up_s, cp_n, rw_n, rw_s, up1_, if_true, if_false, ite_true, ite_false, reduceIte, eq_self, Int.reduceEq, true_and, and_true, not_true_eq_false, not_false_eq_true]; omega)) ?_) | (refine And.intro (fun hc => ?_) (fun hc => ?_) <;> (try (simp (disch := decide) only [up_n, up_s, cp_n, rw_n, rw_s, up1_, if_true, if_false, ite_true, ite_false, reduceIte, eq_self, Int.reduceEq, true_and, and_true, not_true_eq_false, not_false_eq_true] at hc)) <;> (try (exfalso; omega))) | (refine fun (hc : ¬ _) => ?_; try (simp (disch := decide) only [up_n, up_s, cp_n, rw_n, rw_s, up1_, if_true, if_false, ite_true, ite_false, reduceIte, eq_self, Int.reduceEq, true_and, and_true, not_true_eq_false, not_false_eq_true] at hc)) | (refine fun (hc : _ = _) => ?_; try (simp (disch := decide) only [up_n, up_s, cp_n, rw_n, rw_s, up1_, if_true, if_false, ite_true, ite_false, reduceIte, eq_self, Int.reduceEq, true_and, and_true, not_true_eq_false, not_false_eq_true] at hc)))
              all_goals first | (exfalso; omega) | skip
              refine c_choose_59 (by simp (disch := decide) only [up_n, up_s, cp_n, rw_n, rw_s, up1_, if_true, if_false, ite_true, ite_false, reduceIte, eq_self, Int.reduceEq, true_and, and_true, not_true_eq_false, not_false_eq_true]; omega) n4 ?_
              simp (disch := decide) only [up_n, up_s, cp_n, rw_n, rw_s, up1_, if_true, if_false, ite_true, ite_false, reduceIte, eq_self, Int.reduceEq, true_and, and_true, not_true_eq_false, not_false_eq_true]
              rw [etp, c1]
              repeat' (first | (refine And.intro (by first | omega | (simp (disch := decide) only [up_n, up_s, cp_n, rw_n, rw_s, up1_, if_true, if_false, ite_true, ite_false, reduceIte, eq_self, Int.reduceEq, true_and, and_true, not_true_eq_false, not_false_eq_true]; omega)) ?_) | (refine c_take_59 (by omega) (by omega) (by simp (disch := decide) only [up_n, up_s, cp_n, rw_n, rw_s, up1_, if_true, if_false, ite_true, ite_false, reduceIte, eq_self, Int.reduceEq, true_and, and_true, not_true_eq_false, not_false_eq_true]; omega) (by simp (disch := decide) only [up_n, up_s, cp_n, rw_n, rw_s, up1_, if_true, if_false, ite_true, ite_false, reduceIte, eq_self, Int.reduceEq, true_and, and_true, not_true_eq_false, not_false_eq_true]; omega) ?_) | (refine And.intro (fun hc => ?_) (fun hc => ?_) <;> (try (simp (disch := decide) only [up_n, up_s, cp_n, rw_n, rw_s, up1_, if_true, if_false, ite_true, ite_false, reduceIte, eq_self, Int.reduceEq, true_and, and_true, not_true_eq_false, not_false_eq_true] at hc)) <;> (try (exfalso; omega))) | (refine fun (hc : ¬ _) => ?_; try (simp (disch := decide) only [up_n, up_s, cp_n, rw_n, rw_s, up1_, if_true, if_false, ite_true, ite_false, reduceIte, eq_self, Int.reduceEq, true_and, and_true, not_true_eq_false, not_false_eq_true] at hc)) | (refine fun (hc : _ = _) => ?_; try (simp (disch := decide) only [up_n, up_s, cp_n, rw_n, rw_s, up1_, if_true, if_false, ite_true, ite_false, reduceIte, eq_self, Int.reduceEq, true_and, and_true, not_true_eq_false, not_false_eq_true] at hc)))
              all_goals first | (exfalso; omega) | skip
              show Q (some (.inl _)) sh0 _
              simp (disch := decide) only [up_n, up_s, cp_n, rw_n, rw_s, up1_, if_true, if_false, ite_true, ite_false, reduceIte, eq_self, Int.reduceEq, true_and, and_true, not_true_eq_false, not_false_eq_true]
              simp (disch := decide) only [up_rw, rw_u, up_up, rw_rw, rw_cm]
              exact hh
            · have ew : wy p tp b ch = 0 := by
                unfold wy
                rw [if_neg (by omega), if_neg (by omega), if_pos kk, if_neg k255]
              rw [ew] at hh hwr htk2 htk
              refine fr_cgo k89 [some (.inr (.inl 44)), some (.inl b), some (.inr (.inl 59))] 0 0 [] 400 rfl rfl rfl rfl ?_
              repeat' (first | (refine And.intro (by first | omega | (simp (disch := decide) only [up_n, up_s, cp_n, rw_n, rw_s, up1_, if_true, if_false, ite_true, ite_false, reduceIte, eq_self, Int.reduceEq, true_and, and_true, not_true_eq_false, not_false_eq_true]; omega)) ?_) | (refine And.intro (fun hc => ?_) (fun hc => ?_) <;> (try (simp (disch := decide) only [up_n, up_s, cp_n, rw_n, rw_s, up1_, if_true, if_false, ite_true, ite_false, reduceIte, eq_self, Int.reduceEq, true_and, and_true, not_true_eq_false, not_false_eq_true] at hc)) <;> (try (exfalso; omega))) | (refine fun (hc : ¬ _) => ?_; try (simp (disch := decide) only [up_n, up_s, cp_n, rw_n, rw_s, up1_, if_true, if_false, ite_true, ite_false, reduceIte, eq_self, Int.reduceEq, true_and, and_true, not_true_eq_false, not_false_eq_true] at hc)) | (refine fun (hc : _ = _) => ?_; try (simp (disch := decide) only [up_n, up_s, cp_n, rw_n, rw_s, up1_, if_true, if_false, ite_true, ite_false, reduceIte, eq_self, Int.reduceEq, true_and, and_true, not_true_eq_false, not_false_eq_true] at hc)))
              all_goals first | (exfalso; omega) | skip
              refine c_choose_59 (by simp (disch := decide) only [up_n, up_s, cp_n, rw_n, rw_s, up1_, if_true, if_false, ite_true, ite_false, reduceIte, eq_self, Int.reduceEq, true_and, and_true, not_true_eq_false, not_false_eq_true]; omega) n4 ?_
              simp (disch := decide) only [up_n, up_s, cp_n, rw_n, rw_s, up1_, if_true, if_false, ite_true, ite_false, reduceIte, eq_self, Int.reduceEq, true_and, and_true, not_true_eq_false, not_false_eq_true]
              rw [etp, c1]
              repeat' (first | (refine And.intro (by first | omega | (simp (disch := decide) only [up_n, up_s, cp_n, rw_n, rw_s, up1_, if_true, if_false, ite_true, ite_false, reduceIte, eq_self, Int.reduceEq, true_and, and_true, not_true_eq_false, not_false_eq_true]; omega)) ?_) | (refine c_take_59 (by omega) (by omega) (by simp (disch := decide) only [up_n, up_s, cp_n, rw_n, rw_s, up1_, if_true, if_false, ite_true, ite_false, reduceIte, eq_self, Int.reduceEq, true_and, and_true, not_true_eq_false, not_false_eq_true]; omega) (by simp (disch := decide) only [up_n, up_s, cp_n, rw_n, rw_s, up1_, if_true, if_false, ite_true, ite_false, reduceIte, eq_self, Int.reduceEq, true_and, and_true, not_true_eq_false, not_false_eq_true]; omega) ?_) | (refine And.intro (fun hc => ?_) (fun hc => ?_) <;> (try (simp (disch := decide) only [up_n, up_s, cp_n, rw_n, rw_s, up1_, if_true, if_false, ite_true, ite_false, reduceIte, eq_self, Int.reduceEq, true_and, and_true, not_true_eq_false, not_false_eq_true] at hc)) <;> (try (exfalso; omega))) | (refine fun (hc : ¬ _) => ?_; try (simp (disch := decide) only [up_n, up_s, cp_n, rw_n, rw_s, up1_, if_true, if_false, ite_true, ite_false, reduceIte, eq_self, Int.reduceEq, true_and, and_true, not_true_eq_false, not_false_eq_true] at hc)) | (refine fun (hc : _ = _) => ?_; try (simp (disch := decide) only [up_n, up_s, cp_n, rw_n, rw_s, up1_, if_true, if_false, ite_true, ite_false, reduceIte, eq_self, Int.reduceEq, true_and, and_true, not_true_eq_false, not_false_eq_true] at hc)))
              all_goals first | (exfalso; omega) | skip
              show Q (some (.inl _)) sh0 _
              simp (disch := decide) only [up_n, up_s, cp_n, rw_n, rw_s, up1_, if_true, if_false, ite_true, ite_false, reduceIte, eq_self, Int.reduceEq, true_and, and_true, not_true_eq_false, not_false_eq_true]
              simp (disch := decide) only [up_rw, rw_u, up_up, rw_rw, rw_cm]
              exact hh
        · rw [z2]
          split
          · exact c1
          · rfl
        · rw [z3]
          split
          · exact c2
          · exact c2
        · rw [z4]
          split
          · exact c3
          · exact c3
        · split
          · rfl
          · rw [up1_, if_neg q3]
