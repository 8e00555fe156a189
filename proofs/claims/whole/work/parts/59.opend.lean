set_option maxHeartbeats 4000000 in
set_option maxRecDepth 100000 in
theorem op_end {n : Int} {M : fr_M} (hR : Rel n M) (hn : n ≤ 512) (a0 : Int) (a1 : Int) (a2 : Int) (a3 : Int) (a4 : Int) (a5 : Int) (g0 : fr_in a0) (g1 : fr_in a1) (g2 : fr_in a2) (g3 : fr_in a3) (g4 : fr_in a4) (g5 : fr_in a5) : Two 110 148 [.inl a0, .inl a1, .inl a2, .inl a3, .inl a4, .inl a5] M (Rel (n + 1)) := by
  obtain ⟨h0, h1, h2, h3, h4, h5, h6, h7, h8, o1, o2, o3, k1, k2, k3, k4, k5, t1, t2, s1, r1, r1', r2, r2', r3, r4, l⟩ := id hR
  obtain ⟨p1, p2, p3, p4, p5, p6⟩ := id h1
  have hN := hR.next
  refine Two.of ?_
  by_cases hs : (0 ≤ a0 ∧ a0 < M 75 4) ∧ 0 ≤ a1 ∧ a1 ≤ 6
  · obtain ⟨hb, hk⟩ := hs
    have hro : ∀ x, 0 ≤ x → x < M 75 4 → M 4 x = M 79 x := fun x q0 q1 => (h4 x q0 q1).1
    have hown : ∀ x, 0 ≤ x → x < M 75 0 → M 2 x = M 76 x := fun x q0 q1 => (h2 x q0 (by omega)).1
    have ho : ∀ r, 0 ≤ r → r < 6 → 0 ≤ M 76 r := fun x q0 q1 => (h2 x q0 q1).2.1
    have hb4 := hro a0 hb.1 hb.2
    refine c_end hk (by omega) (by omega) (by omega) (fun nn g11 g12 hnw hek hwg hcg => ?_) (fun nn hnw hek => ?_)
    · have hnr := hnw.rng hk
      refine ⟨rfl, _, rfl, ?_⟩
      refine m_end hk (by simp (disch := decide) only [up_n, up_s, cp_n, rw_n, rw_s, up1_, if_true, if_false, ite_true, ite_false, reduceIte, eq_self, Int.reduceEq, true_and, and_true, not_true_eq_false, not_false_eq_true]; omega) (by simp (disch := decide) only [up_n, up_s, cp_n, rw_n, rw_s, up1_, if_true, if_false, ite_true, ite_false, reduceIte, eq_self, Int.reduceEq, true_and, and_true, not_true_eq_false, not_false_eq_true]; omega) (by intro r q0 q1; simp (disch := decide) only [up_n, up_s, cp_n, rw_n, rw_s, up1_, if_true, if_false, ite_true, ite_false, reduceIte, eq_self, Int.reduceEq, true_and, and_true, not_true_eq_false, not_false_eq_true]; exact ho r q0 q1) (by simp (disch := decide) only [up_n, up_s, cp_n, rw_n, rw_s, up1_, if_true, if_false, ite_true, ite_false, reduceIte, eq_self, Int.reduceEq, true_and, and_true, not_true_eq_false, not_false_eq_true]; omega) (fun nm g84 g85 hnw' hek' hwg' hcg' => ?_) (fun nm hnw' hek' => ?_)
      · have e : nn = nm := NW.uniq hk av_e hnw hnw'
        subst e
        refine ⟨rfl, rfl, by omega, h1, h2, h3, h4, ?_, ?_, ?_, ?_, o1, o2, o3, k1, k2, k3, k4, k5, t1, t2, s1, r1, r1', r2, r2', ?_, r4, l.off rfl rfl rfl⟩
        · intro b q0 q1
          have e := h5 b q0 q1
          obtain ⟨w1, w2, w3, w4⟩ := hnw
          obtain ⟨v1, v2, v3⟩ := hek
          have v2 : a1 = 5 → (0 ≤ a3 ∧ a3 < M 1 0) ∧ 0 < M 2 a3 := v2
          have hw := hown a3
          have w4 : a1 = 4 → 0 ≤ nn ∧ nn ≤ 4 := fun q => ⟨(w4 q).1, (w4 q).2.1⟩
          clear h1 h2 h3 h4 h5 h6 h7 h8 o1 o2 o3 k1 k2 k3 k4 k5 t1 t2 s1 r1 r1' r2 r2' r3 r4 l hwg hcg hwg' hcg' hek' hnw' hR hN v3
          simp (disch := decide) only [up_n, up_s, cp_n, rw_n, rw_s, up1_, if_true, if_false, ite_true, ite_false, reduceIte, eq_self, Int.reduceEq, true_and, and_true, not_true_eq_false, not_false_eq_true]
          by_cases hbb : b = a0
          · subst hbb
            simp only [if_true]
            by_cases h5' : a1 = 5
            · have v2 := v2 h5'
              have hw := hw (by omega) (by omega)
              simp only [if_pos h5']
              repeat' (first | (refine And.intro ?_ ?_) | (refine fun hx => ?_))
              all_goals first | omega | trivial
            · simp only [if_neg h5']
              clear v2 hw
              repeat' (first | (refine And.intro ?_ ?_) | (refine fun hx => ?_))
              all_goals first | omega | trivial
          · simp only [if_neg hbb]
            exact e
        · intro b w q0 q1 q2 q3
          have e1 := hwg (b * 4 + w)
          have e2 := hwg' (4 * b + w)
          have w3 : w < if b = a0 then nn else M 83 b := by
            have := q3
            simp (disch := decide) only [up_n, up_s, cp_n, rw_n, rw_s, up1_, if_true, if_false, ite_true, ite_false, reduceIte, eq_self, Int.reduceEq, true_and, and_true, not_true_eq_false, not_false_eq_true] at this
            exact this
          show g11 (b * 4 + w) = g84 (4 * b + w) ∧ 0 ≤ g84 (4 * b + w) ∧ g84 (4 * b + w) < M 75 4 ∧ M 79 (g84 (4 * b + w)) = M 79 b
          by_cases hbb : b = a0
          · subst hbb
            rw [if_pos rfl] at w3
            have v5 := hek.2.2 w q2 w3
            have f1 := e1.1 (by omega)
            rw [show b * 4 + w - 4 * b = w by omega, if_pos w3] at f1
            have f2 := e2.1 (by omega)
            rw [show 4 * b + w - 4 * b = w by omega, if_pos w3] at f2
            have f2 : g84 (4 * b + w) = av (M 90) a2 a3 a4 a5 w := f2
            have ea := av_e (g := M 73) (g' := M 90) (a := a2) (b := a3) (c := a4) (d := a5) w q2 (by omega)
            have hq := hro (av (M 73) a2 a3 a4 a5 w)
            rw [f1, f2, ← ea]
            omega
          · rw [if_neg hbb] at w3
            have e := h6 b w q0 q1 q2 w3
            have e5 := (h5 b q0 q1)
            rw [e1.2 (by omega), e2.2 (by omega)]
            exact e
        · intro i q0 q1
          have e := h7 i q0 q1
          have c1 := hcg i
          have c2 := hcg' i
          show g12 i = g85 i ∧ 0 ≤ g85 i ∧ g85 i ≤ 1000000
          by_cases hi : 4 * a0 ≤ i ∧ i < 4 * a0 + 4
          · rw [c1.1 hi, c2.1 hi]
            omega
          · rw [c1.2 hi, c2.2 hi]
            exact e
        · intro b q0 q1
          have q0 : M 75 4 ≤ b := q0
          have e := h8 b q0 q1
          simp (disch := decide) only [up_n, up_s, cp_n, rw_n, rw_s, up1_, if_true, if_false, ite_true, ite_false, reduceIte, eq_self, Int.reduceEq, true_and, and_true, not_true_eq_false, not_false_eq_true]
          rw [if_neg (by omega)]
          exact e
        · exact ⟨Or.inl rfl, Or.inl rfl, ⟨fun h => absurd (show (0 : Int) = 1 from h) (by decide), fun h => absurd (show (0 : Int) = 1 from h.2) (by decide)⟩, r3.2.2.2⟩
      · exfalso
        have e : nn = nm := NW.uniq hk av_e hnw hnw'
        subst e
        refine hek' ?_
        have := EK.cg (f' := av (M 90) a2 a3 a4 a5) (ro' := M 79) (own' := M 76) hnr.2 av_e (by rw [p4]; exact hro) (by rw [p1]; exact hown) hek
        rw [p4, hb4, p1] at this
        exact this
    · refine ⟨rfl, _, rfl, ?_⟩
      refine m_end hk (by simp (disch := decide) only [up_n, up_s, cp_n, rw_n, rw_s, up1_, if_true, if_false, ite_true, ite_false, reduceIte, eq_self, Int.reduceEq, true_and, and_true, not_true_eq_false, not_false_eq_true]; omega) (by simp (disch := decide) only [up_n, up_s, cp_n, rw_n, rw_s, up1_, if_true, if_false, ite_true, ite_false, reduceIte, eq_self, Int.reduceEq, true_and, and_true, not_true_eq_false, not_false_eq_true]; omega) (by intro r q0 q1; simp (disch := decide) only [up_n, up_s, cp_n, rw_n, rw_s, up1_, if_true, if_false, ite_true, ite_false, reduceIte, eq_self, Int.reduceEq, true_and, and_true, not_true_eq_false, not_false_eq_true]; exact ho r q0 q1) (by simp (disch := decide) only [up_n, up_s, cp_n, rw_n, rw_s, up1_, if_true, if_false, ite_true, ite_false, reduceIte, eq_self, Int.reduceEq, true_and, and_true, not_true_eq_false, not_false_eq_true]; omega) (fun nm g84 g85 hnw' hek' hwg' hcg' => ?_) (fun nm hnw' hek' => ?_)
      · exfalso
        have hnr := hnw'.rng hk
        have e : nn = nm := NW.uniq hk av_e hnw hnw'
        subst e
        refine hek ?_
        rw [p4, hb4, p1]
        exact EK.cg (f := av (M 90) a2 a3 a4 a5) (ro := M 79) (own := M 76) hnr.2 av_e (fun x z0 z1 => (hro x z0 z1).symm) (fun x z0 z1 => (hown x z0 z1).symm) hek'
      · exact ⟨rfl, rfl, by omega, h1, h2, h3, h4, h5, h6, h7, h8, o1, o2, o3, k1, k2, k3, k4, k5, t1, t2, s1, r1, r1', r2, r2', r3, r4, l.keep (kp_w (kp_w kp_r (fun _ => rfl)) (fun _ => rfl))⟩
  · refine fr_cgo k110 [some (.inr (.inl 0)), some (.inl a0), some (.inl a1), some (.inl a2), some (.inl a3), some (.inl a4), some (.inl a5), none, none] 0 0 [] 400 rfl rfl rfl rfl ?_
    repeat' (first | (refine And.intro (by first | omega | (simp (disch := decide) only [up_n, up_s, cp_n, rw_n, rw_s, up1_, if_true, if_false, ite_true, ite_false, reduceIte, eq_self, Int.reduceEq, true_and, and_true, not_true_eq_false, not_false_eq_true]; omega)) ?_) | (refine c_isBlock (fun hc => ?_) (fun hc => ?_) <;> (try (simp (disch := decide) only [up_n, up_s, cp_n, rw_n, rw_s, up1_, if_true, if_false, ite_true, ite_false, reduceIte, eq_self, Int.reduceEq, true_and, and_true, not_true_eq_false, not_false_eq_true] at hc))) | (refine And.intro (fun hc => ?_) (fun hc => ?_) <;> (try (simp (disch := decide) only [up_n, up_s, cp_n, rw_n, rw_s, up1_, if_true, if_false, ite_true, ite_false, reduceIte, eq_self, Int.reduceEq, true_and, and_true, not_true_eq_false, not_false_eq_true] at hc)) <;> (try (exfalso; omega))) | (refine fun (hc : ¬ _) => ?_; try (simp (disch := decide) only [up_n, up_s, cp_n, rw_n, rw_s, up1_, if_true, if_false, ite_true, ite_false, reduceIte, eq_self, Int.reduceEq, true_and, and_true, not_true_eq_false, not_false_eq_true] at hc)) | (refine fun (hc : _ = _) => ?_; try (simp (disch := decide) only [up_n, up_s, cp_n, rw_n, rw_s, up1_, if_true, if_false, ite_true, ite_false, reduceIte, eq_self, Int.reduceEq, true_and, and_true, not_true_eq_false, not_false_eq_true] at hc)))
    all_goals first | (exfalso; omega) | refine ⟨rfl, _, rfl, ?_⟩
    all_goals (refine fr_cgo k148 [some (.inr (.inl 75)), some (.inl a0), some (.inl a1), some (.inl a2), some (.inl a3), some (.inl a4), some (.inl a5), none, none] 0 0 [] 400 rfl rfl rfl rfl ?_)
    all_goals (repeat' (first | (refine And.intro (by first | omega | (simp (disch := decide) only [up_n, up_s, cp_n, rw_n, rw_s, up1_, if_true, if_false, ite_true, ite_false, reduceIte, eq_self, Int.reduceEq, true_and, and_true, not_true_eq_false, not_false_eq_true]; omega)) ?_) | (refine m_isBlock (by first | omega | (simp (disch := decide) only [up_n, up_s, cp_n, rw_n, rw_s, up1_, if_true, if_false, ite_true, ite_false, reduceIte, eq_self, Int.reduceEq, true_and, and_true, not_true_eq_false, not_false_eq_true]; omega)) (fun hc => ?_) (fun hc => ?_) <;> (try (simp (disch := decide) only [up_n, up_s, cp_n, rw_n, rw_s, up1_, if_true, if_false, ite_true, ite_false, reduceIte, eq_self, Int.reduceEq, true_and, and_true, not_true_eq_false, not_false_eq_true] at hc))) | (refine m_in (fun hc => ?_) (fun hc => ?_) <;> (try (simp (disch := decide) only [up_n, up_s, cp_n, rw_n, rw_s, up1_, if_true, if_false, ite_true, ite_false, reduceIte, eq_self, Int.reduceEq, true_and, and_true, not_true_eq_false, not_false_eq_true] at hc))) | (refine And.intro (fun hc => ?_) (fun hc => ?_) <;> (try (simp (disch := decide) only [up_n, up_s, cp_n, rw_n, rw_s, up1_, if_true, if_false, ite_true, ite_false, reduceIte, eq_self, Int.reduceEq, true_and, and_true, not_true_eq_false, not_false_eq_true] at hc)) <;> (try (exfalso; omega))) | (refine fun (hc : ¬ _) => ?_; try (simp (disch := decide) only [up_n, up_s, cp_n, rw_n, rw_s, up1_, if_true, if_false, ite_true, ite_false, reduceIte, eq_self, Int.reduceEq, true_and, and_true, not_true_eq_false, not_false_eq_true] at hc)) | (refine fun (hc : _ = _) => ?_; try (simp (disch := decide) only [up_n, up_s, cp_n, rw_n, rw_s, up1_, if_true, if_false, ite_true, ite_false, reduceIte, eq_self, Int.reduceEq, true_and, and_true, not_true_eq_false, not_false_eq_true] at hc))))
    all_goals first | (exfalso; omega) | exact ⟨rfl, rfl, hN⟩
