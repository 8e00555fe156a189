set_option maxHeartbeats 4000000 in
set_option maxRecDepth 100000 in
theorem op_run0 {n : Int} {M : fr_M} (hR : Rel n M) (hn : n ≤ 512) (a0 : Int) (hb : 0 ≤ a0 ∧ a0 < M 75 4) : Two 131 199 [.inl a0, .inl 0] M (Rel (n + 1)) := by
  have hw := hR.wf
  have hRN := rn_of hR
  have hQN := qn_of hR
  have p4 : M 1 1 = M 75 4 := hR.2.1.2.2.2.1
  have p5 : 0 ≤ M 75 4 := hR.2.1.2.2.2.2.1
  have p6 : M 75 4 ≤ 40 := hR.2.1.2.2.2.2.2
  have hp : pg M 75 4 = M 75 4 := rfl
  refine Two.of ?_
  refine fr_cgo k131 [some (.inr (.inl 0)), some (.inl a0), some (.inl 0)] 0 0 [] 400 rfl rfl rfl rfl ?_
  repeat' (first | (refine And.intro (by first | omega | (simp (disch := decide) only [up_n, up_s, cp_n, rw_n, rw_s, up1_, if_true, if_false, ite_true, ite_false, reduceIte, eq_self, Int.reduceEq, true_and, and_true, not_true_eq_false, not_false_eq_true]; omega)) ?_) | (refine c_isBlock (fun hc => ?_) (fun hc => ?_) <;> (try (simp (disch := decide) only [up_n, up_s, cp_n, rw_n, rw_s, up1_, if_true, if_false, ite_true, ite_false, reduceIte, eq_self, Int.reduceEq, true_and, and_true, not_true_eq_false, not_false_eq_true] at hc))) | (refine c_isSort (fun hc => ?_) (fun hc => ?_) <;> (try (simp (disch := decide) only [up_n, up_s, cp_n, rw_n, rw_s, up1_, if_true, if_false, ite_true, ite_false, reduceIte, eq_self, Int.reduceEq, true_and, and_true, not_true_eq_false, not_false_eq_true] at hc))) | (refine And.intro (fun hc => ?_) (fun hc => ?_) <;> (try (simp (disch := decide) only [up_n, up_s, cp_n, rw_n, rw_s, up1_, if_true, if_false, ite_true, ite_false, reduceIte, eq_self, Int.reduceEq, true_and, and_true, not_true_eq_false, not_false_eq_true] at hc)) <;> (try (exfalso; omega))) | (refine fun (hc : ¬ _) => ?_; try (simp (disch := decide) only [up_n, up_s, cp_n, rw_n, rw_s, up1_, if_true, if_false, ite_true, ite_false, reduceIte, eq_self, Int.reduceEq, true_and, and_true, not_true_eq_false, not_false_eq_true] at hc)) | (refine fun (hc : _ = _) => ?_; try (simp (disch := decide) only [up_n, up_s, cp_n, rw_n, rw_s, up1_, if_true, if_false, ite_true, ite_false, reduceIte, eq_self, Int.reduceEq, true_and, and_true, not_true_eq_false, not_false_eq_true] at hc)))
  all_goals first | (exfalso; omega) | (exfalso; rename_i hx; exact hx (Or.inl trivial)) | skip
  refine c_runBlocks_45 hw hRN hb (fun X K hfX hE hF => ?_)
  repeat' (first | (refine And.intro (by first | omega | (simp (disch := decide) only [up_n, up_s, cp_n, rw_n, rw_s, up1_, if_true, if_false, ite_true, ite_false, reduceIte, eq_self, Int.reduceEq, true_and, and_true, not_true_eq_false, not_false_eq_true]; omega)) ?_) | (refine And.intro (fun hc => ?_) (fun hc => ?_) <;> (try (simp (disch := decide) only [up_n, up_s, cp_n, rw_n, rw_s, up1_, if_true, if_false, ite_true, ite_false, reduceIte, eq_self, Int.reduceEq, true_and, and_true, not_true_eq_false, not_false_eq_true] at hc)) <;> (try (exfalso; omega))) | (refine fun (hc : ¬ _) => ?_; try (simp (disch := decide) only [up_n, up_s, cp_n, rw_n, rw_s, up1_, if_true, if_false, ite_true, ite_false, reduceIte, eq_self, Int.reduceEq, true_and, and_true, not_true_eq_false, not_false_eq_true] at hc)) | (refine fun (hc : _ = _) => ?_; try (simp (disch := decide) only [up_n, up_s, cp_n, rw_n, rw_s, up1_, if_true, if_false, ite_true, ite_false, reduceIte, eq_self, Int.reduceEq, true_and, and_true, not_true_eq_false, not_false_eq_true] at hc)))
  all_goals first | (exfalso; omega) | skip
  refine ⟨rfl, _, rfl, ?_⟩
  have hQX : QN (pg M) (tpf M) (fr_up X 0 17 1) := by
    obtain ⟨n1, n2, n3⟩ := hQN
    refine ⟨?_, ?_, fun i q0 => ?_⟩
    · rw [pg_up (by omega)]
      exact pg_cg (fun k i q => hfX k i (by omega))
    · rw [up_x (by omega), hfX 75 17 (by omega)]
      exact n2
    · rw [up_x (by omega), up_x (by omega), hfX 75 17 (by omega), hfX 87 _ (by omega)]
      exact n3 i q0
  obtain ⟨f0, f1, f2, f3, f5, f6, f7, f8, f9, fp, ft⟩ := hF
  have e4 : X 75 4 = M 75 4 := hfX 75 4 (by omega)
  refine fr_cgo k199 [some (.inr (.inl 75)), some (.inl a0), some (.inl 0), none] 0 0 [27] 400 rfl rfl rfl rfl ?_
  repeat' (first | (refine And.intro (by first | omega | (simp (disch := decide) only [up_n, up_s, cp_n, rw_n, rw_s, up1_, if_true, if_false, ite_true, ite_false, reduceIte, eq_self, Int.reduceEq, true_and, and_true, not_true_eq_false, not_false_eq_true]; omega)) ?_) | (refine m_isBlock (by simp (disch := decide) only [up_n, up_s, cp_n, rw_n, rw_s, up1_, if_true, if_false, ite_true, ite_false, reduceIte, eq_self, Int.reduceEq, true_and, and_true, not_true_eq_false, not_false_eq_true]; omega) (fun hc => ?_) (fun hc => ?_) <;> (try (simp (disch := decide) only [up_n, up_s, cp_n, rw_n, rw_s, up1_, if_true, if_false, ite_true, ite_false, reduceIte, eq_self, Int.reduceEq, true_and, and_true, not_true_eq_false, not_false_eq_true] at hc))) | (refine m_in (fun hc => ?_) (fun hc => ?_) <;> (try (simp (disch := decide) only [up_n, up_s, cp_n, rw_n, rw_s, up1_, if_true, if_false, ite_true, ite_false, reduceIte, eq_self, Int.reduceEq, true_and, and_true, not_true_eq_false, not_false_eq_true] at hc))) | (refine And.intro (fun hc => ?_) (fun hc => ?_) <;> (try (simp (disch := decide) only [up_n, up_s, cp_n, rw_n, rw_s, up1_, if_true, if_false, ite_true, ite_false, reduceIte, eq_self, Int.reduceEq, true_and, and_true, not_true_eq_false, not_false_eq_true] at hc)) <;> (try (exfalso; omega))) | (refine fun (hc : ¬ _) => ?_; try (simp (disch := decide) only [up_n, up_s, cp_n, rw_n, rw_s, up1_, if_true, if_false, ite_true, ite_false, reduceIte, eq_self, Int.reduceEq, true_and, and_true, not_true_eq_false, not_false_eq_true] at hc)) | (refine fun (hc : _ = _) => ?_; try (simp (disch := decide) only [up_n, up_s, cp_n, rw_n, rw_s, up1_, if_true, if_false, ite_true, ite_false, reduceIte, eq_self, Int.reduceEq, true_and, and_true, not_true_eq_false, not_false_eq_true] at hc)))
  all_goals first | (exfalso; omega) | (exfalso; simp (disch := decide) only [up_n, up_s, cp_n, rw_n, rw_s, up1_, if_true, if_false, ite_true, ite_false, reduceIte, eq_self, Int.reduceEq, true_and, and_true, not_true_eq_false, not_false_eq_true] at *; omega) | skip
  refine m_goes0 hw hQX hb (fun Y K' hfY hE' hG => ?_)
  have eK : K' = K := hE'.uniq hE
  subst eK
  obtain ⟨g0, g1, g2, g3, ⟨g4, g5, g6, g7, g8⟩, gp, gt⟩ := hG
  have hK := hE.1
  have hSI := rs_si hw (fun i q0 => (hRN.2.2.2.2 i q0).2) hb K'
  repeat' (first | (refine And.intro (by first | omega | (simp (disch := decide) only [up_n, up_s, cp_n, rw_n, rw_s, up1_, if_true, if_false, ite_true, ite_false, reduceIte, eq_self, Int.reduceEq, true_and, and_true, not_true_eq_false, not_false_eq_true]; omega)) ?_) | (refine And.intro (fun hc => ?_) (fun hc => ?_) <;> (try (simp (disch := decide) only [up_n, up_s, cp_n, rw_n, rw_s, up1_, if_true, if_false, ite_true, ite_false, reduceIte, eq_self, Int.reduceEq, true_and, and_true, not_true_eq_false, not_false_eq_true] at hc)) <;> (try (exfalso; omega))) | (refine fun (hc : ¬ _) => ?_; try (simp (disch := decide) only [up_n, up_s, cp_n, rw_n, rw_s, up1_, if_true, if_false, ite_true, ite_false, reduceIte, eq_self, Int.reduceEq, true_and, and_true, not_true_eq_false, not_false_eq_true] at hc)) | (refine fun (hc : _ = _) => ?_; try (simp (disch := decide) only [up_n, up_s, cp_n, rw_n, rw_s, up1_, if_true, if_false, ite_true, ite_false, reduceIte, eq_self, Int.reduceEq, true_and, and_true, not_true_eq_false, not_false_eq_true] at hc)))
  refine q_run (m_r1 (M := fr_up Y 106 0 1) (b := a0) (w := 0) (Or.inl rfl) (fun h107 c107 => ?_) 9 0 (Y 107) (by omega) (by omega) cpr.zero) rw_id
  refine fr_go k199 [46] 400 rfl ?_
  repeat' (first | (refine And.intro (by first | omega | (simp (disch := decide) only [up_n, up_s, cp_n, rw_n, rw_s, up1_, if_true, if_false, ite_true, ite_false, reduceIte, eq_self, Int.reduceEq, true_and, and_true, not_true_eq_false, not_false_eq_true]; omega)) ?_) | (refine And.intro (fun hc => ?_) (fun hc => ?_) <;> (try (simp (disch := decide) only [up_n, up_s, cp_n, rw_n, rw_s, up1_, if_true, if_false, ite_true, ite_false, reduceIte, eq_self, Int.reduceEq, true_and, and_true, not_true_eq_false, not_false_eq_true] at hc)) <;> (try (exfalso; omega))) | (refine fun (hc : ¬ _) => ?_; try (simp (disch := decide) only [up_n, up_s, cp_n, rw_n, rw_s, up1_, if_true, if_false, ite_true, ite_false, reduceIte, eq_self, Int.reduceEq, true_and, and_true, not_true_eq_false, not_false_eq_true] at hc)) | (refine fun (hc : _ = _) => ?_; try (simp (disch := decide) only [up_n, up_s, cp_n, rw_n, rw_s, up1_, if_true, if_false, ite_true, ite_false, reduceIte, eq_self, Int.reduceEq, true_and, and_true, not_true_eq_false, not_false_eq_true] at hc)))
  refine q_run (m_r2 (M := rw_ (fr_up Y 106 0 1) 107 h107) (b := a0) (w := 0) (K := (K' : Int)) (Or.inl rfl) ⟨g1, by omega, by omega⟩ (fun h108 h110 c108 c110 c110' => ?_) K' 0 (Y 108) (Y 110) (by omega) (by omega) cpr.zero (fun q => by omega) (fun _ j => rfl)) ?_
  · refine fr_go k199 [89] 400 rfl ?_
    repeat' (first | (refine And.intro (by first | omega | (simp (disch := decide) only [up_n, up_s, cp_n, rw_n, rw_s, up1_, if_true, if_false, ite_true, ite_false, reduceIte, eq_self, Int.reduceEq, true_and, and_true, not_true_eq_false, not_false_eq_true]; omega)) ?_) | (refine And.intro (fun hc => ?_) (fun hc => ?_) <;> (try (simp (disch := decide) only [up_n, up_s, cp_n, rw_n, rw_s, up1_, if_true, if_false, ite_true, ite_false, reduceIte, eq_self, Int.reduceEq, true_and, and_true, not_true_eq_false, not_false_eq_true] at hc)) <;> (try (exfalso; omega))) | (refine fun (hc : ¬ _) => ?_; try (simp (disch := decide) only [up_n, up_s, cp_n, rw_n, rw_s, up1_, if_true, if_false, ite_true, ite_false, reduceIte, eq_self, Int.reduceEq, true_and, and_true, not_true_eq_false, not_false_eq_true] at hc)) | (refine fun (hc : _ = _) => ?_; try (simp (disch := decide) only [up_n, up_s, cp_n, rw_n, rw_s, up1_, if_true, if_false, ite_true, ite_false, reduceIte, eq_self, Int.reduceEq, true_and, and_true, not_true_eq_false, not_false_eq_true] at hc)))
    all_goals first | (exfalso; omega) | skip
    refine q_run (m_r3 (M := fr_up (rw_ (rw_ (rw_ (fr_up Y 106 0 1) 107 h107) 108 h108) 110 h110) 75 41 1) (b := a0) (fun h109 c109 => ?_) 160 0 (Y 109) (by omega) (by omega) cpr.zero) rw_id
    have hfr : ∀ k i, ¬ sr k i → rw_ (fr_up (rw_ (rw_ (rw_ (fr_up Y 106 0 1) 107 h107) 108 h108) 110 h110) 75 41 1) 109 h109 k i = M k i := by
      intro k i hk
      rw [rw_n (by omega), up_x (by omega), rw_n (by omega), rw_n (by omega), rw_n (by omega), up_x (by omega), hfY k i (by omega), up_x (by omega), hfX k i (by omega)]
    have hlay : ∀ k i, rl k i = true → rw_ (fr_up (rw_ (rw_ (rw_ (fr_up Y 106 0 1) 107 h107) 108 h108) 110 h110) 75 41 1) 109 h109 k i = M k i := by
      intro k i hk
      simp [rl] at hk
      rw [rw_n (by omega), up_x (by omega), rw_n (by omega), rw_n (by omega), rw_n (by omega), up_x (by omega), hfY k i (by omega), up_x (by omega), hfX k i (by omega)]
    have hY : ∀ k i, (45 ≤ k ∧ k ≤ 74) → Y k i = X k i := fun k i hk => by
      rw [hfY k i (by omega), up_x (by omega)]
    have hY2 : ∀ k i, (106 ≤ k ∧ k ≤ 110) → Y k i = M k i := fun k i hk => by
      rw [hfY k i (by omega), up_x (by omega), hfX k i (by omega)]
    have c107 : cpr h107 (Y 107) (Y 111) (9 * 0) 0 9 := c107
    have c108 : cpr h108 (Y 108) (Y 112) (200 * 0) 0 (K' : Int) := c108
    have c110' : ∀ j, h110 j = Y 110 j := c110' rfl
    have c109 : cpr h109 (Y 109) (Y 115) 0 0 160 := c109
    have told : ∀ i, 0 ≤ i → i < 9 → h107 (9 * 0 + i) = Y 111 i := by
      intro i q0 q1
      rw [(c107 (9 * 0 + i)).1 (by omega)]
      congr 1
      omega
    have told' : ∀ i, 9 ≤ i → h107 i = M 107 i := by
      intro i q0
      rw [(c107 i).2 (by omega)]
      exact hY2 107 i (by omega)
    obtain ⟨h0, h1, h2, h3, h4, h5, h6, h7, h8, o1, o2, o3, k1, k2, k3, k4, k5, t1, t2, s1, r1, r1', r2, r2', r3, r4, l⟩ := id hR
    refine ⟨rfl, sv ?_, hR.run hfr ?_ ?_ ?_ ?_ ?_ ?_ (l.keep hlay)⟩
    · show Y 111 0 = X 45 1
      rw [g0, f1]
    · show Y 45 0 = 1 ∧ ((1 : Int) = 0 ∨ (1 : Int) = 1) ∧ 0 ≤ Y 45 2 ∧ Y 45 2 ≤ 200 ∧ ((1 : Int) = 0 → Y 45 2 = 0) ∧ ((1 : Int) = 1 → h107 (9 * 0 + 0) = Y 45 1 ∧ h107 (9 * 0 + 1) = Y 45 2 ∧ h107 (9 * 0 + 2) = Y 45 3 ∧ h107 (9 * 0 + 3) = Y 45 5 ∧ h107 (9 * 0 + 4) = 2 * Y 45 6 + 3 * Y 45 7 + Y 45 8 + 50 * Y 45 9 ∧ h107 (9 * 0 + 5) = Y 45 6 ∧ h107 (9 * 0 + 6) = Y 45 7 ∧ h107 (9 * 0 + 7) = Y 45 8 ∧ h107 (9 * 0 + 8) = Y 45 9 ∧ (0 ≤ Y 45 6 ∧ Y 45 6 ≤ 1000) ∧ (0 ≤ Y 45 7 ∧ Y 45 7 ≤ 1000) ∧ (0 ≤ Y 45 8 ∧ Y 45 8 ≤ 1000) ∧ (0 ≤ Y 45 9 ∧ Y 45 9 ≤ 1000))
      rw [told 0 (by omega) (by omega), told 1 (by omega) (by omega), told 2 (by omega) (by omega), told 3 (by omega) (by omega), told 4 (by omega) (by omega), told 5 (by omega) (by omega), told 6 (by omega) (by omega), told 7 (by omega) (by omega), told 8 (by omega) (by omega)]
      rw [hY 45 0 (by omega), hY 45 1 (by omega), hY 45 2 (by omega), hY 45 3 (by omega), hY 45 5 (by omega), hY 45 6 (by omega), hY 45 7 (by omega), hY 45 8 (by omega), hY 45 9 (by omega), f0, f1, f2, f3, f5, f6, f7, f8, f9, g0, g1, g2, g3, g4, g5, g6, g7, g8]
      refine ⟨rfl, Or.inr rfl, by omega, by omega, fun q => by omega, fun _ => ⟨rfl, rfl, rfl, rfl, rfl, rfl, rfl, rfl, rfl, by omega, by omega, by omega, by omega⟩⟩
    · have e := r1'
      unfold R1 at e ⊢
      have a : ∀ i, rw_ (fr_up (rw_ (rw_ (rw_ (fr_up Y 106 0 1) 107 h107) 108 h108) 110 h110) 75 41 1) 109 h109 52 i = M 52 i := fun i => by
        rw [rw_n (by omega), up_x (by omega), rw_n (by omega), rw_n (by omega), rw_n (by omega), up_x (by omega), hfY 52 i (by omega), up_x (by omega), hfX 52 i (by omega)]
      have b106 : rw_ (fr_up (rw_ (rw_ (rw_ (fr_up Y 106 0 1) 107 h107) 108 h108) 110 h110) 75 41 1) 109 h109 106 1 = M 106 1 := by
        rw [rw_n (by omega), up_x (by omega), rw_n (by omega), rw_n (by omega), rw_n (by omega), up_x (by omega)]
        exact hY2 106 1 (by omega)
      have b107 : ∀ i, 9 ≤ i → rw_ (fr_up (rw_ (rw_ (rw_ (fr_up Y 106 0 1) 107 h107) 108 h108) 110 h110) 75 41 1) 109 h109 107 i = M 107 i := fun i q => told' i q
      rw [a, a, a, a, a, a, a, a, a, b106, b107 _ (by omega), b107 _ (by omega), b107 _ (by omega), b107 _ (by omega), b107 _ (by omega), b107 _ (by omega), b107 _ (by omega), b107 _ (by omega), b107 _ (by omega)]
      exact e
    · intro i q0 q1
      have q1 : i < Y 45 2 := q1
      rw [hY 45 2 (by omega), f2] at q1
      show h108 (200 * 0 + i) = Y 46 i
      rw [(c108 (200 * 0 + i)).1 (by omega), hY 46 i (by omega), show 0 + (200 * 0 + i - 200 * 0) = i by omega]
      have x := gp i.toNat (by omega)
      have y := fp i.toNat (by omega)
      rw [show ((i.toNat : Nat) : Int) = i by omega] at x y
      rw [x, y]
    · intro i q0 q1
      have q1 : i < Y 52 2 := q1
      rw [hfY 52 2 (by omega), up_x (by omega), hfX 52 2 (by omega)] at q1
      show h108 (200 * 1 + i) = Y 53 i
      rw [(c108 (200 * 1 + i)).2 (by omega), hY2 108 _ (by omega), hfY 53 i (by omega), up_x (by omega), hfX 53 i (by omega)]
      exact r2' i q0 q1
    · refine ⟨Or.inr ?_, Or.inr rfl, ⟨fun _ => ⟨?_, ?_⟩, fun _ => rfl⟩, fun _ i q0 q1 => ?_⟩
      · show Y 0 17 = 1
        rw [hfY 0 17 (by omega)]
        rfl
      · show Y 45 0 = 1
        rw [hY 45 0 (by omega)]
        exact f0
      · show Y 0 17 = 1
        rw [hfY 0 17 (by omega)]
        rfl
      · show Y 48 i = h109 i ∧ 0 ≤ h109 i ∧ h109 i ≤ 1000
        have z := hSI.2.2.2.2.2.1 i
        rw [(c109 i).1 (by omega), show 0 + (i - 0) = i by omega, gt i q0 q1, hY 48 i (by omega), ft i q0 q1]
        omega
    · intro i q0 q1
      have q1 : i < Y 52 2 := q1
      rw [hfY 52 2 (by omega), up_x (by omega), hfX 52 2 (by omega)] at q1
      show Y 54 i = h110 i
      rw [c110' i, hY2 110 i (by omega), hfY 54 i (by omega), up_x (by omega), hfX 54 i (by omega)]
      exact r4 i q0 q1
  · exact (congrArg (fun m => rw_ m 110 (Y 110)) (rw_id (k := 108))).trans (rw_id (k := 110))
