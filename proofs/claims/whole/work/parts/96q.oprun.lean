set_option maxHeartbeats 4000000 in
set_option maxRecDepth 100000 in
theorem op_run1 {n : Int} {M : fr_M} (hR : Rel n M) (hn : n ≤ 512) (a0 : Int) (hb : 0 ≤ a0 ∧ a0 < M 75 4) : Two 131 199 [.inl a0, .inl 1] M (Rel (n + 1)) := by
  have hw := hR.wf
  have p4 : M 1 1 = M 75 4 := hR.2.1.2.2.2.1
  have p5 : 0 ≤ M 75 4 := hR.2.1.2.2.2.2.1
  have p6 : M 75 4 ≤ 40 := hR.2.1.2.2.2.2.2
  have hp : pg M 75 4 = M 75 4 := rfl
  have hQN := qn_of hR
  refine Two.of ?_
  refine fr_cgo k131 [some (.inr (.inl 0)), some (.inl a0), some (.inl 1)] 0 0 [] 400 rfl rfl rfl rfl ?_
  repeat' (first | (refine And.intro (by first | omega | (simp (disch := decide) only [up_n, up_s, cp_n, rw_n, rw_s, up1_, if_true, if_false, ite_true, ite_false, reduceIte, eq_self, Int.reduceEq, true_and, and_true, not_true_eq_false, not_false_eq_true]; omega)) ?_) | (refine c_isBlock (fun hc => ?_) (fun hc => ?_) <;> (try (simp (disch := decide) only [up_n, up_s, cp_n, rw_n, rw_s, up1_, if_true, if_false, ite_true, ite_false, reduceIte, eq_self, Int.reduceEq, true_and, and_true, not_true_eq_false, not_false_eq_true] at hc))) | (refine c_isSort (fun hc => ?_) (fun hc => ?_) <;> (try (simp (disch := decide) only [up_n, up_s, cp_n, rw_n, rw_s, up1_, if_true, if_false, ite_true, ite_false, reduceIte, eq_self, Int.reduceEq, true_and, and_true, not_true_eq_false, not_false_eq_true] at hc))) | (refine And.intro (fun hc => ?_) (fun hc => ?_) <;> (try (simp (disch := decide) only [up_n, up_s, cp_n, rw_n, rw_s, up1_, if_true, if_false, ite_true, ite_false, reduceIte, eq_self, Int.reduceEq, true_and, and_true, not_true_eq_false, not_false_eq_true] at hc)) <;> (try (exfalso; omega))) | (refine fun (hc : ¬ _) => ?_; try (simp (disch := decide) only [up_n, up_s, cp_n, rw_n, rw_s, up1_, if_true, if_false, ite_true, ite_false, reduceIte, eq_self, Int.reduceEq, true_and, and_true, not_true_eq_false, not_false_eq_true] at hc)) | (refine fun (hc : _ = _) => ?_; try (simp (disch := decide) only [up_n, up_s, cp_n, rw_n, rw_s, up1_, if_true, if_false, ite_true, ite_false, reduceIte, eq_self, Int.reduceEq, true_and, and_true, not_true_eq_false, not_false_eq_true] at hc)))
  all_goals first | (exfalso; omega) | (exfalso; rename_i hx; exact hx (Or.inr trivial)) | skip
  refine c_rb_52 hR hn hb (fun M1 T X K hf1 hR1 e18 e39 hd hBN hRN hfX hE hF => ?_)
  obtain ⟨f0, f1, f2, f3, f5, f6, f7, f8, f9, fp⟩ := hF
  have hK := hE.1
  have hSI := rs_si hw (fun i q0 => (hRN.2.2.2.2 i q0).2) hb K
  have hk := hR.pp.2.2.2.2.2.2.2.2
  have e16 : X 0 16 = M 75 15 := by
    rw [hfX 0 16 (by omega), hf1 0 16 (by omega)]
    exact hk.1
  repeat' (first | (refine And.intro (by first | omega | (simp (disch := decide) only [up_n, up_s, cp_n, rw_n, rw_s, up1_, if_true, if_false, ite_true, ite_false, reduceIte, eq_self, Int.reduceEq, true_and, and_true, not_true_eq_false, not_false_eq_true]; omega)) ?_) | (refine And.intro (fun hc => ?_) (fun hc => ?_) <;> (try (simp (disch := decide) only [up_n, up_s, cp_n, rw_n, rw_s, up1_, if_true, if_false, ite_true, ite_false, reduceIte, eq_self, Int.reduceEq, true_and, and_true, not_true_eq_false, not_false_eq_true] at hc)) <;> (try (exfalso; omega))) | (refine fun (hc : ¬ _) => ?_; try (simp (disch := decide) only [up_n, up_s, cp_n, rw_n, rw_s, up1_, if_true, if_false, ite_true, ite_false, reduceIte, eq_self, Int.reduceEq, true_and, and_true, not_true_eq_false, not_false_eq_true] at hc)) | (refine fun (hc : _ = _) => ?_; try (simp (disch := decide) only [up_n, up_s, cp_n, rw_n, rw_s, up1_, if_true, if_false, ite_true, ite_false, reduceIte, eq_self, Int.reduceEq, true_and, and_true, not_true_eq_false, not_false_eq_true] at hc)))
  all_goals first | (exfalso; omega) | skip
  all_goals (show fr_Call 104 _ sh0 _ _)
  simp (disch := decide) only [up_n, up_s, cp_n, rw_n, rw_s, up1_, if_true, if_false, ite_true, ite_false, reduceIte, eq_self, Int.reduceEq, true_and, and_true, not_true_eq_false, not_false_eq_true]
  rw [e16]
  refine c_missedWith hk.2 (by omega) (fun g58 => ?_)
  have em : (lrun (M 75 15).toNat (X 54) (X 52 2).toNat).2 = (lrun (M 75 15).toNat (pgf (pg M) (tpf M) (lgT (pg M) T) a0) K).2 := by
    rw [f2, Int.toNat_natCast]
    rw [lrun_cg (g := pgf (pg M) (tpf M) (lgT (pg M) T) a0) K (fun i q0 q1 => ?_)]
    have := (fp i.toNat (by omega)).2
    rw [show ((i.toNat : Nat) : Int) = i by omega] at this
    rw [this]
    rfl
  rw [em]
  have hcn := lrun_cnt (k := (M 75 15).toNat) (pg := pgf (pg M) (tpf M) (lgT (pg M) T) a0) K
  repeat' (first | (refine And.intro (by first | omega | (simp (disch := decide) only [up_n, up_s, cp_n, rw_n, rw_s, up1_, if_true, if_false, ite_true, ite_false, reduceIte, eq_self, Int.reduceEq, true_and, and_true, not_true_eq_false, not_false_eq_true]; omega)) ?_) | (refine And.intro (fun hc => ?_) (fun hc => ?_) <;> (try (simp (disch := decide) only [up_n, up_s, cp_n, rw_n, rw_s, up1_, if_true, if_false, ite_true, ite_false, reduceIte, eq_self, Int.reduceEq, true_and, and_true, not_true_eq_false, not_false_eq_true] at hc)) <;> (try (exfalso; omega))) | (refine fun (hc : ¬ _) => ?_; try (simp (disch := decide) only [up_n, up_s, cp_n, rw_n, rw_s, up1_, if_true, if_false, ite_true, ite_false, reduceIte, eq_self, Int.reduceEq, true_and, and_true, not_true_eq_false, not_false_eq_true] at hc)) | (refine fun (hc : _ = _) => ?_; try (simp (disch := decide) only [up_n, up_s, cp_n, rw_n, rw_s, up1_, if_true, if_false, ite_true, ite_false, reduceIte, eq_self, Int.reduceEq, true_and, and_true, not_true_eq_false, not_false_eq_true] at hc)))
  all_goals first | (exfalso; omega) | skip
  refine ⟨rfl, _, rfl, ?_⟩
  generalize hW : fr_up (rw_ X 58 g58) 52 9 (lrun (M 75 15).toNat (pgf (pg M) (tpf M) (lgT (pg M) T) a0) K).2 = W
  have hWX : ∀ k i, ¬ (k = 58 ∨ (k = 52 ∧ i = 9)) → W k i = X k i := fun k i hk => by
    rw [← hW, up_x (by omega), rw_n (by omega)]
  have hW9 : W 52 9 = (lrun (M 75 15).toNat (pgf (pg M) (tpf M) (lgT (pg M) T) a0) K).2 := by rw [← hW]; rfl
  have hWM : ∀ k i, ¬ (lp k i ∨ k = 44 ∨ (52 ≤ k ∧ k ≤ 58)) → W k i = M k i := fun k i hk => by
    rw [hWX k i (by omega), hfX k i (by omega), hf1 k i (by omega)]
  clear hW
  have hQX : QN (pg M) (tpf M) W := by
    obtain ⟨n1, n2, n3⟩ := hQN
    refine ⟨pg_cg (fun k i q => hWM k i (by omega)), ?_, fun i q0 => ?_⟩
    · rw [hWM 75 17 (by omega)]
      exact n2
    · rw [hWM 75 17 (by omega), hWM 87 _ (by omega)]
      exact n3 i q0
  have e4 : W 75 4 = M 75 4 := hWM 75 4 (by omega)
  have e15 : W 75 15 = M 75 15 := hWM 75 15 (by omega)
  have hPW : PP W := hR.pp.cg (fun k i hk => hWM k i (by omega))
  refine fr_cgo k199 [some (.inr (.inl 75)), some (.inl a0), some (.inl 1), none] 0 0 [27] 400 rfl rfl rfl rfl ?_
  repeat' (first | (refine And.intro (by first | omega | (simp (disch := decide) only [up_n, up_s, cp_n, rw_n, rw_s, up1_, if_true, if_false, ite_true, ite_false, reduceIte, eq_self, Int.reduceEq, true_and, and_true, not_true_eq_false, not_false_eq_true]; omega)) ?_) | (refine m_isBlock (by omega) (fun hc => ?_) (fun hc => ?_) <;> (try (simp (disch := decide) only [up_n, up_s, cp_n, rw_n, rw_s, up1_, if_true, if_false, ite_true, ite_false, reduceIte, eq_self, Int.reduceEq, true_and, and_true, not_true_eq_false, not_false_eq_true] at hc))) | (refine m_in (fun hc => ?_) (fun hc => ?_) <;> (try (simp (disch := decide) only [up_n, up_s, cp_n, rw_n, rw_s, up1_, if_true, if_false, ite_true, ite_false, reduceIte, eq_self, Int.reduceEq, true_and, and_true, not_true_eq_false, not_false_eq_true] at hc))) | (refine And.intro (fun hc => ?_) (fun hc => ?_) <;> (try (simp (disch := decide) only [up_n, up_s, cp_n, rw_n, rw_s, up1_, if_true, if_false, ite_true, ite_false, reduceIte, eq_self, Int.reduceEq, true_and, and_true, not_true_eq_false, not_false_eq_true] at hc)) <;> (try (exfalso; omega))) | (refine fun (hc : ¬ _) => ?_; try (simp (disch := decide) only [up_n, up_s, cp_n, rw_n, rw_s, up1_, if_true, if_false, ite_true, ite_false, reduceIte, eq_self, Int.reduceEq, true_and, and_true, not_true_eq_false, not_false_eq_true] at hc)) | (refine fun (hc : _ = _) => ?_; try (simp (disch := decide) only [up_n, up_s, cp_n, rw_n, rw_s, up1_, if_true, if_false, ite_true, ite_false, reduceIte, eq_self, Int.reduceEq, true_and, and_true, not_true_eq_false, not_false_eq_true] at hc)))
  all_goals first | (exfalso; omega) | skip
  refine m_goes1 hw hQX hPW hb (fun Y K' T' hfY hT' hE' hG => ?_)
  have eK : K' = K := hE'.uniq hE
  subst eK
  have eT : T' = T := T_uniq hT' hd
  subst eT
  rw [e15] at hG
  obtain ⟨g0, g1, g2, g3, ⟨g4, g5, g6, g7, g8⟩, gp⟩ := hG
  repeat' (first | (refine And.intro (by first | omega | (simp (disch := decide) only [up_n, up_s, cp_n, rw_n, rw_s, up1_, if_true, if_false, ite_true, ite_false, reduceIte, eq_self, Int.reduceEq, true_and, and_true, not_true_eq_false, not_false_eq_true]; omega)) ?_) | (refine And.intro (fun hc => ?_) (fun hc => ?_) <;> (try (simp (disch := decide) only [up_n, up_s, cp_n, rw_n, rw_s, up1_, if_true, if_false, ite_true, ite_false, reduceIte, eq_self, Int.reduceEq, true_and, and_true, not_true_eq_false, not_false_eq_true] at hc)) <;> (try (exfalso; omega))) | (refine fun (hc : ¬ _) => ?_; try (simp (disch := decide) only [up_n, up_s, cp_n, rw_n, rw_s, up1_, if_true, if_false, ite_true, ite_false, reduceIte, eq_self, Int.reduceEq, true_and, and_true, not_true_eq_false, not_false_eq_true] at hc)) | (refine fun (hc : _ = _) => ?_; try (simp (disch := decide) only [up_n, up_s, cp_n, rw_n, rw_s, up1_, if_true, if_false, ite_true, ite_false, reduceIte, eq_self, Int.reduceEq, true_and, and_true, not_true_eq_false, not_false_eq_true] at hc)))
  refine q_run (m_r1 (M := fr_up Y 106 1 1) (b := a0) (w := 1) (Or.inr rfl) (fun h107 c107 => ?_) 9 0 (Y 107) (by omega) (by omega) cpr.zero) rw_id
  refine fr_go k199 [46] 400 rfl ?_
  repeat' (first | (refine And.intro (by first | omega | (simp (disch := decide) only [up_n, up_s, cp_n, rw_n, rw_s, up1_, if_true, if_false, ite_true, ite_false, reduceIte, eq_self, Int.reduceEq, true_and, and_true, not_true_eq_false, not_false_eq_true]; omega)) ?_) | (refine And.intro (fun hc => ?_) (fun hc => ?_) <;> (try (simp (disch := decide) only [up_n, up_s, cp_n, rw_n, rw_s, up1_, if_true, if_false, ite_true, ite_false, reduceIte, eq_self, Int.reduceEq, true_and, and_true, not_true_eq_false, not_false_eq_true] at hc)) <;> (try (exfalso; omega))) | (refine fun (hc : ¬ _) => ?_; try (simp (disch := decide) only [up_n, up_s, cp_n, rw_n, rw_s, up1_, if_true, if_false, ite_true, ite_false, reduceIte, eq_self, Int.reduceEq, true_and, and_true, not_true_eq_false, not_false_eq_true] at hc)) | (refine fun (hc : _ = _) => ?_; try (simp (disch := decide) only [up_n, up_s, cp_n, rw_n, rw_s, up1_, if_true, if_false, ite_true, ite_false, reduceIte, eq_self, Int.reduceEq, true_and, and_true, not_true_eq_false, not_false_eq_true] at hc)))
  refine q_run (m_r2 (M := rw_ (fr_up Y 106 1 1) 107 h107) (b := a0) (w := 1) (K := (K' : Int)) (Or.inr rfl) ⟨g1, by omega, by omega⟩ (fun h108 h110 c108 c110 c110' => ?_) K' 0 (Y 108) (Y 110) (by omega) (by omega) cpr.zero (fun q => cpr.zero) (fun q j => by omega)) ?_
  · refine fr_go k199 [] 400 rfl ?_
    repeat' (first | (refine And.intro (by first | omega | (simp (disch := decide) only [up_n, up_s, cp_n, rw_n, rw_s, up1_, if_true, if_false, ite_true, ite_false, reduceIte, eq_self, Int.reduceEq, true_and, and_true, not_true_eq_false, not_false_eq_true]; omega)) ?_) | (refine And.intro (fun hc => ?_) (fun hc => ?_) <;> (try (simp (disch := decide) only [up_n, up_s, cp_n, rw_n, rw_s, up1_, if_true, if_false, ite_true, ite_false, reduceIte, eq_self, Int.reduceEq, true_and, and_true, not_true_eq_false, not_false_eq_true] at hc)) <;> (try (exfalso; omega))) | (refine fun (hc : ¬ _) => ?_; try (simp (disch := decide) only [up_n, up_s, cp_n, rw_n, rw_s, up1_, if_true, if_false, ite_true, ite_false, reduceIte, eq_self, Int.reduceEq, true_and, and_true, not_true_eq_false, not_false_eq_true] at hc)) | (refine fun (hc : _ = _) => ?_; try (simp (disch := decide) only [up_n, up_s, cp_n, rw_n, rw_s, up1_, if_true, if_false, ite_true, ite_false, reduceIte, eq_self, Int.reduceEq, true_and, and_true, not_true_eq_false, not_false_eq_true] at hc)))
    all_goals first | (exfalso; omega) | skip
    have hfr : ∀ k i, ¬ sr k i → rw_ (rw_ (rw_ (fr_up Y 106 1 1) 107 h107) 108 h108) 110 h110 k i = M k i := by
      intro k i hk
      rw [rw_n (by omega), rw_n (by omega), rw_n (by omega), up_x (by omega), hfY k i (by omega), hWM k i (by omega)]
    have hlay : ∀ k i, rl k i = true → rw_ (rw_ (rw_ (fr_up Y 106 1 1) 107 h107) 108 h108) 110 h110 k i = M1 k i := by
      intro k i hk
      simp [rl] at hk
      rw [rw_n (by omega), rw_n (by omega), rw_n (by omega), up_x (by omega), hfY k i (by omega), hWX k i (by omega), hfX k i (by omega)]
    have hY : ∀ k i, (45 ≤ k ∧ k ≤ 74) → Y k i = W k i := fun k i hk => hfY k i (by omega)
    have hY2 : ∀ k i, (106 ≤ k ∧ k ≤ 110) → Y k i = M k i := fun k i hk => by
      rw [hfY k i (by omega), hWM k i (by omega)]
    have c107 : cpr h107 (Y 107) (Y 111) (9 * 1) 0 9 := c107
    have c108 : cpr h108 (Y 108) (Y 112) (200 * 1) 0 (K' : Int) := c108
    have c110 : cpr h110 (Y 110) (Y 116) 0 0 (K' : Int) := c110 rfl
    have told : ∀ i, 0 ≤ i → i < 9 → h107 (9 * 1 + i) = Y 111 i := by
      intro i q0 q1
      rw [(c107 (9 * 1 + i)).1 (by omega)]
      congr 1
      omega
    have told' : ∀ i, i < 9 → h107 i = M 107 i := by
      intro i q0
      rw [(c107 i).2 (by omega)]
      exact hY2 107 i (by omega)
    have x52 : ∀ i, i ≠ 9 → Y 52 i = X 52 i := fun i q => by
      rw [hY 52 i (by omega), hWX 52 i (by omega)]
    have x529 : Y 52 9 = (lrun (M 75 15).toNat (pgf (pg M) (tpf M) (lgT (pg M) T') a0) K').2 := by
      rw [hY 52 9 (by omega), hW9]
    obtain ⟨h0, h1, h2, h3, h4, h5, h6, h7, h8, o1, o2, o3, k1, k2, k3, k4, k5, t1, t2, s1, r1, r1', r2, r2', r3, r4, l⟩ := id hR
    have hl1 : RL (n + 1) M1 := by
      have hx := hR1
      obtain ⟨-, -, -, -, -, -, -, -, -, -, -, -, -, -, -, -, -, -, -, -, -, -, -, -, -, -, hl⟩ := hx
      exact hl
    refine ⟨rfl, sv ?_, hR.run hfr ?_ ?_ ?_ ?_ ?_ ?_ (hl1.same hlay)⟩
    · show Y 111 0 = W 52 1
      rw [hWX 52 1 (by omega), g0, f1]
    · have e := r1
      unfold R1 at e ⊢
      have a : ∀ i, rw_ (rw_ (rw_ (fr_up Y 106 1 1) 107 h107) 108 h108) 110 h110 45 i = M 45 i := fun i => by
        rw [rw_n (by omega), rw_n (by omega), rw_n (by omega), up_x (by omega), hfY 45 i (by omega), hWM 45 i (by omega)]
      have b106 : rw_ (rw_ (rw_ (fr_up Y 106 1 1) 107 h107) 108 h108) 110 h110 106 0 = M 106 0 := by
        rw [rw_n (by omega), rw_n (by omega), rw_n (by omega), up_x (by omega)]
        exact hY2 106 0 (by omega)
      have b107 : ∀ i, i < 9 → rw_ (rw_ (rw_ (fr_up Y 106 1 1) 107 h107) 108 h108) 110 h110 107 i = M 107 i := fun i q => told' i q
      rw [a, a, a, a, a, a, a, a, a, b106, b107 _ (by omega), b107 _ (by omega), b107 _ (by omega), b107 _ (by omega), b107 _ (by omega), b107 _ (by omega), b107 _ (by omega), b107 _ (by omega), b107 _ (by omega)]
      exact e
    · show Y 52 0 = 1 ∧ ((1 : Int) = 0 ∨ (1 : Int) = 1) ∧ 0 ≤ Y 52 2 ∧ Y 52 2 ≤ 200 ∧ ((1 : Int) = 0 → Y 52 2 = 0) ∧ ((1 : Int) = 1 → h107 (9 * 1 + 0) = Y 52 1 ∧ h107 (9 * 1 + 1) = Y 52 2 ∧ h107 (9 * 1 + 2) = Y 52 3 ∧ h107 (9 * 1 + 3) = Y 52 5 ∧ h107 (9 * 1 + 4) = 2 * Y 52 6 + 3 * Y 52 7 + Y 52 8 + 50 * Y 52 9 ∧ h107 (9 * 1 + 5) = Y 52 6 ∧ h107 (9 * 1 + 6) = Y 52 7 ∧ h107 (9 * 1 + 7) = Y 52 8 ∧ h107 (9 * 1 + 8) = Y 52 9 ∧ (0 ≤ Y 52 6 ∧ Y 52 6 ≤ 1000) ∧ (0 ≤ Y 52 7 ∧ Y 52 7 ≤ 1000) ∧ (0 ≤ Y 52 8 ∧ Y 52 8 ≤ 1000) ∧ (0 ≤ Y 52 9 ∧ Y 52 9 ≤ 1000))
      rw [told 0 (by omega) (by omega), told 1 (by omega) (by omega), told 2 (by omega) (by omega), told 3 (by omega) (by omega), told 4 (by omega) (by omega), told 5 (by omega) (by omega), told 6 (by omega) (by omega), told 7 (by omega) (by omega), told 8 (by omega) (by omega)]
      have s9 := hSI.2.2.2.2.2.2
      rw [x52 0 (by omega), x52 1 (by omega), x52 2 (by omega), x52 3 (by omega), x52 5 (by omega), x52 6 (by omega), x52 7 (by omega), x52 8 (by omega), x529, f0, f1, f2, f3, f5, f6, f7, f8, g4, g0, g1, g2, g3, g5, g6, g7, g8]
      refine ⟨rfl, Or.inr rfl, by omega, by omega, fun q => by omega, fun _ => ⟨rfl, rfl, rfl, rfl, rfl, rfl, rfl, rfl, rfl, by omega, by omega, by omega, by omega⟩⟩
    · intro i q0 q1
      have q1 : i < Y 45 2 := q1
      rw [hfY 45 2 (by omega), hWM 45 2 (by omega)] at q1
      have r2 := r2 i q0 q1
      have r12 := r1.2.2.2.1
      show h108 (200 * 0 + i) = Y 46 i
      rw [(c108 (200 * 0 + i)).2 (by omega), hY2 108 _ (by omega), hfY 46 i (by omega), hWM 46 i (by omega)]
      exact r2
    · intro i q0 q1
      have q1 : i < Y 52 2 := q1
      rw [x52 2 (by omega), f2] at q1
      show h108 (200 * 1 + i) = Y 53 i
      rw [(c108 (200 * 1 + i)).1 (by omega), hY 53 i (by omega), hWX 53 i (by omega), show 0 + (200 * 1 + i - 200 * 1) = i by omega]
      have x := (gp i.toNat (by omega)).1
      have y := (fp i.toNat (by omega)).1
      rw [show ((i.toNat : Nat) : Int) = i by omega] at x y
      rw [x, y]
    · unfold R3 at r3 ⊢
      have b1 : rw_ (rw_ (rw_ (fr_up Y 106 1 1) 107 h107) 108 h108) 110 h110 0 17 = M 0 17 := by
        rw [rw_n (by omega), rw_n (by omega), rw_n (by omega), up_x (by omega), hfY 0 17 (by omega), hWM 0 17 (by omega)]
      have b2 : rw_ (rw_ (rw_ (fr_up Y 106 1 1) 107 h107) 108 h108) 110 h110 75 41 = M 75 41 := by
        rw [rw_n (by omega), rw_n (by omega), rw_n (by omega), up_x (by omega), hfY 75 41 (by omega), hWM 75 41 (by omega)]
      have b3 : rw_ (rw_ (rw_ (fr_up Y 106 1 1) 107 h107) 108 h108) 110 h110 45 0 = M 45 0 := by
        rw [rw_n (by omega), rw_n (by omega), rw_n (by omega), up_x (by omega), hfY 45 0 (by omega), hWM 45 0 (by omega)]
      have b4 : ∀ i, rw_ (rw_ (rw_ (fr_up Y 106 1 1) 107 h107) 108 h108) 110 h110 48 i = M 48 i := fun i => by
        rw [rw_n (by omega), rw_n (by omega), rw_n (by omega), up_x (by omega), hfY 48 i (by omega), hWM 48 i (by omega)]
      have b5 : ∀ i, rw_ (rw_ (rw_ (fr_up Y 106 1 1) 107 h107) 108 h108) 110 h110 109 i = M 109 i := fun i => by
        rw [rw_n (by omega), rw_n (by omega), rw_n (by omega), up_x (by omega), hY2 109 i (by omega)]
      rw [b1, b2, b3]
      refine ⟨r3.1, r3.2.1, r3.2.2.1, fun q i q0 q1 => ?_⟩
      rw [b4, b5]
      exact r3.2.2.2 q i q0 q1
    · intro i q0 q1
      have q1 : i < Y 52 2 := q1
      rw [x52 2 (by omega), f2] at q1
      show Y 54 i = h110 i
      rw [(c110 i).1 (by omega), hY 54 i (by omega), hWX 54 i (by omega), show 0 + (i - 0) = i by omega]
      have x := (gp i.toNat (by omega)).2
      have y := (fp i.toNat (by omega)).2
      rw [show ((i.toNat : Nat) : Int) = i by omega] at x y
      rw [x, y]
      rfl
  · exact (congrArg (fun m => rw_ m 110 (Y 110)) (rw_id (k := 108))).trans (rw_id (k := 110))
set_option maxHeartbeats 4000000 in
set_option maxRecDepth 100000 in
theorem op_run {n : Int} {M : fr_M} (hR : Rel n M) (hn : n ≤ 512) (a0 : Int) (a1 : Int) (g0 : fr_in a0) (g1 : fr_in a1) : Two 131 199 [.inl a0, .inl a1] M (Rel (n + 1)) := by
  have hN := hR.next
  have p4 : M 1 1 = M 75 4 := hR.2.1.2.2.2.1
  have p5 : 0 ≤ M 75 4 := hR.2.1.2.2.2.2.1
  have p6 : M 75 4 ≤ 40 := hR.2.1.2.2.2.2.2
  by_cases hs : (0 ≤ a0 ∧ a0 < M 75 4) ∧ (a1 = 0 ∨ a1 = 1)
  · obtain ⟨hb, rfl | rfl⟩ := hs
    · exact op_run0 hR hn a0 hb
    · exact op_run1 hR hn a0 hb
  · refine Two.of ?_
    by_cases hb : 0 ≤ a0 ∧ a0 < M 75 4
    · refine fr_cgo k131 [some (.inr (.inl 0)), some (.inl a0), some (.inl a1)] 0 0 [] 400 rfl rfl rfl rfl ?_
      repeat' (first | (refine And.intro (by first | omega | (simp (disch := decide) only [up_n, up_s, cp_n, rw_n, rw_s, up1_, if_true, if_false, ite_true, ite_false, reduceIte, eq_self, Int.reduceEq, true_and, and_true, not_true_eq_false, not_false_eq_true]; omega)) ?_) | (refine c_isBlock (fun hc => ?_) (fun hc => ?_) <;> (try (simp (disch := decide) only [up_n, up_s, cp_n, rw_n, rw_s, up1_, if_true, if_false, ite_true, ite_false, reduceIte, eq_self, Int.reduceEq, true_and, and_true, not_true_eq_false, not_false_eq_true] at hc))) | (refine c_isSort (fun hc => ?_) (fun hc => ?_) <;> (try (simp (disch := decide) only [up_n, up_s, cp_n, rw_n, rw_s, up1_, if_true, if_false, ite_true, ite_false, reduceIte, eq_self, Int.reduceEq, true_and, and_true, not_true_eq_false, not_false_eq_true] at hc))) | (refine And.intro (fun hc => ?_) (fun hc => ?_) <;> (try (simp (disch := decide) only [up_n, up_s, cp_n, rw_n, rw_s, up1_, if_true, if_false, ite_true, ite_false, reduceIte, eq_self, Int.reduceEq, true_and, and_true, not_true_eq_false, not_false_eq_true] at hc)) <;> (try (exfalso; omega))) | (refine fun (hc : ¬ _) => ?_; try (simp (disch := decide) only [up_n, up_s, cp_n, rw_n, rw_s, up1_, if_true, if_false, ite_true, ite_false, reduceIte, eq_self, Int.reduceEq, true_and, and_true, not_true_eq_false, not_false_eq_true] at hc)) | (refine fun (hc : _ = _) => ?_; try (simp (disch := decide) only [up_n, up_s, cp_n, rw_n, rw_s, up1_, if_true, if_false, ite_true, ite_false, reduceIte, eq_self, Int.reduceEq, true_and, and_true, not_true_eq_false, not_false_eq_true] at hc)))
      all_goals first | (exfalso; omega) | refine ⟨rfl, _, rfl, ?_⟩
      all_goals (refine fr_cgo k199 [some (.inr (.inl 75)), some (.inl a0), some (.inl a1), none] 0 0 [] 400 rfl rfl rfl rfl ?_)
      all_goals (repeat' (first | (refine And.intro (by first | omega | (simp (disch := decide) only [up_n, up_s, cp_n, rw_n, rw_s, up1_, if_true, if_false, ite_true, ite_false, reduceIte, eq_self, Int.reduceEq, true_and, and_true, not_true_eq_false, not_false_eq_true]; omega)) ?_) | (refine m_isBlock (by omega) (fun hc => ?_) (fun hc => ?_) <;> (try (simp (disch := decide) only [up_n, up_s, cp_n, rw_n, rw_s, up1_, if_true, if_false, ite_true, ite_false, reduceIte, eq_self, Int.reduceEq, true_and, and_true, not_true_eq_false, not_false_eq_true] at hc))) | (refine m_in (fun hc => ?_) (fun hc => ?_) <;> (try (simp (disch := decide) only [up_n, up_s, cp_n, rw_n, rw_s, up1_, if_true, if_false, ite_true, ite_false, reduceIte, eq_self, Int.reduceEq, true_and, and_true, not_true_eq_false, not_false_eq_true] at hc))) | (refine And.intro (fun hc => ?_) (fun hc => ?_) <;> (try (simp (disch := decide) only [up_n, up_s, cp_n, rw_n, rw_s, up1_, if_true, if_false, ite_true, ite_false, reduceIte, eq_self, Int.reduceEq, true_and, and_true, not_true_eq_false, not_false_eq_true] at hc)) <;> (try (exfalso; omega))) | (refine fun (hc : ¬ _) => ?_; try (simp (disch := decide) only [up_n, up_s, cp_n, rw_n, rw_s, up1_, if_true, if_false, ite_true, ite_false, reduceIte, eq_self, Int.reduceEq, true_and, and_true, not_true_eq_false, not_false_eq_true] at hc)) | (refine fun (hc : _ = _) => ?_; try (simp (disch := decide) only [up_n, up_s, cp_n, rw_n, rw_s, up1_, if_true, if_false, ite_true, ite_false, reduceIte, eq_self, Int.reduceEq, true_and, and_true, not_true_eq_false, not_false_eq_true] at hc))))
      all_goals first | (exfalso; omega) | exact ⟨rfl, rfl, hN⟩
    · refine fr_cgo k131 [some (.inr (.inl 0)), some (.inl a0), some (.inl a1)] 0 0 [] 400 rfl rfl rfl rfl ?_
      repeat' (first | (refine And.intro (by first | omega | (simp (disch := decide) only [up_n, up_s, cp_n, rw_n, rw_s, up1_, if_true, if_false, ite_true, ite_false, reduceIte, eq_self, Int.reduceEq, true_and, and_true, not_true_eq_false, not_false_eq_true]; omega)) ?_) | (refine c_isBlock (fun hc => ?_) (fun hc => ?_) <;> (try (simp (disch := decide) only [up_n, up_s, cp_n, rw_n, rw_s, up1_, if_true, if_false, ite_true, ite_false, reduceIte, eq_self, Int.reduceEq, true_and, and_true, not_true_eq_false, not_false_eq_true] at hc))) | (refine c_isSort (fun hc => ?_) (fun hc => ?_) <;> (try (simp (disch := decide) only [up_n, up_s, cp_n, rw_n, rw_s, up1_, if_true, if_false, ite_true, ite_false, reduceIte, eq_self, Int.reduceEq, true_and, and_true, not_true_eq_false, not_false_eq_true] at hc))) | (refine And.intro (fun hc => ?_) (fun hc => ?_) <;> (try (simp (disch := decide) only [up_n, up_s, cp_n, rw_n, rw_s, up1_, if_true, if_false, ite_true, ite_false, reduceIte, eq_self, Int.reduceEq, true_and, and_true, not_true_eq_false, not_false_eq_true] at hc)) <;> (try (exfalso; omega))) | (refine fun (hc : ¬ _) => ?_; try (simp (disch := decide) only [up_n, up_s, cp_n, rw_n, rw_s, up1_, if_true, if_false, ite_true, ite_false, reduceIte, eq_self, Int.reduceEq, true_and, and_true, not_true_eq_false, not_false_eq_true] at hc)) | (refine fun (hc : _ = _) => ?_; try (simp (disch := decide) only [up_n, up_s, cp_n, rw_n, rw_s, up1_, if_true, if_false, ite_true, ite_false, reduceIte, eq_self, Int.reduceEq, true_and, and_true, not_true_eq_false, not_false_eq_true] at hc)))
      all_goals first | (exfalso; omega) | refine ⟨rfl, _, rfl, ?_⟩
      all_goals (refine fr_cgo k199 [some (.inr (.inl 75)), some (.inl a0), some (.inl a1), none] 0 0 [] 400 rfl rfl rfl rfl ?_)
      all_goals (repeat' (first | (refine And.intro (by first | omega | (simp (disch := decide) only [up_n, up_s, cp_n, rw_n, rw_s, up1_, if_true, if_false, ite_true, ite_false, reduceIte, eq_self, Int.reduceEq, true_and, and_true, not_true_eq_false, not_false_eq_true]; omega)) ?_) | (refine m_isBlock (by omega) (fun hc => ?_) (fun hc => ?_) <;> (try (simp (disch := decide) only [up_n, up_s, cp_n, rw_n, rw_s, up1_, if_true, if_false, ite_true, ite_false, reduceIte, eq_self, Int.reduceEq, true_and, and_true, not_true_eq_false, not_false_eq_true] at hc))) | (refine m_in (fun hc => ?_) (fun hc => ?_) <;> (try (simp (disch := decide) only [up_n, up_s, cp_n, rw_n, rw_s, up1_, if_true, if_false, ite_true, ite_false, reduceIte, eq_self, Int.reduceEq, true_and, and_true, not_true_eq_false, not_false_eq_true] at hc))) | (refine And.intro (fun hc => ?_) (fun hc => ?_) <;> (try (simp (disch := decide) only [up_n, up_s, cp_n, rw_n, rw_s, up1_, if_true, if_false, ite_true, ite_false, reduceIte, eq_self, Int.reduceEq, true_and, and_true, not_true_eq_false, not_false_eq_true] at hc)) <;> (try (exfalso; omega))) | (refine fun (hc : ¬ _) => ?_; try (simp (disch := decide) only [up_n, up_s, cp_n, rw_n, rw_s, up1_, if_true, if_false, ite_true, ite_false, reduceIte, eq_self, Int.reduceEq, true_and, and_true, not_true_eq_false, not_false_eq_true] at hc)) | (refine fun (hc : _ = _) => ?_; try (simp (disch := decide) only [up_n, up_s, cp_n, rw_n, rw_s, up1_, if_true, if_false, ite_true, ite_false, reduceIte, eq_self, Int.reduceEq, true_and, and_true, not_true_eq_false, not_false_eq_true] at hc))))
      all_goals first | (exfalso; omega) | exact ⟨rfl, rfl, hN⟩
