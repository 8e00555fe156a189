set_option maxHeartbeats 4000000 in
set_option maxRecDepth 100000 in
theorem c_rb0_52 {N p : fr_M} {tp lg : Int → Int} {b0 : Int} {Q : Option fr_V → fr_H → fr_M → Prop} (e18 : N 29 18 = 1) (e39 : N 39 4 = N 29 17) (hw : WF p) (hN : RN p tp N) (hB : BN p lg N) (hb : 0 ≤ b0 ∧ b0 < p 75 4) (h : ∀ X K, (∀ k i, ¬ (k = 44 ∨ (52 ≤ k ∧ k ≤ 57)) → X k i = N k i) → REnd p tp b0 K → RY_52 p tp lg b0 K X → Q none sh0 X) : fr_Call 97 [.inr (.inl 44), .inl b0, .inr (.inl 52)] sh0 N Q := by
  refine fr_cgo k97 [some (.inr (.inl 44)), some (.inl b0), some (.inr (.inl 52)), none, none] 0 0 [3] 400 rfl rfl rfl rfl ?_
  refine c_refresh0 e18 e39 ?_
  repeat' (first | (refine And.intro (by first | omega | (simp (disch := decide) only [up_n, up_s, cp_n, rw_n, rw_s, up1_, if_true, if_false, ite_true, ite_false, reduceIte, eq_self, Int.reduceEq, true_and, and_true, not_true_eq_false, not_false_eq_true]; omega)) ?_) | (refine And.intro (fun hc => ?_) (fun hc => ?_) <;> (try (simp (disch := decide) only [up_n, up_s, cp_n, rw_n, rw_s, up1_, if_true, if_false, ite_true, ite_false, reduceIte, eq_self, Int.reduceEq, true_and, and_true, not_true_eq_false, not_false_eq_true] at hc)) <;> (try (exfalso; omega))) | (refine fun (hc : ¬ _) => ?_; try (simp (disch := decide) only [up_n, up_s, cp_n, rw_n, rw_s, up1_, if_true, if_false, ite_true, ite_false, reduceIte, eq_self, Int.reduceEq, true_and, and_true, not_true_eq_false, not_false_eq_true] at hc)) | (refine fun (hc : _ = _) => ?_; try (simp (disch := decide) only [up_n, up_s, cp_n, rw_n, rw_s, up1_, if_true, if_false, ite_true, ite_false, reduceIte, eq_self, Int.reduceEq, true_and, and_true, not_true_eq_false, not_false_eq_true] at hc)))
  exact c_ry_52 hw hN hB hb h
set_option maxHeartbeats 4000000 in
set_option maxRecDepth 100000 in
theorem c_rb_52 {n : Int} {M : fr_M} {b0 : Int} {Q : Option fr_V → fr_H → fr_M → Prop} (hR : Rel n M) (hn : n ≤ 512) (hb : 0 ≤ b0 ∧ b0 < M 75 4) (h : ∀ M1 (T : Nat) X K, (∀ k i, ¬ lp k i → M1 k i = M k i) → Rel (n + 1) M1 → M1 29 18 = 1 → M1 39 4 = M1 29 17 → (dn (pg M) T ∧ ∀ t, t < T → ¬ dn (pg M) t) → BN (pg M) (lgT (pg M) T) M1 → RN (pg M) (tpf M) M1 → (∀ k i, ¬ (k = 44 ∨ (52 ≤ k ∧ k ≤ 57)) → X k i = M1 k i) → REnd (pg M) (tpf M) b0 K → RY_52 (pg M) (tpf M) (lgT (pg M) T) b0 K X → Q none sh0 X) : fr_Call 97 [.inr (.inl 44), .inl b0, .inr (.inl 52)] sh0 M Q := by
  refine fr_cgo k97 [some (.inr (.inl 44)), some (.inl b0), some (.inr (.inl 52)), none, none] 0 0 [3] 400 rfl rfl rfl rfl ?_
  refine op_refresh hR hn (fun M1 hf hR1 e18 e39 => ?_)
  repeat' (first | (refine And.intro (by first | omega | (simp (disch := decide) only [up_n, up_s, cp_n, rw_n, rw_s, up1_, if_true, if_false, ite_true, ite_false, reduceIte, eq_self, Int.reduceEq, true_and, and_true, not_true_eq_false, not_false_eq_true]; omega)) ?_) | (refine And.intro (fun hc => ?_) (fun hc => ?_) <;> (try (simp (disch := decide) only [up_n, up_s, cp_n, rw_n, rw_s, up1_, if_true, if_false, ite_true, ite_false, reduceIte, eq_self, Int.reduceEq, true_and, and_true, not_true_eq_false, not_false_eq_true] at hc)) <;> (try (exfalso; omega))) | (refine fun (hc : ¬ _) => ?_; try (simp (disch := decide) only [up_n, up_s, cp_n, rw_n, rw_s, up1_, if_true, if_false, ite_true, ite_false, reduceIte, eq_self, Int.reduceEq, true_and, and_true, not_true_eq_false, not_false_eq_true] at hc)) | (refine fun (hc : _ = _) => ?_; try (simp (disch := decide) only [up_n, up_s, cp_n, rw_n, rw_s, up1_, if_true, if_false, ite_true, ite_false, reduceIte, eq_self, Int.reduceEq, true_and, and_true, not_true_eq_false, not_false_eq_true] at hc)))
  have hl := hR1
  obtain ⟨h0, h1, h2, h3, h4, h5, h6, h7, h8, o1, o2, o3, k1, k2, k3, k4, k5, t1, t2, s1, r1, r1', r2, r2', r3, r4, l⟩ := hl
  obtain ⟨T, hT, hPi⟩ := (l.in_).2.2.2.2.2.2 e18 e39
  have ep : pg M1 = pg M := pg_cg (fun k i q => hf k i (by omega))
  have et : tpf M1 = tpf M := by
    funext i
    unfold tpf
    rw [hf 75 17 (by omega), hf 87 i (by omega)]
  have hw := hR1.wf
  have hRN := rn_of hR1
  have hBN := bn_of hR1 hT hPi
  have hd := hT.1
  rw [ep] at hw hRN hBN hd
  rw [et] at hRN
  exact c_ry_52 hw hRN hBN hb (fun X K hfX hE hF => h M1 T X K hf hR1 e18 e39 hd hBN hRN hfX hE hF)
set_option maxHeartbeats 4000000 in
set_option maxRecDepth 100000 in
theorem c_rb0_66 {N p : fr_M} {tp lg : Int → Int} {b0 : Int} {Q : Option fr_V → fr_H → fr_M → Prop} (e18 : N 29 18 = 1) (e39 : N 39 4 = N 29 17) (hw : WF p) (hN : RN p tp N) (hB : BN p lg N) (hb : 0 ≤ b0 ∧ b0 < p 75 4) (h : ∀ X K, (∀ k i, ¬ (k = 44 ∨ (66 ≤ k ∧ k ≤ 71)) → X k i = N k i) → REnd p tp b0 K → RY_66 p tp lg b0 K X → Q none sh0 X) : fr_Call 97 [.inr (.inl 44), .inl b0, .inr (.inl 66)] sh0 N Q := by
  refine fr_cgo k97 [some (.inr (.inl 44)), some (.inl b0), some (.inr (.inl 66)), none, none] 0 0 [3] 400 rfl rfl rfl rfl ?_
  refine c_refresh0 e18 e39 ?_
  repeat' (first | (refine And.intro (by first | omega | (simp (disch := decide) only [up_n, up_s, cp_n, rw_n, rw_s, up1_, if_true, if_false, ite_true, ite_false, reduceIte, eq_self, Int.reduceEq, true_and, and_true, not_true_eq_false, not_false_eq_true]; omega)) ?_) | (refine And.intro (fun hc => ?_) (fun hc => ?_) <;> (try (simp (disch := decide) only [up_n, up_s, cp_n, rw_n, rw_s, up1_, if_true, if_false, ite_true, ite_false, reduceIte, eq_self, Int.reduceEq, true_and, and_true, not_true_eq_false, not_false_eq_true] at hc)) <;> (try (exfalso; omega))) | (refine fun (hc : ¬ _) => ?_; try (simp (disch := decide) only [up_n, up_s, cp_n, rw_n, rw_s, up1_, if_true, if_false, ite_true, ite_false, reduceIte, eq_self, Int.reduceEq, true_and, and_true, not_true_eq_false, not_false_eq_true] at hc)) | (refine fun (hc : _ = _) => ?_; try (simp (disch := decide) only [up_n, up_s, cp_n, rw_n, rw_s, up1_, if_true, if_false, ite_true, ite_false, reduceIte, eq_self, Int.reduceEq, true_and, and_true, not_true_eq_false, not_false_eq_true] at hc)))
  exact c_ry_66 hw hN hB hb h
set_option maxHeartbeats 4000000 in
set_option maxRecDepth 100000 in
theorem c_rb_66 {n : Int} {M : fr_M} {b0 : Int} {Q : Option fr_V → fr_H → fr_M → Prop} (hR : Rel n M) (hn : n ≤ 512) (hb : 0 ≤ b0 ∧ b0 < M 75 4) (h : ∀ M1 (T : Nat) X K, (∀ k i, ¬ lp k i → M1 k i = M k i) → Rel (n + 1) M1 → M1 29 18 = 1 → M1 39 4 = M1 29 17 → (dn (pg M) T ∧ ∀ t, t < T → ¬ dn (pg M) t) → BN (pg M) (lgT (pg M) T) M1 → RN (pg M) (tpf M) M1 → (∀ k i, ¬ (k = 44 ∨ (66 ≤ k ∧ k ≤ 71)) → X k i = M1 k i) → REnd (pg M) (tpf M) b0 K → RY_66 (pg M) (tpf M) (lgT (pg M) T) b0 K X → Q none sh0 X) : fr_Call 97 [.inr (.inl 44), .inl b0, .inr (.inl 66)] sh0 M Q := by
  refine fr_cgo k97 [some (.inr (.inl 44)), some (.inl b0), some (.inr (.inl 66)), none, none] 0 0 [3] 400 rfl rfl rfl rfl ?_
  refine op_refresh hR hn (fun M1 hf hR1 e18 e39 => ?_)
  repeat' (first | (refine And.intro (by first | omega | (simp (disch := decide) only [up_n, up_s, cp_n, rw_n, rw_s, up1_, if_true, if_false, ite_true, ite_false, reduceIte, eq_self, Int.reduceEq, true_and, and_true, not_true_eq_false, not_false_eq_true]; omega)) ?_) | (refine And.intro (fun hc => ?_) (fun hc => ?_) <;> (try (simp (disch := decide) only [up_n, up_s, cp_n, rw_n, rw_s, up1_, if_true, if_false, ite_true, ite_false, reduceIte, eq_self, Int.reduceEq, true_and, and_true, not_true_eq_false, not_false_eq_true] at hc)) <;> (try (exfalso; omega))) | (refine fun (hc : ¬ _) => ?_; try (simp (disch := decide) only [up_n, up_s, cp_n, rw_n, rw_s, up1_, if_true, if_false, ite_true, ite_false, reduceIte, eq_self, Int.reduceEq, true_and, and_true, not_true_eq_false, not_false_eq_true] at hc)) | (refine fun (hc : _ = _) => ?_; try (simp (disch := decide) only [up_n, up_s, cp_n, rw_n, rw_s, up1_, if_true, if_false, ite_true, ite_false, reduceIte, eq_self, Int.reduceEq, true_and, and_true, not_true_eq_false, not_false_eq_true] at hc)))
  have hl := hR1
  obtain ⟨h0, h1, h2, h3, h4, h5, h6, h7, h8, o1, o2, o3, k1, k2, k3, k4, k5, t1, t2, s1, r1, r1', r2, r2', r3, r4, l⟩ := hl
  obtain ⟨T, hT, hPi⟩ := (l.in_).2.2.2.2.2.2 e18 e39
  have ep : pg M1 = pg M := pg_cg (fun k i q => hf k i (by omega))
  have et : tpf M1 = tpf M := by
    funext i
    unfold tpf
    rw [hf 75 17 (by omega), hf 87 i (by omega)]
  have hw := hR1.wf
  have hRN := rn_of hR1
  have hBN := bn_of hR1 hT hPi
  have hd := hT.1
  rw [ep] at hw hRN hBN hd
  rw [et] at hRN
  exact c_ry_66 hw hRN hBN hb (fun X K hfX hE hF => h M1 T X K hf hR1 e18 e39 hd hBN hRN hfX hE hF)
