set_option maxHeartbeats 4000000 in
set_option maxRecDepth 100000 in
theorem ord_fr {n : Int} {M : fr_M} (hR : Rel n M) (hn : n ≤ 512) {r how : Int} (hr : 0 ≤ r ∧ r < M 75 0) (hm : 0 < M 76 r) (hw : 0 ≤ how ∧ how ≤ 3) (Φ : (Int → Int) → Prop)
    (hcl : ∀ (Z : fr_M) (Q : Option fr_V → fr_H → fr_M → Prop), CZ M r (M 76 r) Z → (∀ Z' x3, (∀ k i, ¬ ((20 ≤ k ∧ k ≤ 28) ∨ k = 74) → Z' k i = Z k i) → Pm (M 76 r) (Z' 74) → Φ (Z' 74) → fr_Run 119 none 68 [some (.inr (.inl 0)), some (.inl r), some (.inl how), x3] [] sh0 Z' 0 0 Q) → fr_Run 119 none 26 [some (.inr (.inl 0)), some (.inl r), some (.inl how), none] [] sh0 Z 0 0 Q)
    (hq : ∀ (W : fr_M) (Q : Option fr_V → fr_H → fr_M → Prop) (rk : Int → Int), (∀ k i, pk k i → W k i = M k i) → Pm (M 76 r) rk → Φ rk → (∀ W' x3, (∀ k i, ¬ (k = 78 ∨ (90 ≤ k ∧ k ≤ 95)) → W' k i = W k i) → (∀ i, 0 ≤ i → i < M 76 r → W' 78 (9 * r + i) = M 77 (9 * r + rk i)) → (∀ j, ¬ (9 * r ≤ j ∧ j < 9 * r + 9) → W' 78 j = M 78 j) → fr_Run 172 none 71 [some (.inr (.inl 75)), some (.inl r), some (.inl how), x3] [] sh0 W' 0 0 Q) → fr_Run 172 none 19 [some (.inr (.inl 75)), some (.inl r), some (.inl how), none] [] sh0 W 0 0 Q) :
    Two 119 172 [.inl r, .inl how] M (Rel (n + 1)) := by
  have hpc := hR.pc
  have hRC := hpc.rc hr hm
  have hrk := rk_of hR hr
  obtain ⟨h0, h1, h2, h3, h4, h5, h6, h7, h8, o1, o2, o3, k1, k2, k3, k4, k5, t1, t2, s1, r1, r1', r2, r2', r3, r4, l⟩ := id hR
  obtain ⟨p1, p2, p3, p4, p5, p6⟩ := id h1
  obtain ⟨e13, e18, e18'⟩ := id k1
  obtain ⟨u1, u2, u3, -⟩ := id (h2 r (by omega) (by omega))
  have hf : ∀ i j, 0 ≤ i → i < M 76 r → 0 ≤ cf M r i j ∧ cf M r i j ≤ 6000000 := fun i j i0 i1 => cf_b hRC ⟨i0, i1⟩
  have hro : ∀ i, 0 ≤ i → i < M 76 r → _ := fun i => o1 r i (by omega) (by omega)
  refine Two.of ?_
  refine fr_cgo k119 [some (.inr (.inl 0)), some (.inl r), some (.inl how), none] 0 0 [26] 400 rfl rfl rfl rfl ?_
  repeat' (first | (refine And.intro (by first | omega | (simp (disch := decide) only [up_n, up_s, cp_n, rw_n, rw_s, up1_, if_true, if_false, ite_true, ite_false, reduceIte, eq_self, Int.reduceEq, true_and, and_true, not_true_eq_false, not_false_eq_true]; omega)) ?_) | (refine c_hasBlocks (by omega) (fun hc => ?_) (fun hc => ?_) <;> (try (simp (disch := decide) only [up_n, up_s, cp_n, rw_n, rw_s, up1_, if_true, if_false, ite_true, ite_false, reduceIte, eq_self, Int.reduceEq, true_and, and_true, not_true_eq_false, not_false_eq_true] at hc))) | (refine And.intro (fun hc => ?_) (fun hc => ?_) <;> (try (simp (disch := decide) only [up_n, up_s, cp_n, rw_n, rw_s, up1_, if_true, if_false, ite_true, ite_false, reduceIte, eq_self, Int.reduceEq, true_and, and_true, not_true_eq_false, not_false_eq_true] at hc)) <;> (try (exfalso; omega))) | (refine fun (hc : ¬ _) => ?_; try (simp (disch := decide) only [up_n, up_s, cp_n, rw_n, rw_s, up1_, if_true, if_false, ite_true, ite_false, reduceIte, eq_self, Int.reduceEq, true_and, and_true, not_true_eq_false, not_false_eq_true] at hc)) | (refine fun (hc : _ = _) => ?_; try (simp (disch := decide) only [up_n, up_s, cp_n, rw_n, rw_s, up1_, if_true, if_false, ite_true, ite_false, reduceIte, eq_self, Int.reduceEq, true_and, and_true, not_true_eq_false, not_false_eq_true] at hc)))
  all_goals first | (exfalso; omega) | skip
  refine c_keep (by omega) (by omega) (fun g16 g17 hks => ?_)
  repeat' (first | (refine And.intro (by first | omega | (simp (disch := decide) only [up_n, up_s, cp_n, rw_n, rw_s, up1_, if_true, if_false, ite_true, ite_false, reduceIte, eq_self, Int.reduceEq, true_and, and_true, not_true_eq_false, not_false_eq_true]; omega)) ?_) | (refine And.intro (fun hc => ?_) (fun hc => ?_) <;> (try (simp (disch := decide) only [up_n, up_s, cp_n, rw_n, rw_s, up1_, if_true, if_false, ite_true, ite_false, reduceIte, eq_self, Int.reduceEq, true_and, and_true, not_true_eq_false, not_false_eq_true] at hc)) <;> (try (exfalso; omega))) | (refine fun (hc : ¬ _) => ?_; try (simp (disch := decide) only [up_n, up_s, cp_n, rw_n, rw_s, up1_, if_true, if_false, ite_true, ite_false, reduceIte, eq_self, Int.reduceEq, true_and, and_true, not_true_eq_false, not_false_eq_true] at hc)) | (refine fun (hc : _ = _) => ?_; try (simp (disch := decide) only [up_n, up_s, cp_n, rw_n, rw_s, up1_, if_true, if_false, ite_true, ite_false, reduceIte, eq_self, Int.reduceEq, true_and, and_true, not_true_eq_false, not_false_eq_true] at hc)))
  have hX0 : ∀ k i, pk k i → rw_ (rw_ (fr_up M 13 5 (ku (M 13 5))) 16 g16) 17 g17 k i = M k i := fun k i hk => by
    rw [rw_n (by omega), rw_n (by omega), up_x (by omega)]
  refine c_load (hpc.cg hX0) (hRC.cg (fun k i hk => hX0 k i (by omega))) (fun g19 hg19 => ?_)
  have ecf : cf (rw_ (rw_ (fr_up M 13 5 (ku (M 13 5))) 16 g16) 17 g17) r = cf M r := by
    funext i j
    exact cf_cg (fun k i hk => hX0 k i (by omega))
  rw [ecf] at hg19
  repeat' (first | (refine And.intro (by first | omega | (simp (disch := decide) only [up_n, up_s, cp_n, rw_n, rw_s, up1_, if_true, if_false, ite_true, ite_false, reduceIte, eq_self, Int.reduceEq, true_and, and_true, not_true_eq_false, not_false_eq_true]; omega)) ?_) | (refine And.intro (fun hc => ?_) (fun hc => ?_) <;> (try (simp (disch := decide) only [up_n, up_s, cp_n, rw_n, rw_s, up1_, if_true, if_false, ite_true, ite_false, reduceIte, eq_self, Int.reduceEq, true_and, and_true, not_true_eq_false, not_false_eq_true] at hc)) <;> (try (exfalso; omega))) | (refine fun (hc : ¬ _) => ?_; try (simp (disch := decide) only [up_n, up_s, cp_n, rw_n, rw_s, up1_, if_true, if_false, ite_true, ite_false, reduceIte, eq_self, Int.reduceEq, true_and, and_true, not_true_eq_false, not_false_eq_true] at hc)) | (refine fun (hc : _ = _) => ?_; try (simp (disch := decide) only [up_n, up_s, cp_n, rw_n, rw_s, up1_, if_true, if_false, ite_true, ite_false, reduceIte, eq_self, Int.reduceEq, true_and, and_true, not_true_eq_false, not_false_eq_true] at hc)))
  refine c_readRanks (n := M 76 r) (by omega) ⟨u1, u2, u3⟩ (fun i i0 i1 => ?_) (fun g74 hg74 => ?_)
  · have := hro i i0 i1
    simp (disch := decide) only [up_n, up_s, cp_n, rw_n, rw_s, up1_, if_true, if_false, ite_true, ite_false, reduceIte, eq_self, Int.reduceEq, true_and, and_true, not_true_eq_false, not_false_eq_true]
    omega
  repeat' (first | (refine And.intro (by first | omega | (simp (disch := decide) only [up_n, up_s, cp_n, rw_n, rw_s, up1_, if_true, if_false, ite_true, ite_false, reduceIte, eq_self, Int.reduceEq, true_and, and_true, not_true_eq_false, not_false_eq_true]; omega)) ?_) | (refine And.intro (fun hc => ?_) (fun hc => ?_) <;> (try (simp (disch := decide) only [up_n, up_s, cp_n, rw_n, rw_s, up1_, if_true, if_false, ite_true, ite_false, reduceIte, eq_self, Int.reduceEq, true_and, and_true, not_true_eq_false, not_false_eq_true] at hc)) <;> (try (exfalso; omega))) | (refine fun (hc : ¬ _) => ?_; try (simp (disch := decide) only [up_n, up_s, cp_n, rw_n, rw_s, up1_, if_true, if_false, ite_true, ite_false, reduceIte, eq_self, Int.reduceEq, true_and, and_true, not_true_eq_false, not_false_eq_true] at hc)) | (refine fun (hc : _ = _) => ?_; try (simp (disch := decide) only [up_n, up_s, cp_n, rw_n, rw_s, up1_, if_true, if_false, ite_true, ite_false, reduceIte, eq_self, Int.reduceEq, true_and, and_true, not_true_eq_false, not_false_eq_true] at hc)))
  have hZ : CZ M r (M 76 r) (rw_ (rw_ (fr_up (rw_ (rw_ (fr_up M 13 5 (ku (M 13 5))) 16 g16) 17 g17) 18 2 (M 76 r)) 19 g19) 74 g74) := by
    refine ⟨rfl, hg19, hg74, fun k i hk => ?_⟩
    rw [rw_n (by omega), rw_n (by omega), up_x (by omega)]
    exact hX0 k i hk
  refine hcl _ _ hZ (fun Z' x3 hfZ hPm hΦ => ?_)
  have hZM : ∀ k i, ¬ ((18 ≤ k ∧ k ≤ 28) ∨ k = 74 ∨ k = 16 ∨ k = 17 ∨ (k = 13 ∧ i = 5)) → Z' k i = M k i := fun k i hk => by
    rw [hfZ k i (by omega), rw_n (by omega), rw_n (by omega), up_x (by omega), rw_n (by omega), rw_n (by omega), up_x (by omega)]
  have z3 : ∀ i, 0 ≤ i → i < M 76 r → Z' 3 (r * 9 + Z' 74 i) = M 77 (9 * r + Z' 74 i) := fun i i0 i1 => by
    have a := hPm.2.1 i i0 i1
    rw [hZM 3 _ (by omega)]
    exact (h3 r (Z' 74 i) (by omega) (by omega) a.1 a.2).1
  have z77 : ∀ i, 0 ≤ i → i < M 76 r → (0 ≤ M 77 (9 * r + Z' 74 i) ∧ M 77 (9 * r + Z' 74 i) < M 75 4) ∧ M 79 (M 77 (9 * r + Z' 74 i)) = r := fun i i0 i1 => by
    have a := hPm.2.1 i i0 i1
    have b := h3 r (Z' 74 i) (by omega) (by omega) a.1 a.2
    exact ⟨⟨b.2.1, b.2.2.1⟩, b.2.2.2.1⟩
  have zinj : ∀ i j, 0 ≤ i → i < M 76 r → 0 ≤ j → j < M 76 r → M 77 (9 * r + Z' 74 i) = M 77 (9 * r + Z' 74 j) → i = j := fun i j i0 i1 j0 j1 e => by
    have a := hPm.2.1 i i0 i1
    have b := hPm.2.1 j j0 j1
    exact hPm.2.2 i j i0 i1 j0 j1 (hRC.2.2.2.2.1 _ _ a.1 a.2 b.1 b.2 e)
  refine fr_go k119 [] 400 rfl ?_
  refine c_writeRanks (m := M 76 r) (by omega) ⟨by rw [hZM 2 r (by omega)]; exact u1, u2, u3⟩ (fun i i0 i1 => ?_) (fun i i0 i1 => ?_) (fun i j i0 i1 j0 j1 e => ?_) (fun g14 g15 a1 a2 a3 a4 => ?_)
  · have a := hPm.2.1 i i0 i1
    omega
  · rw [z3 i i0 i1]
    have := z77 i i0 i1
    omega
  · rw [z3 i i0 i1, z3 j j0 j1] at e
    exact zinj i j i0 i1 j0 j1 e
  repeat' (first | (refine And.intro (by first | omega | (simp (disch := decide) only [up_n, up_s, cp_n, rw_n, rw_s, up1_, if_true, if_false, ite_true, ite_false, reduceIte, eq_self, Int.reduceEq, true_and, and_true, not_true_eq_false, not_false_eq_true]; omega)) ?_) | (refine c_disturb ?_) | (refine And.intro (fun hc => ?_) (fun hc => ?_) <;> (try (simp (disch := decide) only [up_n, up_s, cp_n, rw_n, rw_s, up1_, if_true, if_false, ite_true, ite_false, reduceIte, eq_self, Int.reduceEq, true_and, and_true, not_true_eq_false, not_false_eq_true] at hc)) <;> (try (exfalso; omega))) | (refine fun (hc : ¬ _) => ?_; try (simp (disch := decide) only [up_n, up_s, cp_n, rw_n, rw_s, up1_, if_true, if_false, ite_true, ite_false, reduceIte, eq_self, Int.reduceEq, true_and, and_true, not_true_eq_false, not_false_eq_true] at hc)) | (refine fun (hc : _ = _) => ?_; try (simp (disch := decide) only [up_n, up_s, cp_n, rw_n, rw_s, up1_, if_true, if_false, ite_true, ite_false, reduceIte, eq_self, Int.reduceEq, true_and, and_true, not_true_eq_false, not_false_eq_true] at hc)))
  refine c_weigh_74 (n := M 76 r) (f := cf M r) (rk := Z' 74) ⟨?_, hm, u3⟩ (fun i i0 i1 => ⟨rfl, hPm.2.1 i i0 i1⟩) hf ?_ ?_
  · show Z' 18 2 = _
    rw [hfZ 18 2 (by omega)]
    rfl
  · show PT _ _ _ (Z' 19)
    rw [show Z' 19 = g19 from funext (fun i => (hfZ 19 i (by omega)).trans rfl)]
    exact hg19
  repeat' (first | (refine And.intro (by first | omega | (simp (disch := decide) only [up_n, up_s, cp_n, rw_n, rw_s, up1_, if_true, if_false, ite_true, ite_false, reduceIte, eq_self, Int.reduceEq, true_and, and_true, not_true_eq_false, not_false_eq_true]; omega)) ?_) | (refine And.intro (fun hc => ?_) (fun hc => ?_) <;> (try (simp (disch := decide) only [up_n, up_s, cp_n, rw_n, rw_s, up1_, if_true, if_false, ite_true, ite_false, reduceIte, eq_self, Int.reduceEq, true_and, and_true, not_true_eq_false, not_false_eq_true] at hc)) <;> (try (exfalso; omega))) | (refine fun (hc : ¬ _) => ?_; try (simp (disch := decide) only [up_n, up_s, cp_n, rw_n, rw_s, up1_, if_true, if_false, ite_true, ite_false, reduceIte, eq_self, Int.reduceEq, true_and, and_true, not_true_eq_false, not_false_eq_true] at hc)) | (refine fun (hc : _ = _) => ?_; try (simp (disch := decide) only [up_n, up_s, cp_n, rw_n, rw_s, up1_, if_true, if_false, ite_true, ite_false, reduceIte, eq_self, Int.reduceEq, true_and, and_true, not_true_eq_false, not_false_eq_true] at hc)))
  refine ⟨rfl, _, rfl, ?_⟩
  generalize hC : fr_up (rw_ (rw_ Z' 14 g14) 15 g15) 29 18 0 = C
  have hCM : ∀ k i, ¬ ((18 ≤ k ∧ k ≤ 28) ∨ (14 ≤ k ∧ k ≤ 17) ∨ k = 74 ∨ (k = 13 ∧ i = 5) ∨ (k = 29 ∧ i = 18)) → C k i = M k i := fun k i hk => by
    rw [← hC, up_x (by omega), rw_n (by omega), rw_n (by omega), hZM k i (by omega)]
  have hCr : ∀ k, 75 ≤ k → C k = M k := fun k hk => funext (fun i => hCM k i (by omega))
  refine fr_cgo k172 [some (.inr (.inl 75)), some (.inl r), some (.inl how), none] 0 0 [19] 400 rfl rfl rfl rfl ?_
  repeat' (first | (refine And.intro (by first | omega | (simp (disch := decide) only [up_n, up_s, cp_n, rw_n, rw_s, up1_, if_true, if_false, ite_true, ite_false, reduceIte, eq_self, Int.reduceEq, true_and, and_true, not_true_eq_false, not_false_eq_true]; omega)) ?_) | (refine m_isRoutine (by rw [hCr 75 (by omega)]; omega) (fun hc => ?_) (fun hc => ?_) <;> (try (simp (disch := decide) only [up_n, up_s, cp_n, rw_n, rw_s, up1_, if_true, if_false, ite_true, ite_false, reduceIte, eq_self, Int.reduceEq, true_and, and_true, not_true_eq_false, not_false_eq_true] at hc))) | (refine m_in (fun hc => ?_) (fun hc => ?_) <;> (try (simp (disch := decide) only [up_n, up_s, cp_n, rw_n, rw_s, up1_, if_true, if_false, ite_true, ite_false, reduceIte, eq_self, Int.reduceEq, true_and, and_true, not_true_eq_false, not_false_eq_true] at hc))) | (refine And.intro (fun hc => ?_) (fun hc => ?_) <;> (try (simp (disch := decide) only [up_n, up_s, cp_n, rw_n, rw_s, up1_, if_true, if_false, ite_true, ite_false, reduceIte, eq_self, Int.reduceEq, true_and, and_true, not_true_eq_false, not_false_eq_true] at hc)) <;> (try (exfalso; omega))) | (refine fun (hc : ¬ _) => ?_; try (simp (disch := decide) only [up_n, up_s, cp_n, rw_n, rw_s, up1_, if_true, if_false, ite_true, ite_false, reduceIte, eq_self, Int.reduceEq, true_and, and_true, not_true_eq_false, not_false_eq_true] at hc)) | (refine fun (hc : _ = _) => ?_; try (simp (disch := decide) only [up_n, up_s, cp_n, rw_n, rw_s, up1_, if_true, if_false, ite_true, ite_false, reduceIte, eq_self, Int.reduceEq, true_and, and_true, not_true_eq_false, not_false_eq_true] at hc)))
  all_goals first | (exfalso; rw [hCr 75 (by omega)] at *; omega) | (exfalso; rw [hCr 76 (by omega)] at *; omega) | (exfalso; omega) | skip
  refine m_keeps (by omega) (by rw [hCr 75 (by omega)]; omega) (fun g88 g89 hks2 => ?_)
  rw [hCr 75 (by omega), hCr 88 (by omega), hCr 89 (by omega), hCr 78 (by omega)] at hks2
  rw [hCr 75 (by omega)]
  repeat' (first | (refine And.intro (by first | omega | (simp (disch := decide) only [up_n, up_s, cp_n, rw_n, rw_s, up1_, if_true, if_false, ite_true, ite_false, reduceIte, eq_self, Int.reduceEq, true_and, and_true, not_true_eq_false, not_false_eq_true]; omega)) ?_) | (refine And.intro (fun hc => ?_) (fun hc => ?_) <;> (try (simp (disch := decide) only [up_n, up_s, cp_n, rw_n, rw_s, up1_, if_true, if_false, ite_true, ite_false, reduceIte, eq_self, Int.reduceEq, true_and, and_true, not_true_eq_false, not_false_eq_true] at hc)) <;> (try (exfalso; omega))) | (refine fun (hc : ¬ _) => ?_; try (simp (disch := decide) only [up_n, up_s, cp_n, rw_n, rw_s, up1_, if_true, if_false, ite_true, ite_false, reduceIte, eq_self, Int.reduceEq, true_and, and_true, not_true_eq_false, not_false_eq_true] at hc)) | (refine fun (hc : _ = _) => ?_; try (simp (disch := decide) only [up_n, up_s, cp_n, rw_n, rw_s, up1_, if_true, if_false, ite_true, ite_false, reduceIte, eq_self, Int.reduceEq, true_and, and_true, not_true_eq_false, not_false_eq_true] at hc)))
  refine hq _ _ (Z' 74) (fun k i hk => ?_) hPm hΦ (fun W' x3 hW1 hW2 hW3 => ?_)
  · rw [rw_n (by omega), rw_n (by omega), up_x (by omega), hCM k i (by omega)]
  have hWC : ∀ k i, ¬ (k = 78 ∨ (88 ≤ k ∧ k ≤ 95) ∨ (k = 75 ∧ i = 18)) → W' k i = C k i := fun k i hk => by
    rw [hW1 k i (by omega), rw_n (by omega), rw_n (by omega), up_x (by omega)]
  have hRCW : RC W' r (M 76 r) := hRC.cg (fun k i hk => by rw [hWC k i (by omega), hCM k i (by omega)])
  have ecw : cf W' r = cf M r := by
    funext i j
    exact cf_cg (fun k i hk => by rw [hWC k i (by omega), hCM k i (by omega)])
  refine fr_go k172 [] 400 rfl ?_
  refine m_weightOf (n := M 76 r) (rk := Z' 74) hRCW (fun i i0 i1 => ⟨?_, hPm.2.1 i i0 i1⟩) ?_
  · rw [hW2 i i0 i1, hWC 77 _ (by omega), hCM 77 _ (by omega)]
  rw [ecw]
  repeat' (first | (refine And.intro (by first | omega | (simp (disch := decide) only [up_n, up_s, cp_n, rw_n, rw_s, up1_, if_true, if_false, ite_true, ite_false, reduceIte, eq_self, Int.reduceEq, true_and, and_true, not_true_eq_false, not_false_eq_true]; omega)) ?_) | (refine And.intro (fun hc => ?_) (fun hc => ?_) <;> (try (simp (disch := decide) only [up_n, up_s, cp_n, rw_n, rw_s, up1_, if_true, if_false, ite_true, ite_false, reduceIte, eq_self, Int.reduceEq, true_and, and_true, not_true_eq_false, not_false_eq_true] at hc)) <;> (try (exfalso; omega))) | (refine fun (hc : ¬ _) => ?_; try (simp (disch := decide) only [up_n, up_s, cp_n, rw_n, rw_s, up1_, if_true, if_false, ite_true, ite_false, reduceIte, eq_self, Int.reduceEq, true_and, and_true, not_true_eq_false, not_false_eq_true] at hc)) | (refine fun (hc : _ = _) => ?_; try (simp (disch := decide) only [up_n, up_s, cp_n, rw_n, rw_s, up1_, if_true, if_false, ite_true, ite_false, reduceIte, eq_self, Int.reduceEq, true_and, and_true, not_true_eq_false, not_false_eq_true] at hc)))
  have kk := K_keep h1 h2 o1 o2 o3 k1 k2 k3 k4 k5 hr hm hks hks2
  have oo := O_new (M := M) (r := r) (g14 := g14) (g15 := g15) (g78 := W' 78) h1 h2 h4 o1 o2 o3 hr (fun i i0 i1 => ?_) (fun j hj => ?_) hW3 (fun b b0 b1 b2 => ?_) (fun b b0 b1 b2 => ?_) ?_
  · refine ⟨rfl, rfl, ?_⟩
    have hRN : Rel (n + 1) (fr_up (rw_ (rw_ (rw_ (rw_ (rw_ (rw_ (rw_ (fr_up (fr_up M 13 5 (ku (M 13 5))) 75 18 (ku (M 75 18))) 16 g16) 17 g17) 88 g88) 89 g89) 14 g14) 15 g15) 78 (W' 78)) 29 18 0) :=
      ⟨by omega, h1, h2, h3, h4, h5, h6, h7, h8, oo.1, oo.2.1, oo.2.2, kk.1, kk.2.1, kk.2.2.1, kk.2.2.2.1, kk.2.2.2.2, t1, t2, s1, r1, r1', r2, r2', r3, r4, l.off rfl rfl rfl⟩
    have hWN : ∀ k i, ¬ ((18 ≤ k ∧ k ≤ 28) ∨ k = 74 ∨ (90 ≤ k ∧ k ≤ 95)) → W' k i = fr_up (rw_ (rw_ (rw_ (rw_ (rw_ (rw_ (rw_ (fr_up (fr_up M 13 5 (ku (M 13 5))) 75 18 (ku (M 75 18))) 16 g16) 17 g17) 88 g88) 89 g89) 14 g14) 15 g15) 78 (W' 78)) 29 18 0 k i := by
      intro k i hk
      by_cases c1 : k = 78
      · subst c1
        rfl
      by_cases c2 : k = 88
      · subst c2
        rw [hW1 88 i (by omega)]
        rfl
      by_cases c3 : k = 89
      · subst c3
        rw [hW1 89 i (by omega)]
        rfl
      by_cases c4 : k = 75 ∧ i = 18
      · obtain ⟨rfl, rfl⟩ := c4
        rw [hW1 75 18 (by omega)]
        rfl
      rw [hWC k i (by omega), ← hC]
      by_cases c5 : k = 29 ∧ i = 18
      · obtain ⟨rfl, rfl⟩ := c5
        rfl
      by_cases c6 : k = 14
      · subst c6
        rfl
      by_cases c7 : k = 15
      · subst c7
        rfl
      by_cases c8 : k = 16
      · subst c8
        show Z' 16 i = g16 i
        rw [hfZ 16 i (by omega)]
        rfl
      by_cases c9 : k = 17
      · subst c9
        show Z' 17 i = g17 i
        rw [hfZ 17 i (by omega)]
        rfl
      by_cases c10 : k = 13 ∧ i = 5
      · obtain ⟨rfl, rfl⟩ := c10
        show Z' 13 5 = _
        rw [hfZ 13 5 (by omega)]
        rfl
      rw [up_x (by omega), rw_n (by omega), rw_n (by omega), hZM k i (by omega), up_x (by omega), rw_n (by omega), rw_n (by omega), rw_n (by omega), rw_n (by omega), rw_n (by omega), rw_n (by omega), rw_n (by omega), up_x (by omega), up_x (by omega)]
    have hlN : RL (n + 1) (fr_up (rw_ (rw_ (rw_ (rw_ (rw_ (rw_ (rw_ (fr_up (fr_up M 13 5 (ku (M 13 5))) 75 18 (ku (M 75 18))) 16 g16) 17 g17) 88 g88) 89 g89) 14 g14) 15 g15) 78 (W' 78)) 29 18 0) := l.off rfl rfl rfl
    exact hRN.scr0 (fun k i hk => hWN k i (by omega)) (hlN.same (fun k i hk => by
      simp [rl] at hk
      exact hWN k i (by omega)))
  · rw [hW2 i i0 i1, a1 i i0 i1, z3 i i0 i1]
    have b3 := a3 i i0 i1
    rw [z3 i i0 i1] at b3
    have b4 := z77 i i0 i1
    exact ⟨rfl, b4.1.1, b4.1.2, b4.2, b3⟩
  · rw [a2 j hj, hZM 14 j (by omega)]
  · rw [a4 b (fun j j0 j1 q => ?_), hZM 15 b (by omega)]
    rw [z3 j j0 j1] at q
    have b4 := z77 j j0 j1
    rw [q] at b4
    exact b2 b4.2
  · have d := h4 b b0 b1
    rw [b2] at d
    obtain ⟨i, hi, ei⟩ := sur_of hPm.2.1 hPm.2.2 (x := M 5 b) ⟨d.2.2.2.1, d.2.2.2.2.1⟩
    refine ⟨i, hi.1, hi.2, ?_⟩
    rw [hW2 i hi.1 hi.2, ei]
    exact d.2.2.2.2.2.1
  · have a := hW2 0 (by omega) (by omega)
    rw [hPm.1, show 9 * r + 0 = 9 * r by omega] at a
    exact a
