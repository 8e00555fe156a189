set_option maxHeartbeats 4000000 in
set_option maxRecDepth 100000 in
theorem m_isTurned {M p : fr_M} {b : Int} {Q : Option fr_V → fr_H → fr_M → Prop} (hp : pg M = p) (hw : WF p) (hb : 0 ≤ b ∧ b < p 75 4) (hnx : M 97 b = nn (nx p b)) (h : Q (some (.inl (tu p b))) sh0 M) : fr_Call 178 [.inr (.inl 75), .inl b] sh0 M Q := by
  subst hp
  have h40 := hw.1.1
  have hwr := w_rng hw hb
  have hnr := nx_rng hw (b := b)
  have ew0 : w0 (pg M) b = M 84 (4 * b) := rfl
  have ew1 : w1 (pg M) b = M 84 (4 * b + 1) := rfl
  have ek : pg M 82 b = M 82 b := rfl
  rw [ek, ew0, ew1] at hwr
  have hnn : nn (nx (pg M) b) = if nx (pg M) b = -1 then -9 else nx (pg M) b := rfl
  by_cases ht : M 82 b = 3
  · have h0 := hwr.1 (by omega)
    have h1 := hwr.2 (by omega)
    have c0 : M 84 (4 * b) = M 97 b ↔ M 84 (4 * b) = nx (pg M) b := by
      rw [hnx, hnn]
      split <;> omega
    have c1 : M 84 (4 * b + 1) = M 97 b ↔ M 84 (4 * b + 1) = nx (pg M) b := by
      rw [hnx, hnn]
      split <;> omega
    by_cases hq : M 84 (4 * b + 1) ≠ nx (pg M) b ∧ M 84 (4 * b) = nx (pg M) b
    · have etu : tu (pg M) b = 1 := by
        unfold tu
        rw [ew1, ew0, if_pos ⟨ht, hq⟩]
      rw [etu] at h
      clear hnx hnn hwr
      refine fr_cgo k178 [some (.inr (.inl 75)), some (.inl b)] 0 0 [] 400 rfl rfl rfl rfl ?_
      repeat' (first | (refine And.intro (by first | omega | (simp (disch := decide) only [up_n, up_s, cp_n, rw_n, rw_s, up1_, if_true, if_false, ite_true, ite_false, reduceIte, eq_self, Int.reduceEq, true_and, and_true, not_true_eq_false, not_false_eq_true]; omega)) ?_) | (refine And.intro (fun hc => ?_) (fun hc => ?_) <;> (try (simp (disch := decide) only [up_n, up_s, cp_n, rw_n, rw_s, up1_, if_true, if_false, ite_true, ite_false, reduceIte, eq_self, Int.reduceEq, true_and, and_true, not_true_eq_false, not_false_eq_true] at hc)) <;> (try (exfalso; omega))) | (refine fun (hc : ¬ _) => ?_; try (simp (disch := decide) only [up_n, up_s, cp_n, rw_n, rw_s, up1_, if_true, if_false, ite_true, ite_false, reduceIte, eq_self, Int.reduceEq, true_and, and_true, not_true_eq_false, not_false_eq_true] at hc)) | (refine fun (hc : _ = _) => ?_; try (simp (disch := decide) only [up_n, up_s, cp_n, rw_n, rw_s, up1_, if_true, if_false, ite_true, ite_false, reduceIte, eq_self, Int.reduceEq, true_and, and_true, not_true_eq_false, not_false_eq_true] at hc)))
      all_goals first | (exfalso; omega) | exact h
    · have etu : tu (pg M) b = 0 := by
        unfold tu
        rw [ew1, ew0, if_neg (fun q => hq q.2)]
      rw [etu] at h
      clear hnx hnn hwr
      refine fr_cgo k178 [some (.inr (.inl 75)), some (.inl b)] 0 0 [] 400 rfl rfl rfl rfl ?_
      repeat' (first | (refine And.intro (by first | omega | (simp (disch := decide) only [up_n, up_s, cp_n, rw_n, rw_s, up1_, if_true, if_false, ite_true, ite_false, reduceIte, eq_self, Int.reduceEq, true_and, and_true, not_true_eq_false, not_false_eq_true]; omega)) ?_) | (refine And.intro (fun hc => ?_) (fun hc => ?_) <;> (try (simp (disch := decide) only [up_n, up_s, cp_n, rw_n, rw_s, up1_, if_true, if_false, ite_true, ite_false, reduceIte, eq_self, Int.reduceEq, true_and, and_true, not_true_eq_false, not_false_eq_true] at hc)) <;> (try (exfalso; omega))) | (refine fun (hc : ¬ _) => ?_; try (simp (disch := decide) only [up_n, up_s, cp_n, rw_n, rw_s, up1_, if_true, if_false, ite_true, ite_false, reduceIte, eq_self, Int.reduceEq, true_and, and_true, not_true_eq_false, not_false_eq_true] at hc)) | (refine fun (hc : _ = _) => ?_; try (simp (disch := decide) only [up_n, up_s, cp_n, rw_n, rw_s, up1_, if_true, if_false, ite_true, ite_false, reduceIte, eq_self, Int.reduceEq, true_and, and_true, not_true_eq_false, not_false_eq_true] at hc)))
      all_goals first | (exfalso; omega) | exact h
  · have etu : tu (pg M) b = 0 := by
      unfold tu
      rw [if_neg (fun q => ht q.1)]
    rw [etu] at h
    refine fr_cgo k178 [some (.inr (.inl 75)), some (.inl b)] 0 0 [] 400 rfl rfl rfl rfl ?_
    repeat' (first | (refine And.intro (by first | omega | (simp (disch := decide) only [up_n, up_s, cp_n, rw_n, rw_s, up1_, if_true, if_false, ite_true, ite_false, reduceIte, eq_self, Int.reduceEq, true_and, and_true, not_true_eq_false, not_false_eq_true]; omega)) ?_) | (refine And.intro (fun hc => ?_) (fun hc => ?_) <;> (try (simp (disch := decide) only [up_n, up_s, cp_n, rw_n, rw_s, up1_, if_true, if_false, ite_true, ite_false, reduceIte, eq_self, Int.reduceEq, true_and, and_true, not_true_eq_false, not_false_eq_true] at hc)) <;> (try (exfalso; omega))) | (refine fun (hc : ¬ _) => ?_; try (simp (disch := decide) only [up_n, up_s, cp_n, rw_n, rw_s, up1_, if_true, if_false, ite_true, ite_false, reduceIte, eq_self, Int.reduceEq, true_and, and_true, not_true_eq_false, not_false_eq_true] at hc)) | (refine fun (hc : _ = _) => ?_; try (simp (disch := decide) only [up_n, up_s, cp_n, rw_n, rw_s, up1_, if_true, if_false, ite_true, ite_false, reduceIte, eq_self, Int.reduceEq, true_and, and_true, not_true_eq_false, not_false_eq_true] at hc)))
    all_goals first | (exfalso; omega) | exact h
/-- what makeJumps leaves of a BLOCK -/
def MJ (p : fr_M) (b : Int) (g101 g102 g103 : Int → Int) : Prop := g101 (2 * b) = nn (tg0 p b) ∧ g101 (2 * b + 1) = nn (tg1 p b) ∧ g102 (2 * b) = 0 ∧ g102 (2 * b + 1) = 0 ∧ g103 (2 * b) = 0 ∧ g103 (2 * b + 1) = 0
theorem MJ.ext {p : fr_M} {b : Int} {f1 f2 f3 g1 g2 g3 : Int → Int} (h : MJ p b f1 f2 f3) (e : ∀ s, s = 2 * b ∨ s = 2 * b + 1 → g1 s = f1 s ∧ g2 s = f2 s ∧ g3 s = f3 s) : MJ p b g1 g2 g3 := by
  have a := e (2 * b) (Or.inl rfl)
  have c := e (2 * b + 1) (Or.inr rfl)
  unfold MJ
  rw [a.1, a.2.1, a.2.2, c.1, c.2.1, c.2.2]
  exact h
def u2 (g : Int → Int) (b x y : Int) : Int → Int := up1 (up1 g (2 * b) x) (2 * b + 1) y
theorem u2_0 {g : Int → Int} {b x y : Int} : u2 g b x y (2 * b) = x := by
  unfold u2
  rw [up1_, if_neg (by omega), up1_, if_pos rfl]
theorem u2_1 {g : Int → Int} {b x y : Int} : u2 g b x y (2 * b + 1) = y := by
  unfold u2
  rw [up1_, if_pos rfl]
theorem u2_n {g : Int → Int} {b x y s : Int} (h0 : s ≠ 2 * b) (h1 : s ≠ 2 * b + 1) : u2 g b x y s = g s := by
  unfold u2
  rw [up1_, if_neg h1, up1_, if_neg h0]
theorem u2_u2 {g : Int → Int} {b x y x' y' : Int} : u2 (u2 g b x y) b x' y' = u2 g b x' y' := by
  funext s
  unfold u2
  simp only [up1]
  by_cases e : s = 2 * b + 1
  · rw [if_pos e, if_pos e]
  · rw [if_neg e, if_neg e]
    by_cases e2 : s = 2 * b
    · rw [if_pos e2, if_pos e2, if_neg e]
    · rw [if_neg e2, if_neg e2, if_neg e, if_neg e2]
theorem u2_y {g : Int → Int} {b x y y' : Int} : up1 (u2 g b x y) (2 * b + 1) y' = u2 g b x y' := by
  funext s
  unfold u2
  simp only [up1]
  by_cases e : s = 2 * b + 1
  · rw [if_pos e, if_pos e]
  · rw [if_neg e, if_neg e, if_neg e]
set_option maxHeartbeats 4000000 in
set_option maxRecDepth 100000 in
theorem m_mj_l {M p : fr_M} {Q : Option fr_V → fr_H → fr_M → Prop} (hp : pg M = p) (hw : WF p) (hnx : ∀ b, 0 ≤ b → b < p 75 4 → M 97 b = nn (nx p b)) (h : ∀ g101 g102 g103, (∀ b, 0 ≤ b → b < p 75 4 → MJ p b g101 g102 g103) → Q none sh0 (rw_ (rw_ (rw_ M 101 g101) 102 g102) 103 g103)) : ∀ (t : Nat) (b : Int) (g101 g102 g103 : Int → Int) (x2 x3 x4 : Option fr_V), 0 ≤ b → b + t = p 75 4 → (∀ b', 0 ≤ b' → b' < b → MJ p b' g101 g102 g103) → fr_Run 179 none 2 [some (.inr (.inl 75)), some (.inl b), x2, x3, x4] [] sh0 (rw_ (rw_ (rw_ M 101 g101) 102 g102) 103 g103) 0 0 Q := by
  have h40 := hw.1.1
  have hc4 : p 75 4 = M 75 4 := by rw [← hp]; rfl
  intro t
  induction t with
  | zero =>
    intro b g101 g102 g103 x2 x3 x4 q0 q1 q2
    have e : b = p 75 4 := by omega
    subst e
    have hh := h g101 g102 g103 q2
    clear h
    refine fr_go k179 [2] 400 rfl ?_
    repeat' (first | (refine And.intro (by first | omega | (simp (disch := decide) only [up_n, up_s, cp_n, rw_n, rw_s, up1_, if_true, if_false, ite_true, ite_false, reduceIte, eq_self, Int.reduceEq, true_and, and_true, not_true_eq_false, not_false_eq_true]; omega)) ?_) | (refine And.intro (fun hc => ?_) (fun hc => ?_) <;> (try (simp (disch := decide) only [up_n, up_s, cp_n, rw_n, rw_s, up1_, if_true, if_false, ite_true, ite_false, reduceIte, eq_self, Int.reduceEq, true_and, and_true, not_true_eq_false, not_false_eq_true] at hc)) <;> (try (exfalso; omega))) | (refine fun (hc : ¬ _) => ?_; try (simp (disch := decide) only [up_n, up_s, cp_n, rw_n, rw_s, up1_, if_true, if_false, ite_true, ite_false, reduceIte, eq_self, Int.reduceEq, true_and, and_true, not_true_eq_false, not_false_eq_true] at hc)) | (refine fun (hc : _ = _) => ?_; try (simp (disch := decide) only [up_n, up_s, cp_n, rw_n, rw_s, up1_, if_true, if_false, ite_true, ite_false, reduceIte, eq_self, Int.reduceEq, true_and, and_true, not_true_eq_false, not_false_eq_true] at hc)))
    all_goals first | (exfalso; omega) | exact hh
  | succ t ih =>
    intro b g101 g102 g103 x2 x3 x4 q0 q1 q2
    have hb : 0 ≤ b ∧ b < p 75 4 := by omega
    have hwr := w_rng hw hb
    have hnr := nx_rng hw (b := b)
    have e97 := hnx b hb.1 hb.2
    have hnn : nn (nx p b) = if nx p b = -1 then -9 else nx p b := rfl
    have ew0 : w0 p b = M 84 (4 * b) := by rw [← hp]; rfl
    have ew1 : w1 p b = M 84 (4 * b + 1) := by rw [← hp]; rfl
    have ek : p 82 b = M 82 b := by rw [← hp]; rfl
    have hkr := (hw.2.2.2.2.2.1 b hb.1 hb.2).2.2.1
    rw [ek] at hkr
    rw [ek, ew0, ew1] at hwr
    have hall : ∀ v1 v2, v1 = nn (tg0 p b) → v2 = nn (tg1 p b) → (∀ b', 0 ≤ b' → b' < b + 1 → MJ p b' (u2 g101 b v1 v2) (u2 g102 b 0 0) (u2 g103 b 0 0)) := by
      intro v1 v2 hv1 hv2 b' y0 y1
      by_cases e : b' = b
      · subst e
        unfold MJ
        rw [u2_0, u2_1, u2_0, u2_1, u2_0, u2_1]
        exact ⟨hv1, hv2, rfl, rfl, rfl, rfl⟩
      · refine (q2 b' y0 (by omega)).ext (fun s hs => ⟨u2_n (by omega) (by omega), u2_n (by omega) (by omega), u2_n (by omega) (by omega)⟩)
    have hfin := fun v1 v2 x2 x3 x4 hv1 hv2 => ih (b + 1) (u2 g101 b v1 v2) (u2 g102 b 0 0) (u2 g103 b 0 0) x2 x3 x4 (by omega) (by omega) (hall v1 v2 hv1 hv2)
    clear ih hall h q2
    by_cases hg : M 82 b = 2 ∨ M 82 b = 5 ∨ M 82 b = 6
    · have h0 := hwr.1 (by omega)
      have c0 : M 84 (4 * b) = M 97 b ↔ M 84 (4 * b) = nx p b := by
        rw [e97, hnn]
        split <;> omega
      have et0 : -9 = nn (tg0 p b) := by
        unfold tg0
        rw [ek, if_neg (by omega)]
        rfl
      by_cases hq : M 84 (4 * b) = nx p b
      · have et1 : -9 = nn (tg1 p b) := by
          unfold tg1
          rw [ek, if_pos hg, ew0, if_pos hq]
          rfl
        have hh := fun x2 x3 x4 => hfin _ _ x2 x3 x4 et0 et1
        clear hfin hnn e97 hwr hnr
        refine fr_go k179 [2] 400 rfl ?_
        repeat' (first | (refine And.intro (by first | omega | (simp (disch := decide) only [up_n, up_s, cp_n, rw_n, rw_s, up1_, if_true, if_false, ite_true, ite_false, reduceIte, eq_self, Int.reduceEq, true_and, and_true, not_true_eq_false, not_false_eq_true]; omega)) ?_) | (refine And.intro (fun hc => ?_) (fun hc => ?_) <;> (try (simp (disch := decide) only [up_n, up_s, cp_n, rw_n, rw_s, up1_, if_true, if_false, ite_true, ite_false, reduceIte, eq_self, Int.reduceEq, true_and, and_true, not_true_eq_false, not_false_eq_true] at hc)) <;> (try (exfalso; omega))) | (refine fun (hc : ¬ _) => ?_; try (simp (disch := decide) only [up_n, up_s, cp_n, rw_n, rw_s, up1_, if_true, if_false, ite_true, ite_false, reduceIte, eq_self, Int.reduceEq, true_and, and_true, not_true_eq_false, not_false_eq_true] at hc)) | (refine fun (hc : _ = _) => ?_; try (simp (disch := decide) only [up_n, up_s, cp_n, rw_n, rw_s, up1_, if_true, if_false, ite_true, ite_false, reduceIte, eq_self, Int.reduceEq, true_and, and_true, not_true_eq_false, not_false_eq_true] at hc)))
        all_goals first | (exfalso; omega) | skip
        all_goals (simp (disch := decide) only [up_rw, rw_u, up_up, rw_rw, rw_cm]; exact hh _ _ _)
      · have et1 : M 84 (4 * b) = nn (tg1 p b) := by
          unfold tg1
          rw [ek, if_pos hg, ew0, if_neg hq]
          unfold nn
          rw [if_neg (by omega)]
        have hh := fun x2 x3 x4 => hfin _ _ x2 x3 x4 et0 et1
        clear hfin hnn e97 hwr hnr
        have hu := u2_y (g := g101) (b := b) (x := -9) (y := -9) (y' := M 84 (4 * b))
        refine fr_go k179 [2] 400 rfl ?_
        repeat' (first | (refine And.intro (by first | omega | (simp (disch := decide) only [up_n, up_s, cp_n, rw_n, rw_s, up1_, if_true, if_false, ite_true, ite_false, reduceIte, eq_self, Int.reduceEq, true_and, and_true, not_true_eq_false, not_false_eq_true]; omega)) ?_) | (refine And.intro (fun hc => ?_) (fun hc => ?_) <;> (try (simp (disch := decide) only [up_n, up_s, cp_n, rw_n, rw_s, up1_, if_true, if_false, ite_true, ite_false, reduceIte, eq_self, Int.reduceEq, true_and, and_true, not_true_eq_false, not_false_eq_true] at hc)) <;> (try (exfalso; omega))) | (refine fun (hc : ¬ _) => ?_; try (simp (disch := decide) only [up_n, up_s, cp_n, rw_n, rw_s, up1_, if_true, if_false, ite_true, ite_false, reduceIte, eq_self, Int.reduceEq, true_and, and_true, not_true_eq_false, not_false_eq_true] at hc)) | (refine fun (hc : _ = _) => ?_; try (simp (disch := decide) only [up_n, up_s, cp_n, rw_n, rw_s, up1_, if_true, if_false, ite_true, ite_false, reduceIte, eq_self, Int.reduceEq, true_and, and_true, not_true_eq_false, not_false_eq_true] at hc)))
        all_goals first | (exfalso; omega) | skip
        all_goals (simp (disch := decide) only [up_rw, rw_u, up_up, rw_rw, rw_cm]; rw [← hu] at hh; exact hh _ _ _)
    · by_cases ht : M 82 b = 3
      · have h0 := hwr.1 (by omega)
        have h1 := hwr.2 (by omega)
        have c0 : M 84 (4 * b) = M 97 b ↔ M 84 (4 * b) = nx p b := by
          rw [e97, hnn]
          split <;> omega
        have c1 : M 84 (4 * b + 1) = M 97 b ↔ M 84 (4 * b + 1) = nx p b := by
          rw [e97, hnn]
          split <;> omega
        have et0 : (if tu p b = 1 then M 84 (4 * b + 1) else M 84 (4 * b)) = nn (tg0 p b) := by
          unfold tg0
          rw [ek, if_pos ht, ew0, ew1]
          unfold nn
          split <;> rw [if_neg (by omega)]
        have tu01 : tu p b = 0 ∨ tu p b = 1 := by
          unfold tu
          split
          · exact Or.inr rfl
          · exact Or.inl rfl
        have etu : tu p b = 1 ↔ (M 84 (4 * b + 1) ≠ nx p b ∧ M 84 (4 * b) = nx p b) := by
          unfold tu
          rw [ek, ew0, ew1]
          constructor
          · intro q
            split at q
            · next z => exact z.2
            · omega
          · intro q
            rw [if_pos ⟨ht, q⟩]
        have et1 : (if M 84 (4 * b + 1) = nx p b ∨ M 84 (4 * b) = nx p b then -9 else M 84 (4 * b + 1)) = nn (tg1 p b) := by
          unfold tg1
          rw [ek, if_neg hg, if_pos ht, ew1]
          by_cases z : M 84 (4 * b + 1) = nx p b ∨ M 84 (4 * b) = nx p b
          · rw [if_pos z, if_pos (by omega)]
            rfl
          · rw [if_neg z, if_neg (by omega)]
            unfold nn
            rw [if_neg (by omega)]
        have hh := fun x2 x3 x4 => hfin _ _ x2 x3 x4 et0 et1
        rw [← u2_u2 (x := -9) (y := -9)] at hh
        have hpx : pg (fr_up (fr_up (fr_up (fr_up (fr_up (fr_up (rw_ (rw_ (rw_ M 101 g101) 102 g102) 103 g103) 101 (2 * b) (-9)) 101 (2 * b + 1) (-9)) 102 (2 * b) 0) 102 (2 * b + 1) 0) 103 (2 * b) 0) 103 (2 * b + 1) 0) = p := by
          rw [pg_up (by omega), pg_up (by omega), pg_up (by omega), pg_up (by omega), pg_up (by omega), pg_up (by omega), pg_rw (by omega), pg_rw (by omega), pg_rw (by omega)]
          exact hp
        clear hfin hnn hwr hnr et0 et1
        by_cases z1 : M 84 (4 * b + 1) = nx p b
        · have e0 : tu p b = 0 := by omega
          rw [e0, if_neg (by omega), if_pos (Or.inl z1)] at hh
          refine fr_go k179 [2] 400 rfl ?_
          repeat' (first | (refine And.intro (by first | omega | (simp (disch := decide) only [up_n, up_s, cp_n, rw_n, rw_s, up1_, if_true, if_false, ite_true, ite_false, reduceIte, eq_self, Int.reduceEq, true_and, and_true, not_true_eq_false, not_false_eq_true]; omega)) ?_) | (refine m_isTurned (p := p) hpx hw hb (by simp (disch := decide) only [up_n, up_s, cp_n, rw_n, rw_s, up1_, if_true, if_false, ite_true, ite_false, reduceIte, eq_self, Int.reduceEq, true_and, and_true, not_true_eq_false, not_false_eq_true]; exact e97) ?_) | (refine And.intro (fun hc => ?_) (fun hc => ?_) <;> (try (simp (disch := decide) only [up_n, up_s, cp_n, rw_n, rw_s, up1_, if_true, if_false, ite_true, ite_false, reduceIte, eq_self, Int.reduceEq, true_and, and_true, not_true_eq_false, not_false_eq_true] at hc)) <;> (try (exfalso; omega))) | (refine fun (hc : ¬ _) => ?_; try (simp (disch := decide) only [up_n, up_s, cp_n, rw_n, rw_s, up1_, if_true, if_false, ite_true, ite_false, reduceIte, eq_self, Int.reduceEq, true_and, and_true, not_true_eq_false, not_false_eq_true] at hc)) | (refine fun (hc : _ = _) => ?_; try (simp (disch := decide) only [up_n, up_s, cp_n, rw_n, rw_s, up1_, if_true, if_false, ite_true, ite_false, reduceIte, eq_self, Int.reduceEq, true_and, and_true, not_true_eq_false, not_false_eq_true] at hc)))
          all_goals first | (exfalso; omega) | (exfalso; rw [e0] at *; omega) | skip
          all_goals (simp (disch := decide) only [up_rw, rw_u, up_up, rw_rw, rw_cm]; exact hh _ _ _)
        · by_cases z0 : M 84 (4 * b) = nx p b
          · have e0 : tu p b = 1 := by omega
            rw [e0, if_pos rfl, if_pos (Or.inr z0)] at hh
            refine fr_go k179 [2] 400 rfl ?_
            repeat' (first | (refine And.intro (by first | omega | (simp (disch := decide) only [up_n, up_s, cp_n, rw_n, rw_s, up1_, if_true, if_false, ite_true, ite_false, reduceIte, eq_self, Int.reduceEq, true_and, and_true, not_true_eq_false, not_false_eq_true]; omega)) ?_) | (refine m_isTurned (p := p) hpx hw hb (by simp (disch := decide) only [up_n, up_s, cp_n, rw_n, rw_s, up1_, if_true, if_false, ite_true, ite_false, reduceIte, eq_self, Int.reduceEq, true_and, and_true, not_true_eq_false, not_false_eq_true]; exact e97) ?_) | (refine And.intro (fun hc => ?_) (fun hc => ?_) <;> (try (simp (disch := decide) only [up_n, up_s, cp_n, rw_n, rw_s, up1_, if_true, if_false, ite_true, ite_false, reduceIte, eq_self, Int.reduceEq, true_and, and_true, not_true_eq_false, not_false_eq_true] at hc)) <;> (try (exfalso; omega))) | (refine fun (hc : ¬ _) => ?_; try (simp (disch := decide) only [up_n, up_s, cp_n, rw_n, rw_s, up1_, if_true, if_false, ite_true, ite_false, reduceIte, eq_self, Int.reduceEq, true_and, and_true, not_true_eq_false, not_false_eq_true] at hc)) | (refine fun (hc : _ = _) => ?_; try (simp (disch := decide) only [up_n, up_s, cp_n, rw_n, rw_s, up1_, if_true, if_false, ite_true, ite_false, reduceIte, eq_self, Int.reduceEq, true_and, and_true, not_true_eq_false, not_false_eq_true] at hc)))
            all_goals first | (exfalso; omega) | (exfalso; rw [e0] at *; omega) | skip
            all_goals (simp (disch := decide) only [up_rw, rw_u, up_up, rw_rw, rw_cm]; exact hh _ _ _)
          · have e0 : tu p b = 0 := by omega
            rw [e0, if_neg (by omega), if_neg (by omega)] at hh
            refine fr_go k179 [2] 400 rfl ?_
            repeat' (first | (refine And.intro (by first | omega | (simp (disch := decide) only [up_n, up_s, cp_n, rw_n, rw_s, up1_, if_true, if_false, ite_true, ite_false, reduceIte, eq_self, Int.reduceEq, true_and, and_true, not_true_eq_false, not_false_eq_true]; omega)) ?_) | (refine m_isTurned (p := p) hpx hw hb (by simp (disch := decide) only [up_n, up_s, cp_n, rw_n, rw_s, up1_, if_true, if_false, ite_true, ite_false, reduceIte, eq_self, Int.reduceEq, true_and, and_true, not_true_eq_false, not_false_eq_true]; exact e97) ?_) | (refine And.intro (fun hc => ?_) (fun hc => ?_) <;> (try (simp (disch := decide) only [up_n, up_s, cp_n, rw_n, rw_s, up1_, if_true, if_false, ite_true, ite_false, reduceIte, eq_self, Int.reduceEq, true_and, and_true, not_true_eq_false, not_false_eq_true] at hc)) <;> (try (exfalso; omega))) | (refine fun (hc : ¬ _) => ?_; try (simp (disch := decide) only [up_n, up_s, cp_n, rw_n, rw_s, up1_, if_true, if_false, ite_true, ite_false, reduceIte, eq_self, Int.reduceEq, true_and, and_true, not_true_eq_false, not_false_eq_true] at hc)) | (refine fun (hc : _ = _) => ?_; try (simp (disch := decide) only [up_n, up_s, cp_n, rw_n, rw_s, up1_, if_true, if_false, ite_true, ite_false, reduceIte, eq_self, Int.reduceEq, true_and, and_true, not_true_eq_false, not_false_eq_true] at hc)))
            all_goals first | (exfalso; omega) | (exfalso; rw [e0] at *; omega) | skip
            all_goals (simp (disch := decide) only [up_rw, rw_u, up_up, rw_rw, rw_cm]; exact hh _ _ _)
      · have et0 : -9 = nn (tg0 p b) := by
          unfold tg0
          rw [ek, if_neg (by omega)]
          rfl
        have et1 : -9 = nn (tg1 p b) := by
          unfold tg1
          rw [ek, if_neg hg, if_neg ht]
          rfl
        have hh := fun x2 x3 x4 => hfin _ _ x2 x3 x4 et0 et1
        clear hfin hnn e97 hwr hnr
        refine fr_go k179 [2] 400 rfl ?_
        repeat' (first | (refine And.intro (by first | omega | (simp (disch := decide) only [up_n, up_s, cp_n, rw_n, rw_s, up1_, if_true, if_false, ite_true, ite_false, reduceIte, eq_self, Int.reduceEq, true_and, and_true, not_true_eq_false, not_false_eq_true]; omega)) ?_) | (refine And.intro (fun hc => ?_) (fun hc => ?_) <;> (try (simp (disch := decide) only [up_n, up_s, cp_n, rw_n, rw_s, up1_, if_true, if_false, ite_true, ite_false, reduceIte, eq_self, Int.reduceEq, true_and, and_true, not_true_eq_false, not_false_eq_true] at hc)) <;> (try (exfalso; omega))) | (refine fun (hc : ¬ _) => ?_; try (simp (disch := decide) only [up_n, up_s, cp_n, rw_n, rw_s, up1_, if_true, if_false, ite_true, ite_false, reduceIte, eq_self, Int.reduceEq, true_and, and_true, not_true_eq_false, not_false_eq_true] at hc)) | (refine fun (hc : _ = _) => ?_; try (simp (disch := decide) only [up_n, up_s, cp_n, rw_n, rw_s, up1_, if_true, if_false, ite_true, ite_false, reduceIte, eq_self, Int.reduceEq, true_and, and_true, not_true_eq_false, not_false_eq_true] at hc)))
        all_goals first | (exfalso; omega) | skip
        all_goals (simp (disch := decide) only [up_rw, rw_u, up_up, rw_rw, rw_cm]; exact hh _ _ _)
set_option maxHeartbeats 4000000 in
set_option maxRecDepth 100000 in
theorem m_makeJumps {M p : fr_M} {Q : Option fr_V → fr_H → fr_M → Prop} (hp : pg M = p) (hw : WF p) (hnx : ∀ b, 0 ≤ b → b < p 75 4 → M 97 b = nn (nx p b)) (h : ∀ g101 g102 g103, (∀ b, 0 ≤ b → b < p 75 4 → MJ p b g101 g102 g103) → Q none sh0 (rw_ (rw_ (rw_ M 101 g101) 102 g102) 103 g103)) : fr_Call 179 [.inr (.inl 75)] sh0 M Q := by
  have h40 := hw.1.1
  have hh := m_mj_l hp hw hnx h (p 75 4).toNat 0 (M 101) (M 102) (M 103) none none none (by omega) (by omega) (fun b q0 q1 => by omega)
  rw [rw_id, rw_id, rw_id] at hh
  refine fr_cgo k179 [some (.inr (.inl 75)), none, none, none, none] 0 0 [2] 400 rfl rfl rfl rfl ?_
  repeat' (first | (refine And.intro (by first | omega | (simp (disch := decide) only [up_n, up_s, cp_n, rw_n, rw_s, up1_, if_true, if_false, ite_true, ite_false, reduceIte, eq_self, Int.reduceEq, true_and, and_true, not_true_eq_false, not_false_eq_true]; omega)) ?_) | (refine And.intro (fun hc => ?_) (fun hc => ?_) <;> (try (simp (disch := decide) only [up_n, up_s, cp_n, rw_n, rw_s, up1_, if_true, if_false, ite_true, ite_false, reduceIte, eq_self, Int.reduceEq, true_and, and_true, not_true_eq_false, not_false_eq_true] at hc)) <;> (try (exfalso; omega))) | (refine fun (hc : ¬ _) => ?_; try (simp (disch := decide) only [up_n, up_s, cp_n, rw_n, rw_s, up1_, if_true, if_false, ite_true, ite_false, reduceIte, eq_self, Int.reduceEq, true_and, and_true, not_true_eq_false, not_false_eq_true] at hc)) | (refine fun (hc : _ = _) => ?_; try (simp (disch := decide) only [up_n, up_s, cp_n, rw_n, rw_s, up1_, if_true, if_false, ite_true, ite_false, reduceIte, eq_self, Int.reduceEq, true_and, and_true, not_true_eq_false, not_false_eq_true] at hc)))
  exact hh
