/-- what layAll leaves for the first k of THE ROW -/
def LI (p : fr_M) (lg : Int → Int) (k : Nat) (g32 g33 g35 : Int → Int) : Prop := ∀ j : Nat, j < k → g32 (ln p j) = ad p lg (ln p j) ∧ g33 (ln p j) = be p lg (ln p j) ∧ (tg0 p (ln p j) ≠ -1 → g35 (2 * ln p j) = jb0 p lg (ln p j)) ∧ (tg1 p (ln p j) ≠ -1 → g35 (2 * ln p j + 1) = jb1 p lg (ln p j))
theorem LI.step {p : fr_M} (hw : WF p) {lg : Int → Int} {k : Nat} {g32 g33 g35 g35' : Int → Int} (hk : k < cN p) (h : LI p lg k g32 g33 g35) (he : EG p lg (ln p k) (al p (pos p lg k) + p 80 (ln p k)) g35 g35') : LI p lg (k + 1) (up1 g32 (ln p k) (al p (pos p lg k))) (up1 g33 (ln p k) (ed p lg (ln p k) (al p (pos p lg k) + p 80 (ln p k)))) g35' := by
  intro j hj
  have ea' : ea p lg (ln p k) = al p (pos p lg k) + p 80 (ln p k) := by
    unfold ea
    rw [ad_ln hw hk]
  by_cases e : j = k
  · subst e
    rw [up1_, if_pos rfl, up1_, if_pos rfl, ad_ln hw hk]
    refine ⟨rfl, ?_, fun q => ?_, fun q => ?_⟩
    · unfold be
      rw [ea']
    · rw [he.1 q]
      unfold jb0
      rw [ea']
    · rw [he.2.1 q]
      unfold jb1
      rw [ea']
  · have hne : ln p j ≠ ln p k := fun q => e (ln_inj hw (by omega) hk q)
    have := h j (by omega)
    rw [up1_, if_neg hne, up1_, if_neg hne, he.2.2 _ (by omega) (by omega), he.2.2 _ (by omega) (by omega)]
    exact this
theorem LI.all {p : fr_M} (hw : WF p) {lg : Int → Int} {g32 g33 g35 : Int → Int} (h : LI p lg (cN p) g32 g33 g35) : (∀ b, 0 ≤ b → b < p 75 4 → g32 b = ad p lg b ∧ g33 b = be p lg b) ∧ (∀ s, 0 ≤ s → s < 2 * p 75 4 → tg p s ≠ -1 → g35 s = jb p lg s) := by
  have key : ∀ b, 0 ≤ b → b < p 75 4 → _ := fun b q0 q1 => h (ix p b) (ix_lt hw ⟨q0, q1⟩)
  refine ⟨fun b q0 q1 => ?_, fun s q0 q1 q2 => ?_⟩
  · have := key b q0 q1
    rw [ln_ix hw ⟨q0, q1⟩] at this
    exact ⟨this.1, this.2.1⟩
  · have := key (s / 2) (by omega) (by omega)
    rw [ln_ix hw (by omega)] at this
    unfold tg at q2
    unfold jb
    by_cases e : s % 2 = 0
    · rw [if_pos e] at q2 ⊢
      rw [show s = 2 * (s / 2) by omega]
      rw [show 2 * (s / 2) / 2 = s / 2 by omega]
      exact this.2.2.1 q2
    · rw [if_neg e] at q2 ⊢
      rw [show s = 2 * (s / 2) + 1 by omega]
      rw [show (2 * (s / 2) + 1) / 2 = s / 2 by omega]
      exact this.2.2.2 q2
theorem gp_b {p : fr_M} (hw : WF p) {lg : Int → Int} : ∀ {k : Nat}, 0 ≤ gp p lg k ∧ gp p lg k ≤ 15 * (k : Int)
  | 0 => by simp [gp]
  | k + 1 => by
    have ih := gp_b hw (lg := lg) (k := k)
    have a := al_b hw (pos p lg k)
    rw [gp]
    omega
theorem gd_b {p : fr_M} : ∀ {k : Nat}, 0 ≤ gd p k ∧ gd p k ≤ (k : Int)
  | 0 => by simp [gd]
  | k + 1 => by
    have ih := gd_b (p := p) (k := k)
    rw [gd]
    split <;> omega
/-- what layAll needs -/
def LC (p : fr_M) (lg : Int → Int) (M : fr_M) : Prop := (∀ k : Nat, (k : Int) < p 75 4 → M 30 (k : Int) = ln p k) ∧ (∀ s, 0 ≤ s → s < 2 * p 75 4 → M 34 s = tg p s ∧ M 36 s = lg s ∧ (lg s = 0 ∨ lg s = 1))
set_option maxHeartbeats 4000000 in
set_option maxRecDepth 100000 in
theorem c_la_l {M p : fr_M} {lg : Int → Int} {Q : Option fr_V → fr_H → fr_M → Prop} (hp : pg M = p) (hw : WF p) (hc : M 1 1 = p 75 4) (hal : M 29 11 = p 75 14) (hpr : ∀ b, 0 ≤ b → b < p 75 4 → M 6 b = M 80 b ∧ M 7 b = M 82 b ∧ M 8 b = M 83 b) (hl : LC p lg M) (h : ∀ g32 g33 g35, LI p lg (cN p) g32 g33 g35 → Q none sh0 (rw_ (rw_ (rw_ (fr_up (fr_up (fr_up M 29 14 (gp p lg (cN p))) 29 15 (pos p lg (cN p))) 29 16 (pos p lg (cN p) + 8 * gd p (cN p))) 32 g32) 33 g33) 35 g35)) : ∀ (t k : Nat) (g32 g33 g35 : Int → Int) (x4 x5 : Option fr_V), k + t = cN p → LI p lg k g32 g33 g35 → fr_Run 33 none 9 [some (.inr (.inl 29)), some (.inl (pos p lg k)), some (.inl (gd p k)), some (.inl (k : Int)), x4, x5] [] sh0 (rw_ (rw_ (rw_ (fr_up M 29 14 (gp p lg k)) 32 g32) 33 g33) 35 g35) 0 0 Q := by
  have hcN := cN_40 hw
  intro t
  induction t with
  | zero =>
    intro k g32 g33 g35 x4 x5 q0 q1
    have e : k = cN p := by omega
    subst e
    have hh := h g32 g33 g35 q1
    have b1 := pos_b hw (lg := lg) (k := cN p) (by omega)
    have b2 := gd_b (p := p) (k := cN p)
    clear h
    refine fr_go k33 [9] 400 rfl ?_
    repeat' (first | (refine And.intro (by first | omega | (simp (disch := decide) only [up_n, up_s, cp_n, rw_n, rw_s, up1_, if_true, if_false, ite_true, ite_false, reduceIte, eq_self, Int.reduceEq, true_and, and_true, not_true_eq_false, not_false_eq_true]; omega)) ?_) | (refine And.intro (fun hc => ?_) (fun hc => ?_) <;> (try (simp (disch := decide) only [up_n, up_s, cp_n, rw_n, rw_s, up1_, if_true, if_false, ite_true, ite_false, reduceIte, eq_self, Int.reduceEq, true_and, and_true, not_true_eq_false, not_false_eq_true] at hc)) <;> (try (exfalso; omega))) | (refine fun (hc : ¬ _) => ?_; try (simp (disch := decide) only [up_n, up_s, cp_n, rw_n, rw_s, up1_, if_true, if_false, ite_true, ite_false, reduceIte, eq_self, Int.reduceEq, true_and, and_true, not_true_eq_false, not_false_eq_true] at hc)) | (refine fun (hc : _ = _) => ?_; try (simp (disch := decide) only [up_n, up_s, cp_n, rw_n, rw_s, up1_, if_true, if_false, ite_true, ite_false, reduceIte, eq_self, Int.reduceEq, true_and, and_true, not_true_eq_false, not_false_eq_true] at hc)))
    all_goals first | (exfalso; omega) | skip
    show Q none sh0 _
    simp (disch := decide) only [up_rw, rw_u, up_up, rw_rw, rw_cm]
    exact hh
  | succ t ih =>
    intro k g32 g33 g35 x4 x5 q0 q1
    have hk : k < cN p := by omega
    have hr := ln_rng hw hk
    have e1 := hl.1 k (by omega)
    have b1 := pos_b hw (lg := lg) (k := k) (by omega)
    have b2 := gd_b (p := p) (k := k)
    have b3 := gp_b hw (lg := lg) (k := k)
    have b4 := al_b hw (pos p lg k)
    have hA := hw.1.2.2
    have hsz := hpr _ hr.1 hr.2
    have hsz2 := hw.2.2.2.2.2.1 _ hr.1 hr.2
    have hwsz : p 80 (ln p k) = M 80 (ln p k) := by rw [← hp]; rfl
    have ek : p 82 (ln p k) = M 82 (ln p k) := by rw [← hp]; rfl
    have hc4 : p 75 4 = M 75 4 := by rw [← hp]; rfl
    have he := ed_b hw (lg := lg) (b := ln p k) (x := al p (pos p lg k) + p 80 (ln p k)) hr
    have ha := and_al (x := pos p lg k + M 29 11 - 1) (a := M 29 11) (by omega) (by omega)
    have ha2 : fr_and (pos p lg k + M 29 11 - 1) (-M 29 11) = al p (pos p lg k) := by
      rw [ha, hal]
      rfl
    have hs0 := hl.2 (2 * ln p k) (by omega) (by omega)
    have hs1 := hl.2 (2 * ln p k + 1) (by omega) (by omega)
    rw [tg_even] at hs0
    rw [tg_odd] at hs1
    refine fr_go k33 [9, 29] 400 rfl ?_
    repeat' (first | (refine And.intro (by first | omega | (simp (disch := decide) only [up_n, up_s, cp_n, rw_n, rw_s, up1_, if_true, if_false, ite_true, ite_false, reduceIte, eq_self, Int.reduceEq, true_and, and_true, not_true_eq_false, not_false_eq_true]; omega)) ?_) | (refine And.intro (fun hc => ?_) (fun hc => ?_) <;> (try (simp (disch := decide) only [up_n, up_s, cp_n, rw_n, rw_s, up1_, if_true, if_false, ite_true, ite_false, reduceIte, eq_self, Int.reduceEq, true_and, and_true, not_true_eq_false, not_false_eq_true] at hc)) <;> (try (exfalso; omega))) | (refine fun (hc : ¬ _) => ?_; try (simp (disch := decide) only [up_n, up_s, cp_n, rw_n, rw_s, up1_, if_true, if_false, ite_true, ite_false, reduceIte, eq_self, Int.reduceEq, true_and, and_true, not_true_eq_false, not_false_eq_true] at hc)) | (refine fun (hc : _ = _) => ?_; try (simp (disch := decide) only [up_n, up_s, cp_n, rw_n, rw_s, up1_, if_true, if_false, ite_true, ite_false, reduceIte, eq_self, Int.reduceEq, true_and, and_true, not_true_eq_false, not_false_eq_true] at hc)))
    all_goals first | (exfalso; omega) | skip
    show fr_Run 33 none 29 _ _ _ _ 0 0 Q
    simp (disch := decide) only [up_n, up_s, cp_n, rw_n, rw_s, up1_, if_true, if_false, ite_true, ite_false, reduceIte, eq_self, Int.reduceEq, true_and, and_true, not_true_eq_false, not_false_eq_true]
    rw [e1, ha2]
    refine fr_go k33 [9] 400 rfl ?_
    repeat' (first | (refine And.intro (by first | omega | (simp (disch := decide) only [up_n, up_s, cp_n, rw_n, rw_s, up1_, if_true, if_false, ite_true, ite_false, reduceIte, eq_self, Int.reduceEq, true_and, and_true, not_true_eq_false, not_false_eq_true]; omega)) ?_) | (refine And.intro (fun hc => ?_) (fun hc => ?_) <;> (try (simp (disch := decide) only [up_n, up_s, cp_n, rw_n, rw_s, up1_, if_true, if_false, ite_true, ite_false, reduceIte, eq_self, Int.reduceEq, true_and, and_true, not_true_eq_false, not_false_eq_true] at hc)) <;> (try (exfalso; omega))) | (refine fun (hc : ¬ _) => ?_; try (simp (disch := decide) only [up_n, up_s, cp_n, rw_n, rw_s, up1_, if_true, if_false, ite_true, ite_false, reduceIte, eq_self, Int.reduceEq, true_and, and_true, not_true_eq_false, not_false_eq_true] at hc)) | (refine fun (hc : _ = _) => ?_; try (simp (disch := decide) only [up_n, up_s, cp_n, rw_n, rw_s, up1_, if_true, if_false, ite_true, ite_false, reduceIte, eq_self, Int.reduceEq, true_and, and_true, not_true_eq_false, not_false_eq_true] at hc)))
    simp (disch := decide) only [up_n, up_s, cp_n, rw_n, rw_s, up1_, if_true, if_false, ite_true, ite_false, reduceIte, eq_self, Int.reduceEq, true_and, and_true, not_true_eq_false, not_false_eq_true]
    rw [hsz.1, ← hwsz]
    refine c_layEnd (p := p) (lg := lg) ?_ hw (by simp (disch := decide) only [up_n, up_s, cp_n, rw_n, rw_s, up1_, if_true, if_false, ite_true, ite_false, reduceIte, eq_self, Int.reduceEq, true_and, and_true, not_true_eq_false, not_false_eq_true]; omega) (by simp (disch := decide) only [up_n, up_s, cp_n, rw_n, rw_s, up1_, if_true, if_false, ite_true, ite_false, reduceIte, eq_self, Int.reduceEq, true_and, and_true, not_true_eq_false, not_false_eq_true]; exact hsz.2.1) (by simp (disch := decide) only [up_n, up_s, cp_n, rw_n, rw_s, up1_, if_true, if_false, ite_true, ite_false, reduceIte, eq_self, Int.reduceEq, true_and, and_true, not_true_eq_false, not_false_eq_true]; exact hsz.2.2) (by simp (disch := decide) only [up_n, up_s, cp_n, rw_n, rw_s, up1_, if_true, if_false, ite_true, ite_false, reduceIte, eq_self, Int.reduceEq, true_and, and_true, not_true_eq_false, not_false_eq_true]; exact hs0.1) (by simp (disch := decide) only [up_n, up_s, cp_n, rw_n, rw_s, up1_, if_true, if_false, ite_true, ite_false, reduceIte, eq_self, Int.reduceEq, true_and, and_true, not_true_eq_false, not_false_eq_true]; exact hs1.1) (by simp (disch := decide) only [up_n, up_s, cp_n, rw_n, rw_s, up1_, if_true, if_false, ite_true, ite_false, reduceIte, eq_self, Int.reduceEq, true_and, and_true, not_true_eq_false, not_false_eq_true]; exact hs0.2.1) (by simp (disch := decide) only [up_n, up_s, cp_n, rw_n, rw_s, up1_, if_true, if_false, ite_true, ite_false, reduceIte, eq_self, Int.reduceEq, true_and, and_true, not_true_eq_false, not_false_eq_true]; exact hs1.2.1) hs0.2.2 hs1.2.2 (by omega) (fun g hg => ?_)
    · rw [pg_up (by omega), pg_up (by omega), pg_rw (by omega), pg_rw (by omega), pg_rw (by omega), pg_up (by omega)]
      exact hp
    · have hg' : EG p lg (ln p k) (al p (pos p lg k) + p 80 (ln p k)) g35 g := hg
      have hh := ih (k + 1) _ _ g (some (.inl (ln p k))) (some (.inl (al p (pos p lg k)))) (by omega) (q1.step hw hk hg')
      rw [show pos p lg (k + 1) = ed p lg (ln p k) (al p (pos p lg k) + p 80 (ln p k)) from rfl, show gd p (k + 1) = gd p k + (if p 82 (ln p k) = 6 then 1 else 0) from rfl, show gp p lg (k + 1) = gp p lg k + (al p (pos p lg k) - pos p lg k) from rfl] at hh
      clear ih h
      by_cases h6 : M 82 (ln p k) = 6
      · rw [ek, if_pos h6] at hh
        repeat' (first | (refine And.intro (by first | omega | (simp (disch := decide) only [up_n, up_s, cp_n, rw_n, rw_s, up1_, if_true, if_false, ite_true, ite_false, reduceIte, eq_self, Int.reduceEq, true_and, and_true, not_true_eq_false, not_false_eq_true]; omega)) ?_) | (refine And.intro (fun hc => ?_) (fun hc => ?_) <;> (try (simp (disch := decide) only [up_n, up_s, cp_n, rw_n, rw_s, up1_, if_true, if_false, ite_true, ite_false, reduceIte, eq_self, Int.reduceEq, true_and, and_true, not_true_eq_false, not_false_eq_true] at hc)) <;> (try (exfalso; omega))) | (refine fun (hc : ¬ _) => ?_; try (simp (disch := decide) only [up_n, up_s, cp_n, rw_n, rw_s, up1_, if_true, if_false, ite_true, ite_false, reduceIte, eq_self, Int.reduceEq, true_and, and_true, not_true_eq_false, not_false_eq_true] at hc)) | (refine fun (hc : _ = _) => ?_; try (simp (disch := decide) only [up_n, up_s, cp_n, rw_n, rw_s, up1_, if_true, if_false, ite_true, ite_false, reduceIte, eq_self, Int.reduceEq, true_and, and_true, not_true_eq_false, not_false_eq_true] at hc)))
        all_goals first | (exfalso; omega) | (exfalso; simp (disch := decide) only [up_n, up_s, cp_n, rw_n, rw_s, up1_, if_true, if_false, ite_true, ite_false, reduceIte, eq_self, Int.reduceEq, true_and, and_true, not_true_eq_false, not_false_eq_true] at *; omega) | skip
        simp (disch := decide) only [up_rw, rw_u, up_up, rw_rw, rw_cm]
        exact hh
      · rw [ek, if_neg h6] at hh
        repeat' (first | (refine And.intro (by first | omega | (simp (disch := decide) only [up_n, up_s, cp_n, rw_n, rw_s, up1_, if_true, if_false, ite_true, ite_false, reduceIte, eq_self, Int.reduceEq, true_and, and_true, not_true_eq_false, not_false_eq_true]; omega)) ?_) | (refine And.intro (fun hc => ?_) (fun hc => ?_) <;> (try (simp (disch := decide) only [up_n, up_s, cp_n, rw_n, rw_s, up1_, if_true, if_false, ite_true, ite_false, reduceIte, eq_self, Int.reduceEq, true_and, and_true, not_true_eq_false, not_false_eq_true] at hc)) <;> (try (exfalso; omega))) | (refine fun (hc : ¬ _) => ?_; try (simp (disch := decide) only [up_n, up_s, cp_n, rw_n, rw_s, up1_, if_true, if_false, ite_true, ite_false, reduceIte, eq_self, Int.reduceEq, true_and, and_true, not_true_eq_false, not_false_eq_true] at hc)) | (refine fun (hc : _ = _) => ?_; try (simp (disch := decide) only [up_n, up_s, cp_n, rw_n, rw_s, up1_, if_true, if_false, ite_true, ite_false, reduceIte, eq_self, Int.reduceEq, true_and, and_true, not_true_eq_false, not_false_eq_true] at hc)))
        all_goals first | (exfalso; omega) | (exfalso; simp (disch := decide) only [up_n, up_s, cp_n, rw_n, rw_s, up1_, if_true, if_false, ite_true, ite_false, reduceIte, eq_self, Int.reduceEq, true_and, and_true, not_true_eq_false, not_false_eq_true] at *; omega) | skip
        simp (disch := decide) only [up_rw, rw_u, up_up, rw_rw, rw_cm]
        exact hh
set_option maxHeartbeats 4000000 in
set_option maxRecDepth 100000 in
theorem c_layAll {M p : fr_M} {lg : Int → Int} {Q : Option fr_V → fr_H → fr_M → Prop} (hp : pg M = p) (hw : WF p) (hc : M 1 1 = p 75 4) (hal : M 29 11 = p 75 14) (hpr : ∀ b, 0 ≤ b → b < p 75 4 → M 6 b = M 80 b ∧ M 7 b = M 82 b ∧ M 8 b = M 83 b) (hl : LC p lg M) (h : ∀ g32 g33 g35, LI p lg (cN p) g32 g33 g35 → Q none sh0 (rw_ (rw_ (rw_ (fr_up (fr_up (fr_up M 29 14 (gp p lg (cN p))) 29 15 (pos p lg (cN p))) 29 16 (pos p lg (cN p) + 8 * gd p (cN p))) 32 g32) 33 g33) 35 g35)) : fr_Call 33 [.inr (.inl 29)] sh0 M Q := by
  have hh := c_la_l (lg := lg) hp hw hc hal hpr hl h (cN p) 0 (M 32) (M 33) (M 35) none none (by omega) (fun j hj => absurd hj (by omega))
  have e : rw_ (rw_ (rw_ (fr_up M 29 14 0) 32 (M 32)) 33 (M 33)) 35 (M 35) = fr_up M 29 14 0 := by
    have e1 := rw_id (M := fr_up M 29 14 0) (k := 32)
    have e2 := rw_id (M := fr_up M 29 14 0) (k := 33)
    have e3 := rw_id (M := fr_up M 29 14 0) (k := 35)
    have e4 : rw_ (fr_up M 29 14 0) 32 (M 32) = fr_up M 29 14 0 := e1
    have e5 : rw_ (fr_up M 29 14 0) 33 (M 33) = fr_up M 29 14 0 := e2
    have e6 : rw_ (fr_up M 29 14 0) 35 (M 35) = fr_up M 29 14 0 := e3
    rw [e4, e5, e6]
  have hh2 := q_run hh e
  refine fr_cgo k33 [some (.inr (.inl 29)), none, none, none, none, none] 0 0 [9] 400 rfl rfl rfl rfl ?_
  repeat' (first | (refine And.intro (by first | omega | (simp (disch := decide) only [up_n, up_s, cp_n, rw_n, rw_s, up1_, if_true, if_false, ite_true, ite_false, reduceIte, eq_self, Int.reduceEq, true_and, and_true, not_true_eq_false, not_false_eq_true]; omega)) ?_) | (refine And.intro (fun hc => ?_) (fun hc => ?_) <;> (try (simp (disch := decide) only [up_n, up_s, cp_n, rw_n, rw_s, up1_, if_true, if_false, ite_true, ite_false, reduceIte, eq_self, Int.reduceEq, true_and, and_true, not_true_eq_false, not_false_eq_true] at hc)) <;> (try (exfalso; omega))) | (refine fun (hc : ¬ _) => ?_; try (simp (disch := decide) only [up_n, up_s, cp_n, rw_n, rw_s, up1_, if_true, if_false, ite_true, ite_false, reduceIte, eq_self, Int.reduceEq, true_and, and_true, not_true_eq_false, not_false_eq_true] at hc)) | (refine fun (hc : _ = _) => ?_; try (simp (disch := decide) only [up_n, up_s, cp_n, rw_n, rw_s, up1_, if_true, if_false, ite_true, ite_false, reduceIte, eq_self, Int.reduceEq, true_and, and_true, not_true_eq_false, not_false_eq_true] at hc)))
  exact hh2
