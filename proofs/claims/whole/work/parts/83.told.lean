def ls_ (f : Int → Int) : List Int → Int
  | [] => 0
  | a :: l => f a + ls_ f l
theorem ls_app {f : Int → Int} : ∀ {a b : List Int}, ls_ f (a ++ b) = ls_ f a + ls_ f b
  | [], b => by simp [ls_]
  | x :: a, b => by
    rw [List.cons_append, ls_, ls_, ls_app]
    omega
theorem ls_perm {f : Int → Int} {a b : List Int} (h : a.Perm b) : ls_ f a = ls_ f b := by
  induction h with
  | nil => rfl
  | cons x _ ih => rw [ls_, ls_, ih]
  | swap x y l => rw [ls_, ls_, ls_, ls_]; omega
  | trans _ _ ih1 ih2 => rw [ih1, ih2]
theorem row_perm {p : fr_M} (hw : WF p) : List.Perm (rowL p) ((List.range (cN p)).map (fun i : Nat => (i : Int))) := by
  have h0 := hw.1.1
  have hn : ((List.range (cN p)).map (fun i : Nat => (i : Int))).Nodup := by
    unfold List.Nodup
    rw [List.pairwise_map]
    exact List.Pairwise.imp (fun {a b} h e => h (by omega)) (List.nodup_range (n := cN p))
  rw [List.perm_ext_iff_of_nodup (nodup_row hw) hn]
  intro a
  rw [mem_row hw]
  unfold cN
  constructor
  · rintro ⟨h1, h2⟩
    exact List.mem_map.mpr ⟨a.toNat, List.mem_range.mpr (by omega), by omega⟩
  · intro h
    obtain ⟨x, y, z⟩ := List.mem_map.mp h
    have := List.mem_range.mp y
    omega
theorem ls_range {f : Int → Int} : ∀ n : Nat, ls_ f ((List.range n).map (fun i : Nat => (i : Int))) = cnt f n
  | 0 => rfl
  | n + 1 => by
    rw [List.range_succ, List.map_append, ls_app, ls_range n, cnt]
    simp [ls_]
def cl (p : fr_M) (f : Int → Int) : Nat → Int
  | 0 => 0
  | k + 1 => cl p f k + f (ln p k)
theorem ls_take {p : fr_M} (hw : WF p) {f : Int → Int} : ∀ k : Nat, k ≤ cN p → ls_ f ((rowL p).take k) = cl p f k
  | 0, _ => by simp [ls_, cl]
  | k + 1, h => by
    have e := ln_some hw (k := k) (by omega)
    rw [List.take_succ, ls_app, ls_take hw k (by omega), e, cl]
    simp [ls_]
theorem cnt_cl {p : fr_M} (hw : WF p) {f : Int → Int} : cnt f (cN p) = cl p f (cN p) := by
  rw [← ls_take hw (cN p) (Nat.le_refl _), ← ls_range, ← ls_perm (row_perm hw)]
  congr 1
  rw [List.take_of_length_le]
  rw [len_row hw]
  exact Nat.le_refl _
theorem cl_gp {p : fr_M} (hw : WF p) {lg : Int → Int} : ∀ k : Nat, k ≤ cN p → cl p (fun b => be p lg b - ad p lg b) k = pos p lg k - gp p lg k
  | 0, _ => by simp [cl, pos, gp]
  | k + 1, h => by
    have ih := cl_gp hw (lg := lg) k (by omega)
    rw [cl, ih, gp, be_ln hw (by omega), ad_ln hw (by omega)]
    omega
def jA (p : fr_M) (lg : Int → Int) (z : Int) : Nat → Int
  | 0 => 0
  | b + 1 => jA p lg z b + (0 + js p lg z (2 * (b : Int)) + js p lg z (2 * (b : Int) + 1))
theorem jA_b {p : fr_M} {lg : Int → Int} {z : Int} : ∀ {b : Nat}, 0 ≤ jA p lg z b ∧ jA p lg z b ≤ 2 * (b : Int)
  | 0 => by simp [jA]
  | b + 1 => by
    have ih := jA_b (p := p) (lg := lg) (z := z) (b := b)
    have a := js_b (p := p) (lg := lg) (z := z) (s := 2 * (b : Int))
    have c := js_b (p := p) (lg := lg) (z := z) (s := 2 * (b : Int) + 1)
    rw [jA]
    omega
set_option maxHeartbeats 4000000 in
set_option maxRecDepth 100000 in
theorem c_aj_l {M p : fr_M} {lg : Int → Int} {z : Int} {Q : Option fr_V → fr_H → fr_M → Prop} (hz : z = 0 ∨ z = 1) (hw : WF p) (hcc : M 1 1 = p 75 4) (h34 : ∀ s, 0 ≤ s → s < 2 * p 75 4 → M 34 s = tg p s ∧ M 36 s = lg s) (h : Q (some (.inl (jA p lg z (cN p)))) sh0 M) : ∀ (t b : Nat), b + t = cN p → fr_Run 39 none 4 [some (.inr (.inl 29)), some (.inl z), some (.inl (jA p lg z b)), some (.inl (b : Int))] [] sh0 M 0 0 Q := by
  have hcN := cN_40 hw
  intro t
  induction t with
  | zero =>
    intro b q0
    have e : b = cN p := by omega
    subst e
    refine fr_go k39 [4] 400 rfl ?_
    repeat' (first | (refine And.intro (by first | omega | (simp (disch := decide) only [up_n, up_s, cp_n, rw_n, rw_s, up1_, if_true, if_false, ite_true, ite_false, reduceIte, eq_self, Int.reduceEq, true_and, and_true, not_true_eq_false, not_false_eq_true]; omega)) ?_) | (refine And.intro (fun hc => ?_) (fun hc => ?_) <;> (try (simp (disch := decide) only [up_n, up_s, cp_n, rw_n, rw_s, up1_, if_true, if_false, ite_true, ite_false, reduceIte, eq_self, Int.reduceEq, true_and, and_true, not_true_eq_false, not_false_eq_true] at hc)) <;> (try (exfalso; omega))) | (refine fun (hc : ¬ _) => ?_; try (simp (disch := decide) only [up_n, up_s, cp_n, rw_n, rw_s, up1_, if_true, if_false, ite_true, ite_false, reduceIte, eq_self, Int.reduceEq, true_and, and_true, not_true_eq_false, not_false_eq_true] at hc)) | (refine fun (hc : _ = _) => ?_; try (simp (disch := decide) only [up_n, up_s, cp_n, rw_n, rw_s, up1_, if_true, if_false, ite_true, ite_false, reduceIte, eq_self, Int.reduceEq, true_and, and_true, not_true_eq_false, not_false_eq_true] at hc)))
    all_goals first | (exfalso; omega) | exact h
  | succ t ih =>
    intro b q0
    have hh := ih (b + 1) (by omega)
    rw [jA] at hh
    have bb := jA_b (p := p) (lg := lg) (z := z) (b := b)
    have a := js_b (p := p) (lg := lg) (z := z) (s := 2 * (b : Int))
    have c := js_b (p := p) (lg := lg) (z := z) (s := 2 * (b : Int) + 1)
    clear ih h
    refine fr_go k39 [4] 400 rfl ?_
    repeat' (first | (refine And.intro (by first | omega | (simp (disch := decide) only [up_n, up_s, cp_n, rw_n, rw_s, up1_, if_true, if_false, ite_true, ite_false, reduceIte, eq_self, Int.reduceEq, true_and, and_true, not_true_eq_false, not_false_eq_true]; omega)) ?_) | (refine c_jumpsOf (p := p) (lg := lg) (by omega) hz (fun s q => h34 s (by omega) (by omega)) ?_) | (refine And.intro (fun hc => ?_) (fun hc => ?_) <;> (try (simp (disch := decide) only [up_n, up_s, cp_n, rw_n, rw_s, up1_, if_true, if_false, ite_true, ite_false, reduceIte, eq_self, Int.reduceEq, true_and, and_true, not_true_eq_false, not_false_eq_true] at hc)) <;> (try (exfalso; omega))) | (refine fun (hc : ¬ _) => ?_; try (simp (disch := decide) only [up_n, up_s, cp_n, rw_n, rw_s, up1_, if_true, if_false, ite_true, ite_false, reduceIte, eq_self, Int.reduceEq, true_and, and_true, not_true_eq_false, not_false_eq_true] at hc)) | (refine fun (hc : _ = _) => ?_; try (simp (disch := decide) only [up_n, up_s, cp_n, rw_n, rw_s, up1_, if_true, if_false, ite_true, ite_false, reduceIte, eq_self, Int.reduceEq, true_and, and_true, not_true_eq_false, not_false_eq_true] at hc)))
    all_goals first | (exfalso; omega) | exact hh
set_option maxHeartbeats 4000000 in
set_option maxRecDepth 100000 in
theorem c_allJumps {M p : fr_M} {lg : Int → Int} {z : Int} {Q : Option fr_V → fr_H → fr_M → Prop} (hz : z = 0 ∨ z = 1) (hw : WF p) (hcc : M 1 1 = p 75 4) (h34 : ∀ s, 0 ≤ s → s < 2 * p 75 4 → M 34 s = tg p s ∧ M 36 s = lg s) (h : Q (some (.inl (jA p lg z (cN p)))) sh0 M) : fr_Call 39 [.inr (.inl 29), .inl z] sh0 M Q := by
  have hh := c_aj_l hz hw hcc h34 h (cN p) 0 (by omega)
  refine fr_cgo k39 [some (.inr (.inl 29)), some (.inl z), none, none] 0 0 [4] 400 rfl rfl rfl rfl ?_
  repeat' (first | (refine And.intro (by first | omega | (simp (disch := decide) only [up_n, up_s, cp_n, rw_n, rw_s, up1_, if_true, if_false, ite_true, ite_false, reduceIte, eq_self, Int.reduceEq, true_and, and_true, not_true_eq_false, not_false_eq_true]; omega)) ?_) | (refine And.intro (fun hc => ?_) (fun hc => ?_) <;> (try (simp (disch := decide) only [up_n, up_s, cp_n, rw_n, rw_s, up1_, if_true, if_false, ite_true, ite_false, reduceIte, eq_self, Int.reduceEq, true_and, and_true, not_true_eq_false, not_false_eq_true] at hc)) <;> (try (exfalso; omega))) | (refine fun (hc : ¬ _) => ?_; try (simp (disch := decide) only [up_n, up_s, cp_n, rw_n, rw_s, up1_, if_true, if_false, ite_true, ite_false, reduceIte, eq_self, Int.reduceEq, true_and, and_true, not_true_eq_false, not_false_eq_true] at hc)) | (refine fun (hc : _ = _) => ?_; try (simp (disch := decide) only [up_n, up_s, cp_n, rw_n, rw_s, up1_, if_true, if_false, ite_true, ite_false, reduceIte, eq_self, Int.reduceEq, true_and, and_true, not_true_eq_false, not_false_eq_true] at hc)))
  exact hh
set_option maxHeartbeats 4000000 in
set_option maxRecDepth 100000 in
theorem m_td_s {M p : fr_M} {T : Nat} {b w e0 x y s : Int} {Q : Option fr_V → fr_H → fr_M → Prop} (hb : 0 ≤ b ∧ b < 40) (hs : s = 2 * b ∨ s = 2 * b + 1) (hx : 0 ≤ x ∧ x ≤ 100) (hy : 0 ≤ y ∧ y ≤ 100) (h101 : M 101 s = nn (tg p s)) (htr : tg p s = -1 ∨ 0 ≤ tg p s) (h102 : M 102 s = lgT p T s) (h : fr_Run 189 none 38 [some (.inr (.inl 75)), some (.inl w), some (.inl e0), some (.inl (x + js p (lgT p T) 0 s)), some (.inl (y + js p (lgT p T) 1 s)), some (.inl b), some (.inl (s + 1))] [] sh0 M 0 0 Q) : fr_Run 189 none 38 [some (.inr (.inl 75)), some (.inl w), some (.inl e0), some (.inl x), some (.inl y), some (.inl b), some (.inl s)] [] sh0 M 0 0 Q := by
  have l01 := lg_01 (p := p) (t := T) (s := s)
  have ltg := lg_tg (p := p) (t := T) (s := s)
  unfold nn at h101
  unfold js at h
  by_cases e0 : tg p s = -1
  · have e1 : lgT p T s = 0 := by
      rcases l01 with q | q
      · exact q
      · exact absurd e0 (ltg q)
    rw [if_pos e0] at h101
    rw [if_neg (fun q => q.1 e0), if_neg (fun q => q.1 e0)] at h
    refine fr_go k189 [38] 400 rfl ?_
    repeat' (first | (refine And.intro (by first | omega | (simp (disch := decide) only [up_n, up_s, cp_n, rw_n, rw_s, up1_, if_true, if_false, ite_true, ite_false, reduceIte, eq_self, Int.reduceEq, true_and, and_true, not_true_eq_false, not_false_eq_true]; omega)) ?_) | (refine And.intro (fun hc => ?_) (fun hc => ?_) <;> (try (simp (disch := decide) only [up_n, up_s, cp_n, rw_n, rw_s, up1_, if_true, if_false, ite_true, ite_false, reduceIte, eq_self, Int.reduceEq, true_and, and_true, not_true_eq_false, not_false_eq_true] at hc)) <;> (try (exfalso; omega))) | (refine fun (hc : ¬ _) => ?_; try (simp (disch := decide) only [up_n, up_s, cp_n, rw_n, rw_s, up1_, if_true, if_false, ite_true, ite_false, reduceIte, eq_self, Int.reduceEq, true_and, and_true, not_true_eq_false, not_false_eq_true] at hc)) | (refine fun (hc : _ = _) => ?_; try (simp (disch := decide) only [up_n, up_s, cp_n, rw_n, rw_s, up1_, if_true, if_false, ite_true, ite_false, reduceIte, eq_self, Int.reduceEq, true_and, and_true, not_true_eq_false, not_false_eq_true] at hc)))
    all_goals first | (exfalso; omega) | exact h
  · rw [if_neg e0] at h101
    rcases l01 with e1 | e1
    · rw [if_pos ⟨e0, e1⟩, if_neg (fun q => by omega)] at h
      refine fr_go k189 [38] 400 rfl ?_
      repeat' (first | (refine And.intro (by first | omega | (simp (disch := decide) only [up_n, up_s, cp_n, rw_n, rw_s, up1_, if_true, if_false, ite_true, ite_false, reduceIte, eq_self, Int.reduceEq, true_and, and_true, not_true_eq_false, not_false_eq_true]; omega)) ?_) | (refine And.intro (fun hc => ?_) (fun hc => ?_) <;> (try (simp (disch := decide) only [up_n, up_s, cp_n, rw_n, rw_s, up1_, if_true, if_false, ite_true, ite_false, reduceIte, eq_self, Int.reduceEq, true_and, and_true, not_true_eq_false, not_false_eq_true] at hc)) <;> (try (exfalso; omega))) | (refine fun (hc : ¬ _) => ?_; try (simp (disch := decide) only [up_n, up_s, cp_n, rw_n, rw_s, up1_, if_true, if_false, ite_true, ite_false, reduceIte, eq_self, Int.reduceEq, true_and, and_true, not_true_eq_false, not_false_eq_true] at hc)) | (refine fun (hc : _ = _) => ?_; try (simp (disch := decide) only [up_n, up_s, cp_n, rw_n, rw_s, up1_, if_true, if_false, ite_true, ite_false, reduceIte, eq_self, Int.reduceEq, true_and, and_true, not_true_eq_false, not_false_eq_true] at hc)))
      all_goals first | (exfalso; omega) | exact h
    · rw [if_neg (fun q => by omega), if_pos ⟨e0, e1⟩] at h
      refine fr_go k189 [38] 400 rfl ?_
      repeat' (first | (refine And.intro (by first | omega | (simp (disch := decide) only [up_n, up_s, cp_n, rw_n, rw_s, up1_, if_true, if_false, ite_true, ite_false, reduceIte, eq_self, Int.reduceEq, true_and, and_true, not_true_eq_false, not_false_eq_true]; omega)) ?_) | (refine And.intro (fun hc => ?_) (fun hc => ?_) <;> (try (simp (disch := decide) only [up_n, up_s, cp_n, rw_n, rw_s, up1_, if_true, if_false, ite_true, ite_false, reduceIte, eq_self, Int.reduceEq, true_and, and_true, not_true_eq_false, not_false_eq_true] at hc)) <;> (try (exfalso; omega))) | (refine fun (hc : ¬ _) => ?_; try (simp (disch := decide) only [up_n, up_s, cp_n, rw_n, rw_s, up1_, if_true, if_false, ite_true, ite_false, reduceIte, eq_self, Int.reduceEq, true_and, and_true, not_true_eq_false, not_false_eq_true] at hc)) | (refine fun (hc : _ = _) => ?_; try (simp (disch := decide) only [up_n, up_s, cp_n, rw_n, rw_s, up1_, if_true, if_false, ite_true, ite_false, reduceIte, eq_self, Int.reduceEq, true_and, and_true, not_true_eq_false, not_false_eq_true] at hc)))
      all_goals first | (exfalso; omega) | exact h
set_option maxHeartbeats 4000000 in
set_option maxRecDepth 100000 in
theorem m_td_l {M p : fr_M} {T : Nat} {w : Int} {Q : Option fr_V → fr_H → fr_M → Prop} (hp : pg M = p) (hw : WF p) (hP : RefP p T M) (h : ∀ x5 x6, fr_Run 189 none 77 [some (.inr (.inl 75)), some (.inl w), some (.inl (gp p (lgT p T) (cN p))), some (.inl (jA p (lgT p T) 0 (cN p))), some (.inl (jA p (lgT p T) 1 (cN p))), x5, x6] [] sh0 M 0 0 Q) : ∀ (t b : Nat) (x6 : Option fr_V), b + t = cN p → fr_Run 189 none 18 [some (.inr (.inl 75)), some (.inl w), some (.inl (pos p (lgT p T) (cN p) - cnt (fun b => be p (lgT p T) b - ad p (lgT p T) b) b)), some (.inl (jA p (lgT p T) 0 b)), some (.inl (jA p (lgT p T) 1 b)), some (.inl (b : Int)), x6] [] sh0 M 0 0 Q := by
  have hcN := cN_40 hw
  have hc4 : p 75 4 = M 75 4 := by rw [← hp]; rfl
  obtain ⟨-, -, -, hbl, hsl⟩ := hP
  intro t
  induction t with
  | zero =>
    intro b x6 q0
    have e : b = cN p := by omega
    subst e
    have e1 := cnt_cl hw (f := fun b => be p (lgT p T) b - ad p (lgT p T) b)
    have e2 := cl_gp hw (lg := lgT p T) (cN p) (Nat.le_refl _)
    have hh := h (some (.inl (cN p : Int))) x6
    rw [e1, e2, show pos p (lgT p T) (cN p) - (pos p (lgT p T) (cN p) - gp p (lgT p T) (cN p)) = gp p (lgT p T) (cN p) by omega]
    clear h
    refine fr_go k189 [18, 77] 400 rfl ?_
    repeat' (first | (refine And.intro (by first | omega | (simp (disch := decide) only [up_n, up_s, cp_n, rw_n, rw_s, up1_, if_true, if_false, ite_true, ite_false, reduceIte, eq_self, Int.reduceEq, true_and, and_true, not_true_eq_false, not_false_eq_true]; omega)) ?_) | (refine And.intro (fun hc => ?_) (fun hc => ?_) <;> (try (simp (disch := decide) only [up_n, up_s, cp_n, rw_n, rw_s, up1_, if_true, if_false, ite_true, ite_false, reduceIte, eq_self, Int.reduceEq, true_and, and_true, not_true_eq_false, not_false_eq_true] at hc)) <;> (try (exfalso; omega))) | (refine fun (hc : ¬ _) => ?_; try (simp (disch := decide) only [up_n, up_s, cp_n, rw_n, rw_s, up1_, if_true, if_false, ite_true, ite_false, reduceIte, eq_self, Int.reduceEq, true_and, and_true, not_true_eq_false, not_false_eq_true] at hc)) | (refine fun (hc : _ = _) => ?_; try (simp (disch := decide) only [up_n, up_s, cp_n, rw_n, rw_s, up1_, if_true, if_false, ite_true, ite_false, reduceIte, eq_self, Int.reduceEq, true_and, and_true, not_true_eq_false, not_false_eq_true] at hc)))
    all_goals first | (exfalso; omega) | exact hh
  | succ t ih =>
    intro b x6 q0
    have hb : 0 ≤ (b : Int) ∧ (b : Int) < p 75 4 := by omega
    have hbl := hbl (b : Int) hb.1 hb.2
    have hab := ad_b hw (lg := lgT p T) hb
    have hsz := (hw.2.2.2.2.2.1 (b : Int) hb.1 hb.2).1
    have s0' := hsl (2 * (b : Int)) (by omega) (by omega)
    have s1' := hsl (2 * (b : Int) + 1) (by omega) (by omega)
    have tr0 := tg_rng hw (s := 2 * (b : Int)) (by omega)
    have tr1 := tg_rng hw (s := 2 * (b : Int) + 1) (by omega)
    have b0 := jA_b (p := p) (lg := lgT p T) (z := 0) (b := b)
    have b1 := jA_b (p := p) (lg := lgT p T) (z := 1) (b := b)
    have j1 := js_b (p := p) (lg := lgT p T) (z := 1) (s := 2 * (b : Int))
    have j3 := js_b (p := p) (lg := lgT p T) (z := 0) (s := 2 * (b : Int))
    have bp := pos_b hw (lg := lgT p T) (k := cN p) (Nat.le_refl _)
    have bc : ∀ m : Nat, m ≤ cN p → 0 ≤ cnt (fun b => be p (lgT p T) b - ad p (lgT p T) b) m ∧ cnt (fun b => be p (lgT p T) b - ad p (lgT p T) b) m ≤ 300 * (m : Int) := by
      intro m
      induction m with
      | zero => intro _; simp [cnt]
      | succ m ihm =>
        intro hm
        have a := ihm (by omega)
        have c := ad_b hw (lg := lgT p T) (b := (m : Int)) (by omega)
        have d := (hw.2.2.2.2.2.1 (m : Int) (by omega) (by omega)).1
        rw [cnt]
        omega
    have bc := bc b (by omega)
    have hh := ih (b + 1) (some (.inl (2 * (b : Int) + 1 + 1))) (by omega)
    rw [cnt, jA, jA] at hh
    clear ih h
    refine fr_go k189 [18, 38] 400 rfl ?_
    repeat' (first | (refine And.intro (by first | omega | (simp (disch := decide) only [up_n, up_s, cp_n, rw_n, rw_s, up1_, if_true, if_false, ite_true, ite_false, reduceIte, eq_self, Int.reduceEq, true_and, and_true, not_true_eq_false, not_false_eq_true]; omega)) ?_) | (refine And.intro (fun hc => ?_) (fun hc => ?_) <;> (try (simp (disch := decide) only [up_n, up_s, cp_n, rw_n, rw_s, up1_, if_true, if_false, ite_true, ite_false, reduceIte, eq_self, Int.reduceEq, true_and, and_true, not_true_eq_false, not_false_eq_true] at hc)) <;> (try (exfalso; omega))) | (refine fun (hc : ¬ _) => ?_; try (simp (disch := decide) only [up_n, up_s, cp_n, rw_n, rw_s, up1_, if_true, if_false, ite_true, ite_false, reduceIte, eq_self, Int.reduceEq, true_and, and_true, not_true_eq_false, not_false_eq_true] at hc)) | (refine fun (hc : _ = _) => ?_; try (simp (disch := decide) only [up_n, up_s, cp_n, rw_n, rw_s, up1_, if_true, if_false, ite_true, ite_false, reduceIte, eq_self, Int.reduceEq, true_and, and_true, not_true_eq_false, not_false_eq_true] at hc)))
    all_goals first | (exfalso; omega) | skip
    refine m_td_s (p := p) (T := T) (by omega) (Or.inl rfl) (by omega) (by omega) s0'.1 (by omega) s0'.2.1 ?_
    refine m_td_s (p := p) (T := T) (by omega) (Or.inr rfl) (by omega) (by omega) s1'.1 (by omega) s1'.2.1 ?_
    refine fr_go k189 [18] 400 rfl ?_
    repeat' (first | (refine And.intro (by first | omega | (simp (disch := decide) only [up_n, up_s, cp_n, rw_n, rw_s, up1_, if_true, if_false, ite_true, ite_false, reduceIte, eq_self, Int.reduceEq, true_and, and_true, not_true_eq_false, not_false_eq_true]; omega)) ?_) | (refine And.intro (fun hc => ?_) (fun hc => ?_) <;> (try (simp (disch := decide) only [up_n, up_s, cp_n, rw_n, rw_s, up1_, if_true, if_false, ite_true, ite_false, reduceIte, eq_self, Int.reduceEq, true_and, and_true, not_true_eq_false, not_false_eq_true] at hc)) <;> (try (exfalso; omega))) | (refine fun (hc : ¬ _) => ?_; try (simp (disch := decide) only [up_n, up_s, cp_n, rw_n, rw_s, up1_, if_true, if_false, ite_true, ite_false, reduceIte, eq_self, Int.reduceEq, true_and, and_true, not_true_eq_false, not_false_eq_true] at hc)) | (refine fun (hc : _ = _) => ?_; try (simp (disch := decide) only [up_n, up_s, cp_n, rw_n, rw_s, up1_, if_true, if_false, ite_true, ite_false, reduceIte, eq_self, Int.reduceEq, true_and, and_true, not_true_eq_false, not_false_eq_true] at hc)))
    all_goals first | (exfalso; omega) | skip
    rw [hbl.2.1, hbl.2.2.2]
    rw [show pos p (lgT p T) (cN p) - (cnt (fun b => be p (lgT p T) b - ad p (lgT p T) b) b + (be p (lgT p T) (b : Int) - ad p (lgT p T) (b : Int))) = pos p (lgT p T) (cN p) - cnt (fun b => be p (lgT p T) b - ad p (lgT p T) b) b - (be p (lgT p T) (b : Int) - ad p (lgT p T) (b : Int)) by omega] at hh
    rw [show jA p (lgT p T) 0 b + (0 + js p (lgT p T) 0 (2 * (b : Int)) + js p (lgT p T) 0 (2 * (b : Int) + 1)) = jA p (lgT p T) 0 b + js p (lgT p T) 0 (2 * (b : Int)) + js p (lgT p T) 0 (2 * (b : Int) + 1) by omega, show jA p (lgT p T) 1 b + (0 + js p (lgT p T) 1 (2 * (b : Int)) + js p (lgT p T) 1 (2 * (b : Int) + 1)) = jA p (lgT p T) 1 b + js p (lgT p T) 1 (2 * (b : Int)) + js p (lgT p T) 1 (2 * (b : Int) + 1) by omega] at hh
    exact hh
set_option maxHeartbeats 4000000 in
set_option maxRecDepth 100000 in
theorem op_told {n : Int} {M : fr_M} (hR : Rel n M) (hn : n ≤ 512) (a0 : Int) (g0 : fr_in a0) : Two 127 189 [.inl a0] M (Rel (n + 1)) := by
  refine Two.of ?_
  refine fr_cgo k127 [some (.inr (.inl 0)), some (.inl a0)] 0 0 [] 400 rfl rfl rfl rfl ?_
  refine op_settle hR hn (fun M1 hf hR1 hL e18 => ?_)
  have hw := hR1.wf
  obtain ⟨T, hT⟩ := hL
  have hcN := cN_40 hw
  have hsl : ∀ s, 0 ≤ s → s < 2 * pg M1 75 4 → M1 34 s = tg (pg M1) s ∧ M1 36 s = lgT (pg M1) T s := fun s q0 q1 => ⟨(hT.2.2.2.2 s q0 q1).1, (hT.2.2.2.2 s q0 q1).2.1⟩
  have hcc : M1 1 1 = pg M1 75 4 := hR1.2.1.2.2.2.1
  by_cases ha : 0 ≤ a0 ∧ a0 ≤ 5
  · have href : ∀ v, (a0 = 0 → pos (pg M1) (lgT (pg M1) T) (cN (pg M1)) + 8 * gd (pg M1) (cN (pg M1)) = v) → (a0 = 1 → gp (pg M1) (lgT (pg M1) T) (cN (pg M1)) = v) → (a0 = 2 → jA (pg M1) (lgT (pg M1) T) 0 (cN (pg M1)) = v) → (a0 = 3 → jA (pg M1) (lgT (pg M1) T) 1 (cN (pg M1)) = v) → (a0 = 4 → (T : Int) = v) → (a0 = 5 → 8 * gd (pg M1) (cN (pg M1)) = v) → fr_Call 189 [.inr (.inl 75), .inl a0] sh0 M1 (fun r2 sh2 M2 => sh2 = sh0 ∧ r2 = some (.inl v) ∧ Rel (n + 1) M2) := by
      intro v v0 v1 v2 v3 v4 v5
      obtain ⟨h0, h1, h2, h3, h4, h5, h6, h7, h8, o1, o2, o3, k1, k2, k3, k4, k5, t1, t2, s1, r1, r1', r2, r2', r3, r4, l⟩ := id hR1
      refine fr_cgo k189 [some (.inr (.inl 75)), some (.inl a0), none, none, none, none, none] 0 0 [18] 400 rfl rfl rfl rfl ?_
      repeat' (first | (refine And.intro (by first | omega | (simp (disch := decide) only [up_n, up_s, cp_n, rw_n, rw_s, up1_, if_true, if_false, ite_true, ite_false, reduceIte, eq_self, Int.reduceEq, true_and, and_true, not_true_eq_false, not_false_eq_true]; omega)) ?_) | (refine m_in (fun hc => ?_) (fun hc => ?_) <;> (try (simp (disch := decide) only [up_n, up_s, cp_n, rw_n, rw_s, up1_, if_true, if_false, ite_true, ite_false, reduceIte, eq_self, Int.reduceEq, true_and, and_true, not_true_eq_false, not_false_eq_true] at hc))) | (refine And.intro (fun hc => ?_) (fun hc => ?_) <;> (try (simp (disch := decide) only [up_n, up_s, cp_n, rw_n, rw_s, up1_, if_true, if_false, ite_true, ite_false, reduceIte, eq_self, Int.reduceEq, true_and, and_true, not_true_eq_false, not_false_eq_true] at hc)) <;> (try (exfalso; omega))) | (refine fun (hc : ¬ _) => ?_; try (simp (disch := decide) only [up_n, up_s, cp_n, rw_n, rw_s, up1_, if_true, if_false, ite_true, ite_false, reduceIte, eq_self, Int.reduceEq, true_and, and_true, not_true_eq_false, not_false_eq_true] at hc)) | (refine fun (hc : _ = _) => ?_; try (simp (disch := decide) only [up_n, up_s, cp_n, rw_n, rw_s, up1_, if_true, if_false, ite_true, ite_false, reduceIte, eq_self, Int.reduceEq, true_and, and_true, not_true_eq_false, not_false_eq_true] at hc)))
      all_goals first | (exfalso; omega) | skip
      refine m_lays hw h1 h2 h4 o1 s1 (fun M2 T2 hf2 hP => ?_)
      have hR2 := hR1.ref hf2
      have eT : T2 = T := T_uniq hP.1 hT.1
      subst eT
      have hp2 := pg_rc hf2
      obtain ⟨e28, e37, e38, e39⟩ := id hP.2.1
      have bp := pos_b hw (lg := lgT (pg M1) T2) (k := cN (pg M1)) (Nat.le_refl _)
      have bg := gd_b (p := pg M1) (k := cN (pg M1))
      repeat' (first | (refine And.intro (by first | omega | (simp (disch := decide) only [up_n, up_s, cp_n, rw_n, rw_s, up1_, if_true, if_false, ite_true, ite_false, reduceIte, eq_self, Int.reduceEq, true_and, and_true, not_true_eq_false, not_false_eq_true]; omega)) ?_) | (refine And.intro (fun hc => ?_) (fun hc => ?_) <;> (try (simp (disch := decide) only [up_n, up_s, cp_n, rw_n, rw_s, up1_, if_true, if_false, ite_true, ite_false, reduceIte, eq_self, Int.reduceEq, true_and, and_true, not_true_eq_false, not_false_eq_true] at hc)) <;> (try (exfalso; omega))) | (refine fun (hc : ¬ _) => ?_; try (simp (disch := decide) only [up_n, up_s, cp_n, rw_n, rw_s, up1_, if_true, if_false, ite_true, ite_false, reduceIte, eq_self, Int.reduceEq, true_and, and_true, not_true_eq_false, not_false_eq_true] at hc)) | (refine fun (hc : _ = _) => ?_; try (simp (disch := decide) only [up_n, up_s, cp_n, rw_n, rw_s, up1_, if_true, if_false, ite_true, ite_false, reduceIte, eq_self, Int.reduceEq, true_and, and_true, not_true_eq_false, not_false_eq_true] at hc)))
      show fr_Run 189 none 18 _ _ _ _ 0 0 _
      rw [e38]
      have hh := m_td_l (M := M2) (p := pg M1) (T := T2) (w := a0) (Q := fun r2 sh2 M2 => sh2 = sh0 ∧ r2 = some (.inl v) ∧ Rel (n + 1) M2) hp2 hw hP ?_ (cN (pg M1)) 0 none (by omega)
      · rw [show cnt (fun b => be (pg M1) (lgT (pg M1) T2) b - ad (pg M1) (lgT (pg M1) T2) b) 0 = 0 from rfl, show pos (pg M1) (lgT (pg M1) T2) (cN (pg M1)) - 0 = pos (pg M1) (lgT (pg M1) T2) (cN (pg M1)) by omega] at hh
        exact hh
      · intro x5 x6
        clear hsl hT hP
        refine fr_go k189 [] 400 rfl ?_
        rcases (show a0 = 0 ∨ a0 = 1 ∨ a0 = 2 ∨ a0 = 3 ∨ a0 = 4 ∨ a0 = 5 by omega) with rfl | rfl | rfl | rfl | rfl | rfl
        all_goals (repeat' (first | (refine And.intro (by first | omega | (simp (disch := decide) only [up_n, up_s, cp_n, rw_n, rw_s, up1_, if_true, if_false, ite_true, ite_false, reduceIte, eq_self, Int.reduceEq, true_and, and_true, not_true_eq_false, not_false_eq_true]; omega)) ?_) | (refine And.intro (fun hc => ?_) (fun hc => ?_) <;> (try (simp (disch := decide) only [up_n, up_s, cp_n, rw_n, rw_s, up1_, if_true, if_false, ite_true, ite_false, reduceIte, eq_self, Int.reduceEq, true_and, and_true, not_true_eq_false, not_false_eq_true] at hc)) <;> (try (exfalso; omega))) | (refine fun (hc : ¬ _) => ?_; try (simp (disch := decide) only [up_n, up_s, cp_n, rw_n, rw_s, up1_, if_true, if_false, ite_true, ite_false, reduceIte, eq_self, Int.reduceEq, true_and, and_true, not_true_eq_false, not_false_eq_true] at hc)) | (refine fun (hc : _ = _) => ?_; try (simp (disch := decide) only [up_n, up_s, cp_n, rw_n, rw_s, up1_, if_true, if_false, ite_true, ite_false, reduceIte, eq_self, Int.reduceEq, true_and, and_true, not_true_eq_false, not_false_eq_true] at hc))))
        all_goals first | (exfalso; omega) | skip
        · exact ⟨rfl, sv (by have := v0 rfl; omega), hR2⟩
        · exact ⟨rfl, sv (by have := v1 rfl; omega), hR2⟩
        · exact ⟨rfl, sv (by have := v2 rfl; omega), hR2⟩
        · exact ⟨rfl, sv (by have := v3 rfl; omega), hR2⟩
        · exact ⟨rfl, sv (by have := v4 rfl; omega), hR2⟩
        · exact ⟨rfl, sv (by have := v5 rfl; omega), hR2⟩
    obtain ⟨e13, e14, e15, e16⟩ := id hT.2.1
    have bp := pos_b hw (lg := lgT (pg M1) T) (k := cN (pg M1)) (Nat.le_refl _)
    have bg := gd_b (p := pg M1) (k := cN (pg M1))
    clear hT
    rcases (show a0 = 0 ∨ a0 = 1 ∨ a0 = 2 ∨ a0 = 3 ∨ a0 = 4 ∨ a0 = 5 by omega) with rfl | rfl | rfl | rfl | rfl | rfl
    all_goals (repeat' (first | (refine And.intro (by first | omega | (simp (disch := decide) only [up_n, up_s, cp_n, rw_n, rw_s, up1_, if_true, if_false, ite_true, ite_false, reduceIte, eq_self, Int.reduceEq, true_and, and_true, not_true_eq_false, not_false_eq_true]; omega)) ?_) | (refine c_allJumps (p := pg M1) (lg := lgT (pg M1) T) (by omega) hw hcc hsl ?_ <;> (try (simp (disch := decide) only [up_n, up_s, cp_n, rw_n, rw_s, up1_, if_true, if_false, ite_true, ite_false, reduceIte, eq_self, Int.reduceEq, true_and, and_true, not_true_eq_false, not_false_eq_true] at hc))) | (refine And.intro (fun hc => ?_) (fun hc => ?_) <;> (try (simp (disch := decide) only [up_n, up_s, cp_n, rw_n, rw_s, up1_, if_true, if_false, ite_true, ite_false, reduceIte, eq_self, Int.reduceEq, true_and, and_true, not_true_eq_false, not_false_eq_true] at hc)) <;> (try (exfalso; omega))) | (refine fun (hc : ¬ _) => ?_; try (simp (disch := decide) only [up_n, up_s, cp_n, rw_n, rw_s, up1_, if_true, if_false, ite_true, ite_false, reduceIte, eq_self, Int.reduceEq, true_and, and_true, not_true_eq_false, not_false_eq_true] at hc)) | (refine fun (hc : _ = _) => ?_; try (simp (disch := decide) only [up_n, up_s, cp_n, rw_n, rw_s, up1_, if_true, if_false, ite_true, ite_false, reduceIte, eq_self, Int.reduceEq, true_and, and_true, not_true_eq_false, not_false_eq_true] at hc))))
    all_goals first | (exfalso; omega) | refine ⟨rfl, _, rfl, ?_⟩
    all_goals (refine href _ ?_ ?_ ?_ ?_ ?_ ?_ <;> (intro q; first | omega | (exfalso; omega)))
  · clear hsl hT hcN
    repeat' (first | (refine And.intro (by first | omega | (simp (disch := decide) only [up_n, up_s, cp_n, rw_n, rw_s, up1_, if_true, if_false, ite_true, ite_false, reduceIte, eq_self, Int.reduceEq, true_and, and_true, not_true_eq_false, not_false_eq_true]; omega)) ?_) | (refine And.intro (fun hc => ?_) (fun hc => ?_) <;> (try (simp (disch := decide) only [up_n, up_s, cp_n, rw_n, rw_s, up1_, if_true, if_false, ite_true, ite_false, reduceIte, eq_self, Int.reduceEq, true_and, and_true, not_true_eq_false, not_false_eq_true] at hc)) <;> (try (exfalso; omega))) | (refine fun (hc : ¬ _) => ?_; try (simp (disch := decide) only [up_n, up_s, cp_n, rw_n, rw_s, up1_, if_true, if_false, ite_true, ite_false, reduceIte, eq_self, Int.reduceEq, true_and, and_true, not_true_eq_false, not_false_eq_true] at hc)) | (refine fun (hc : _ = _) => ?_; try (simp (disch := decide) only [up_n, up_s, cp_n, rw_n, rw_s, up1_, if_true, if_false, ite_true, ite_false, reduceIte, eq_self, Int.reduceEq, true_and, and_true, not_true_eq_false, not_false_eq_true] at hc)))
    all_goals first | (exfalso; omega) | refine ⟨rfl, _, rfl, ?_⟩
    all_goals (refine fr_cgo k189 [some (.inr (.inl 75)), some (.inl a0), none, none, none, none, none] 0 0 [] 400 rfl rfl rfl rfl ?_)
    all_goals (repeat' (first | (refine And.intro (by first | omega | (simp (disch := decide) only [up_n, up_s, cp_n, rw_n, rw_s, up1_, if_true, if_false, ite_true, ite_false, reduceIte, eq_self, Int.reduceEq, true_and, and_true, not_true_eq_false, not_false_eq_true]; omega)) ?_) | (refine m_in (fun hc => ?_) (fun hc => ?_) <;> (try (simp (disch := decide) only [up_n, up_s, cp_n, rw_n, rw_s, up1_, if_true, if_false, ite_true, ite_false, reduceIte, eq_self, Int.reduceEq, true_and, and_true, not_true_eq_false, not_false_eq_true] at hc))) | (refine And.intro (fun hc => ?_) (fun hc => ?_) <;> (try (simp (disch := decide) only [up_n, up_s, cp_n, rw_n, rw_s, up1_, if_true, if_false, ite_true, ite_false, reduceIte, eq_self, Int.reduceEq, true_and, and_true, not_true_eq_false, not_false_eq_true] at hc)) <;> (try (exfalso; omega))) | (refine fun (hc : ¬ _) => ?_; try (simp (disch := decide) only [up_n, up_s, cp_n, rw_n, rw_s, up1_, if_true, if_false, ite_true, ite_false, reduceIte, eq_self, Int.reduceEq, true_and, and_true, not_true_eq_false, not_false_eq_true] at hc)) | (refine fun (hc : _ = _) => ?_; try (simp (disch := decide) only [up_n, up_s, cp_n, rw_n, rw_s, up1_, if_true, if_false, ite_true, ite_false, reduceIte, eq_self, Int.reduceEq, true_and, and_true, not_true_eq_false, not_false_eq_true] at hc))))
    all_goals first | (exfalso; omega) | exact ⟨rfl, rfl, hR1⟩
