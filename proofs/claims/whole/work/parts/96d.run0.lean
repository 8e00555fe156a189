set_option maxHeartbeats 4000000 in
set_option maxRecDepth 100000 in
theorem m_r1 {M : fr_M} {b w : Int} {Q : Option fr_V → fr_H → fr_M → Prop} (hw : w = 0 ∨ w = 1) (h : ∀ g, cpr g (M 107) (M 111) (9 * w) 0 9 → fr_Run 199 none 44 [some (.inr (.inl 75)), some (.inl b), some (.inl w), some (.inl 9)] [] sh0 (rw_ M 107 g) 0 0 Q) : ∀ (t : Nat) (i : Int) (g : Int → Int), 0 ≤ i → i + t = 9 → cpr g (M 107) (M 111) (9 * w) 0 i → fr_Run 199 none 27 [some (.inr (.inl 75)), some (.inl b), some (.inl w), some (.inl i)] [] sh0 (rw_ M 107 g) 0 0 Q := by
  intro t
  induction t with
  | zero =>
    intro i g q0 q1 q2
    have e : i = 9 := by omega
    subst e
    have hh := h g q2
    refine fr_go k199 [27, 44] 400 rfl ?_
    repeat' (first | (refine And.intro (by first | omega | (simp (disch := decide) only [up_n, up_s, cp_n, rw_n, rw_s, up1_, if_true, if_false, ite_true, ite_false, reduceIte, eq_self, Int.reduceEq, true_and, and_true, not_true_eq_false, not_false_eq_true]; omega)) ?_) | (refine And.intro (fun hc => ?_) (fun hc => ?_) <;> (try (simp (disch := decide) only [up_n, up_s, cp_n, rw_n, rw_s, up1_, if_true, if_false, ite_true, ite_false, reduceIte, eq_self, Int.reduceEq, true_and, and_true, not_true_eq_false, not_false_eq_true] at hc)) <;> (try (exfalso; omega))) | (refine fun (hc : ¬ _) => ?_; try (simp (disch := decide) only [up_n, up_s, cp_n, rw_n, rw_s, up1_, if_true, if_false, ite_true, ite_false, reduceIte, eq_self, Int.reduceEq, true_and, and_true, not_true_eq_false, not_false_eq_true] at hc)) | (refine fun (hc : _ = _) => ?_; try (simp (disch := decide) only [up_n, up_s, cp_n, rw_n, rw_s, up1_, if_true, if_false, ite_true, ite_false, reduceIte, eq_self, Int.reduceEq, true_and, and_true, not_true_eq_false, not_false_eq_true] at hc)))
    all_goals first | (exfalso; omega) | exact hh
  | succ t ih =>
    intro i g q0 q1 q2
    have hh := ih (i + 1) _ (by omega) (by omega) (q2.step (v := M 111 i) q0 rfl (by congr 1; omega))
    clear ih h
    refine fr_go k199 [27, 44] 400 rfl ?_
    repeat' (first | (refine And.intro (by first | omega | (simp (disch := decide) only [up_n, up_s, cp_n, rw_n, rw_s, up1_, if_true, if_false, ite_true, ite_false, reduceIte, eq_self, Int.reduceEq, true_and, and_true, not_true_eq_false, not_false_eq_true]; omega)) ?_) | (refine And.intro (fun hc => ?_) (fun hc => ?_) <;> (try (simp (disch := decide) only [up_n, up_s, cp_n, rw_n, rw_s, up1_, if_true, if_false, ite_true, ite_false, reduceIte, eq_self, Int.reduceEq, true_and, and_true, not_true_eq_false, not_false_eq_true] at hc)) <;> (try (exfalso; omega))) | (refine fun (hc : ¬ _) => ?_; try (simp (disch := decide) only [up_n, up_s, cp_n, rw_n, rw_s, up1_, if_true, if_false, ite_true, ite_false, reduceIte, eq_self, Int.reduceEq, true_and, and_true, not_true_eq_false, not_false_eq_true] at hc)) | (refine fun (hc : _ = _) => ?_; try (simp (disch := decide) only [up_n, up_s, cp_n, rw_n, rw_s, up1_, if_true, if_false, ite_true, ite_false, reduceIte, eq_self, Int.reduceEq, true_and, and_true, not_true_eq_false, not_false_eq_true] at hc)))
    all_goals first | (exfalso; omega) | skip
    simp (disch := decide) only [up_n, up_s, cp_n, rw_n, rw_s, up1_, if_true, if_false, ite_true, ite_false, reduceIte, eq_self, Int.reduceEq, true_and, and_true, not_true_eq_false, not_false_eq_true]
    simp (disch := decide) only [up_rw, rw_u, up_up, rw_rw, rw_cm]
    exact hh
set_option maxHeartbeats 4000000 in
set_option maxRecDepth 100000 in
theorem m_r2 {M : fr_M} {b w : Int} {K : Int} {Q : Option fr_V → fr_H → fr_M → Prop} (hw : w = 0 ∨ w = 1) (hK : M 111 1 = K ∧ 0 ≤ K ∧ K ≤ 200) (h : ∀ g108 g110, cpr g108 (M 108) (M 112) (200 * w) 0 K → (w = 1 → cpr g110 (M 110) (M 116) 0 0 K) → (w = 0 → ∀ j, g110 j = M 110 j) → fr_Run 199 none 82 [some (.inr (.inl 75)), some (.inl b), some (.inl w), some (.inl K)] [] sh0 (rw_ (rw_ M 108 g108) 110 g110) 0 0 Q) : ∀ (t : Nat) (i : Int) (g108 g110 : Int → Int), 0 ≤ i → i + t = K → cpr g108 (M 108) (M 112) (200 * w) 0 i → (w = 1 → cpr g110 (M 110) (M 116) 0 0 i) → (w = 0 → ∀ j, g110 j = M 110 j) → fr_Run 199 none 46 [some (.inr (.inl 75)), some (.inl b), some (.inl w), some (.inl i)] [] sh0 (rw_ (rw_ M 108 g108) 110 g110) 0 0 Q := by
  intro t
  induction t with
  | zero =>
    intro i g108 g110 q0 q1 q2 q3 q4
    have e : i = K := by omega
    subst e
    have hh := h g108 g110 q2 q3 q4
    clear h q3 q4
    refine fr_go k199 [46, 82] 400 rfl ?_
    repeat' (first | (refine And.intro (by first | omega | (simp (disch := decide) only [up_n, up_s, cp_n, rw_n, rw_s, up1_, if_true, if_false, ite_true, ite_false, reduceIte, eq_self, Int.reduceEq, true_and, and_true, not_true_eq_false, not_false_eq_true]; omega)) ?_) | (refine And.intro (fun hc => ?_) (fun hc => ?_) <;> (try (simp (disch := decide) only [up_n, up_s, cp_n, rw_n, rw_s, up1_, if_true, if_false, ite_true, ite_false, reduceIte, eq_self, Int.reduceEq, true_and, and_true, not_true_eq_false, not_false_eq_true] at hc)) <;> (try (exfalso; omega))) | (refine fun (hc : ¬ _) => ?_; try (simp (disch := decide) only [up_n, up_s, cp_n, rw_n, rw_s, up1_, if_true, if_false, ite_true, ite_false, reduceIte, eq_self, Int.reduceEq, true_and, and_true, not_true_eq_false, not_false_eq_true] at hc)) | (refine fun (hc : _ = _) => ?_; try (simp (disch := decide) only [up_n, up_s, cp_n, rw_n, rw_s, up1_, if_true, if_false, ite_true, ite_false, reduceIte, eq_self, Int.reduceEq, true_and, and_true, not_true_eq_false, not_false_eq_true] at hc)))
    all_goals first | (exfalso; omega) | exact hh
  | succ t ih =>
    intro i g108 g110 q0 q1 q2 q3 q4
    rcases hw with rfl | rfl
    · have hh := ih (i + 1) _ (up1 g110 i (g110 i)) (by omega) (by omega) (q2.step (v := M 112 i) q0 rfl (by congr 1; omega)) (fun q => by omega) (fun q j => by
        rw [up1_]
        split
        · next e => rw [e]; exact q4 q i
        · exact q4 q j)
      clear ih h q3 q4
      refine fr_go k199 [46, 82] 400 rfl ?_
      repeat' (first | (refine And.intro (by first | omega | (simp (disch := decide) only [up_n, up_s, cp_n, rw_n, rw_s, up1_, if_true, if_false, ite_true, ite_false, reduceIte, eq_self, Int.reduceEq, true_and, and_true, not_true_eq_false, not_false_eq_true]; omega)) ?_) | (refine And.intro (fun hc => ?_) (fun hc => ?_) <;> (try (simp (disch := decide) only [up_n, up_s, cp_n, rw_n, rw_s, up1_, if_true, if_false, ite_true, ite_false, reduceIte, eq_self, Int.reduceEq, true_and, and_true, not_true_eq_false, not_false_eq_true] at hc)) <;> (try (exfalso; omega))) | (refine fun (hc : ¬ _) => ?_; try (simp (disch := decide) only [up_n, up_s, cp_n, rw_n, rw_s, up1_, if_true, if_false, ite_true, ite_false, reduceIte, eq_self, Int.reduceEq, true_and, and_true, not_true_eq_false, not_false_eq_true] at hc)) | (refine fun (hc : _ = _) => ?_; try (simp (disch := decide) only [up_n, up_s, cp_n, rw_n, rw_s, up1_, if_true, if_false, ite_true, ite_false, reduceIte, eq_self, Int.reduceEq, true_and, and_true, not_true_eq_false, not_false_eq_true] at hc)))
      all_goals first | (exfalso; omega) | skip
      simp (disch := decide) only [up_n, up_s, cp_n, rw_n, rw_s, up1_, if_true, if_false, ite_true, ite_false, reduceIte, eq_self, Int.reduceEq, true_and, and_true, not_true_eq_false, not_false_eq_true]
      simp (disch := decide) only [up_rw, rw_u, up_up, rw_rw, rw_cm]
      exact hh
    · have hh := ih (i + 1) _ (up1 g110 i (M 116 i)) (by omega) (by omega) (q2.step (v := M 112 i) q0 rfl (by congr 1; omega)) (fun q => (q3 q).step q0 (by omega) (by congr 1; omega)) (fun q => by omega)
      clear ih h q3 q4
      refine fr_go k199 [46, 82] 400 rfl ?_
      repeat' (first | (refine And.intro (by first | omega | (simp (disch := decide) only [up_n, up_s, cp_n, rw_n, rw_s, up1_, if_true, if_false, ite_true, ite_false, reduceIte, eq_self, Int.reduceEq, true_and, and_true, not_true_eq_false, not_false_eq_true]; omega)) ?_) | (refine And.intro (fun hc => ?_) (fun hc => ?_) <;> (try (simp (disch := decide) only [up_n, up_s, cp_n, rw_n, rw_s, up1_, if_true, if_false, ite_true, ite_false, reduceIte, eq_self, Int.reduceEq, true_and, and_true, not_true_eq_false, not_false_eq_true] at hc)) <;> (try (exfalso; omega))) | (refine fun (hc : ¬ _) => ?_; try (simp (disch := decide) only [up_n, up_s, cp_n, rw_n, rw_s, up1_, if_true, if_false, ite_true, ite_false, reduceIte, eq_self, Int.reduceEq, true_and, and_true, not_true_eq_false, not_false_eq_true] at hc)) | (refine fun (hc : _ = _) => ?_; try (simp (disch := decide) only [up_n, up_s, cp_n, rw_n, rw_s, up1_, if_true, if_false, ite_true, ite_false, reduceIte, eq_self, Int.reduceEq, true_and, and_true, not_true_eq_false, not_false_eq_true] at hc)))
      all_goals first | (exfalso; omega) | skip
      simp (disch := decide) only [up_n, up_s, cp_n, rw_n, rw_s, up1_, if_true, if_false, ite_true, ite_false, reduceIte, eq_self, Int.reduceEq, true_and, and_true, not_true_eq_false, not_false_eq_true]
      simp (disch := decide) only [up_rw, rw_u, up_up, rw_rw, rw_cm]
      exact hh
set_option maxHeartbeats 4000000 in
set_option maxRecDepth 100000 in
theorem m_r3 {M : fr_M} {b : Int} {Q : Option fr_V → fr_H → fr_M → Prop} (h : ∀ g, cpr g (M 109) (M 115) 0 0 160 → Q (some (.inl (M 111 0))) sh0 (rw_ M 109 g)) : ∀ (t : Nat) (i : Int) (g : Int → Int), 0 ≤ i → i + t = 160 → cpr g (M 109) (M 115) 0 0 i → fr_Run 199 none 89 [some (.inr (.inl 75)), some (.inl b), some (.inl 0), some (.inl i)] [] sh0 (rw_ M 109 g) 0 0 Q := by
  intro t
  induction t with
  | zero =>
    intro i g q0 q1 q2
    have e : i = 160 := by omega
    subst e
    have hh := h g q2
    refine fr_go k199 [89] 400 rfl ?_
    repeat' (first | (refine And.intro (by first | omega | (simp (disch := decide) only [up_n, up_s, cp_n, rw_n, rw_s, up1_, if_true, if_false, ite_true, ite_false, reduceIte, eq_self, Int.reduceEq, true_and, and_true, not_true_eq_false, not_false_eq_true]; omega)) ?_) | (refine And.intro (fun hc => ?_) (fun hc => ?_) <;> (try (simp (disch := decide) only [up_n, up_s, cp_n, rw_n, rw_s, up1_, if_true, if_false, ite_true, ite_false, reduceIte, eq_self, Int.reduceEq, true_and, and_true, not_true_eq_false, not_false_eq_true] at hc)) <;> (try (exfalso; omega))) | (refine fun (hc : ¬ _) => ?_; try (simp (disch := decide) only [up_n, up_s, cp_n, rw_n, rw_s, up1_, if_true, if_false, ite_true, ite_false, reduceIte, eq_self, Int.reduceEq, true_and, and_true, not_true_eq_false, not_false_eq_true] at hc)) | (refine fun (hc : _ = _) => ?_; try (simp (disch := decide) only [up_n, up_s, cp_n, rw_n, rw_s, up1_, if_true, if_false, ite_true, ite_false, reduceIte, eq_self, Int.reduceEq, true_and, and_true, not_true_eq_false, not_false_eq_true] at hc)))
    all_goals first | (exfalso; omega) | exact hh
  | succ t ih =>
    intro i g q0 q1 q2
    have hh := ih (i + 1) _ (by omega) (by omega) (q2.step (i := i) (v := M 115 i) q0 (by omega) (by congr 1; omega))
    clear ih h
    refine fr_go k199 [89] 400 rfl ?_
    repeat' (first | (refine And.intro (by first | omega | (simp (disch := decide) only [up_n, up_s, cp_n, rw_n, rw_s, up1_, if_true, if_false, ite_true, ite_false, reduceIte, eq_self, Int.reduceEq, true_and, and_true, not_true_eq_false, not_false_eq_true]; omega)) ?_) | (refine And.intro (fun hc => ?_) (fun hc => ?_) <;> (try (simp (disch := decide) only [up_n, up_s, cp_n, rw_n, rw_s, up1_, if_true, if_false, ite_true, ite_false, reduceIte, eq_self, Int.reduceEq, true_and, and_true, not_true_eq_false, not_false_eq_true] at hc)) <;> (try (exfalso; omega))) | (refine fun (hc : ¬ _) => ?_; try (simp (disch := decide) only [up_n, up_s, cp_n, rw_n, rw_s, up1_, if_true, if_false, ite_true, ite_false, reduceIte, eq_self, Int.reduceEq, true_and, and_true, not_true_eq_false, not_false_eq_true] at hc)) | (refine fun (hc : _ = _) => ?_; try (simp (disch := decide) only [up_n, up_s, cp_n, rw_n, rw_s, up1_, if_true, if_false, ite_true, ite_false, reduceIte, eq_self, Int.reduceEq, true_and, and_true, not_true_eq_false, not_false_eq_true] at hc)))
    all_goals first | (exfalso; omega) | skip
    simp (disch := decide) only [up_n, up_s, cp_n, rw_n, rw_s, up1_, if_true, if_false, ite_true, ite_false, reduceIte, eq_self, Int.reduceEq, true_and, and_true, not_true_eq_false, not_false_eq_true]
    simp (disch := decide) only [up_rw, rw_u, up_up, rw_rw, rw_cm]
    exact hh
/-- cells that runs write -/
abbrev sr (k : Nat) (i : Int) : Prop := sc k i ∨ (45 ≤ k ∧ k ≤ 74) ∨ (k = 0 ∧ i = 17) ∨ (k = 75 ∧ i = 41) ∨ (106 ≤ k ∧ k ≤ 110)
def cor2 (M : fr_M) : fr_M := fun k i => if sr k i then 0 else M k i
theorem Rel.run {n : Int} {M Y : fr_M} (h : Rel n M) (e : ∀ k i, ¬ sr k i → Y k i = M k i) (hr1 : R1 Y 45 0) (hr1' : R1 Y 52 1) (hr2 : R2 Y 45 46 0) (hr2' : R2 Y 52 53 1) (hr3 : R3 Y) (hr4 : R4 Y) (hl : RL (n + 1) Y) : Rel (n + 1) Y := by
  have ec : cor2 Y = cor2 M := by
    funext k i
    unfold cor2
    split
    · rfl
    · next q => exact e k i q
  have c : ∀ (Z : fr_M → Prop), (∀ M, Z (cor2 M) = Z M) → Z M → Z Y := by
    intro Z hz hm
    rw [← hz, ec, hz]
    exact hm
  obtain ⟨h0, h1, h2, h3, h4, h5, h6, h7, h8, o1, o2, o3, k1, k2, k3, k4, k5, t1, t2, s1, r1, r1', r2, r2', r3, r4, l⟩ := h
  exact ⟨by omega, c P1 (fun _ => rfl) h1, c P2 (fun _ => rfl) h2, c P3 (fun _ => rfl) h3, c P4 (fun _ => rfl) h4, c P5 (fun _ => rfl) h5, c P6 (fun _ => rfl) h6, c P7 (fun _ => rfl) h7, c P8 (fun _ => rfl) h8, c O1 (fun _ => rfl) o1, c O2 (fun _ => rfl) o2, c O3 (fun _ => rfl) o3, c K1 (fun _ => rfl) k1, c K2 (fun _ => rfl) k2, c K3 (fun _ => rfl) k3, c K4 (fun _ => rfl) k4, c K5 (fun _ => rfl) k5, c T1 (fun _ => rfl) t1, c T2 (fun _ => rfl) t2, c S1 (fun _ => rfl) s1, hr1, hr1', hr2, hr2', hr3, hr4, hl⟩
theorem rn_of {n : Int} {M : fr_M} (hR : Rel n M) : RN (pg M) (tpf M) M := by
  obtain ⟨h0, h1, h2, h3, h4, h5, h6, h7, h8, o1, o2, o3, k1, k2, k3, k4, k5, t1, t2, s1, r1, r1', r2, r2', r3, r4, l⟩ := hR
  refine ⟨fun b q0 q1 => ⟨(h5 b q0 q1).1, (h5 b q0 q1).2.2.2.1⟩, fun b w q0 q1 q2 q3 => (h6 b w q0 q1 q2 q3).1, fun b q0 q1 q2 => ?_, by rw [t1.1]; exact t1.2, fun i q0 => ?_⟩
  · have a := (h5 b q0 q1).2.2.2.2.2.2.2.2.1 q2
    have c := h3 (M 86 b) 0 a.2.1 (by have := h1.2.2.1; omega) (by omega) a.2.2.2
    rw [show 9 * M 86 b + 0 = 9 * M 86 b by omega] at c
    exact ⟨a.1, c.1⟩
  · unfold tpf
    rw [t1.1]
    by_cases e : i < M 75 17
    · rw [if_pos e, if_pos e]
      have := t2 i q0 e
      rw [this.2.2]
      split <;> omega
    · rw [if_neg e, if_neg e]
      omega
theorem qn_of {n : Int} {M : fr_M} (hR : Rel n M) : QN (pg M) (tpf M) M := by
  obtain ⟨h0, h1, h2, h3, h4, h5, h6, h7, h8, o1, o2, o3, k1, k2, k3, k4, k5, t1, t2, s1, r1, r1', r2, r2', r3, r4, l⟩ := hR
  refine ⟨rfl, t1.2, fun i q0 => ?_⟩
  unfold tpf
  by_cases e : i < M 75 17
  · rw [if_pos e]
    have := t2 i q0 e
    omega
  · rw [if_neg e]
    omega
