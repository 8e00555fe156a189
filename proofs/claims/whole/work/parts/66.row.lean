theorem pg_cg {M M' : fr_M} (h : ∀ k i, ((76 ≤ k ∧ k ≤ 84) ∨ k = 86) ∨ (k = 75 ∧ (i = 4 ∨ i = 13 ∨ i = 14)) → M' k i = M k i) : pg M' = pg M := by
  funext k i
  unfold pg
  split
  · next q => exact h k i q
  · rfl
theorem pg_rw {M : fr_M} {k : Nat} {g : Int → Int} (hk : k < 75 ∨ 86 < k ∨ k = 85) : pg (rw_ M k g) = pg M := by
  refine pg_cg (fun k' i q => ?_)
  unfold rw_
  rw [if_neg (by omega)]
theorem pg_up {M : fr_M} {k : Nat} {j v : Int} (hk : (k < 75 ∨ 86 < k ∨ k = 85) ∨ (k = 75 ∧ j ≠ 4 ∧ j ≠ 13 ∧ j ≠ 14)) : pg (fr_up M k j v) = pg M := by
  refine pg_cg (fun k' i q => ?_)
  unfold fr_up
  by_cases e : k' = k
  · rw [if_pos e, if_neg (by omega)]
  · rw [if_neg e]
theorem pg_msk {M : fr_M} : pg (msk M) = pg M := by
  refine pg_cg (fun k i q => ?_)
  unfold msk
  have : rl k i = true := by
    simp [rl]
    omega
  rw [if_pos this]
/-- what is told of the program holds -/
def WF (p : fr_M) : Prop := ((0 ≤ p 75 4 ∧ p 75 4 ≤ 40) ∧ (p 75 13 = 0 ∨ p 75 13 = 1) ∧ (p 75 14 = 1 ∨ p 75 14 = 2 ∨ p 75 14 = 4 ∨ p 75 14 = 8 ∨ p 75 14 = 16)) ∧ (∀ r, 0 ≤ r → r < 6 → 0 ≤ p 76 r ∧ p 76 r ≤ 9) ∧ (∀ r i, 0 ≤ r → r < 6 → 0 ≤ i → i < p 76 r → 0 ≤ p 78 (9 * r + i) ∧ p 78 (9 * r + i) < p 75 4 ∧ p 79 (p 78 (9 * r + i)) = r) ∧ (∀ r i j, 0 ≤ r → r < 6 → 0 ≤ i → i < p 76 r → 0 ≤ j → j < p 76 r → p 78 (9 * r + i) = p 78 (9 * r + j) → i = j) ∧ (∀ b, 0 ≤ b → b < p 75 4 → 0 ≤ p 79 b ∧ p 79 b < 6 ∧ ∃ i, 0 ≤ i ∧ i < p 76 (p 79 b) ∧ p 78 (9 * p 79 b + i) = b) ∧ (∀ b, 0 ≤ b → b < p 75 4 → (1 ≤ p 80 b ∧ p 80 b ≤ 200) ∧ (p 81 b = 0 ∨ p 81 b = 1) ∧ (0 ≤ p 82 b ∧ p 82 b ≤ 6) ∧ (p 82 b ≤ 1 → p 83 b = 0) ∧ (p 82 b = 2 ∨ p 82 b = 5 → p 83 b = 1) ∧ (p 82 b = 3 ∨ p 82 b = 6 → p 83 b = 2) ∧ (p 82 b = 4 → 1 ≤ p 83 b ∧ p 83 b ≤ 4) ∧ (p 82 b = 5 → 0 ≤ p 86 b ∧ p 86 b < 6 ∧ 0 ≤ p 77 (9 * p 86 b) ∧ p 77 (9 * p 86 b) < p 75 4)) ∧ (∀ b w, 0 ≤ b → b < p 75 4 → 0 ≤ w → w < p 83 b → 0 ≤ p 84 (4 * b + w) ∧ p 84 (4 * b + w) < p 75 4)
theorem wf_of {M : fr_M} (h1 : P1 M) (h2 : P2 M) (h3 : P3 M) (h4 : P4 M) (h5 : P5 M) (h6 : P6 M) (o1 : O1 M) (o2 : O2 M) (s1 : S1 M) : WF (pg M) := by
  obtain ⟨p1, p2, p3, p4, p5, p6⟩ := h1
  show ((0 ≤ M 75 4 ∧ M 75 4 ≤ 40) ∧ (M 75 13 = 0 ∨ M 75 13 = 1) ∧ (M 75 14 = 1 ∨ M 75 14 = 2 ∨ M 75 14 = 4 ∨ M 75 14 = 8 ∨ M 75 14 = 16)) ∧ (∀ r, 0 ≤ r → r < 6 → 0 ≤ M 76 r ∧ M 76 r ≤ 9) ∧ (∀ r i, 0 ≤ r → r < 6 → 0 ≤ i → i < M 76 r → 0 ≤ M 78 (9 * r + i) ∧ M 78 (9 * r + i) < M 75 4 ∧ M 79 (M 78 (9 * r + i)) = r) ∧ (∀ r i j, 0 ≤ r → r < 6 → 0 ≤ i → i < M 76 r → 0 ≤ j → j < M 76 r → M 78 (9 * r + i) = M 78 (9 * r + j) → i = j) ∧ (∀ b, 0 ≤ b → b < M 75 4 → 0 ≤ M 79 b ∧ M 79 b < 6 ∧ ∃ i, 0 ≤ i ∧ i < M 76 (M 79 b) ∧ M 78 (9 * M 79 b + i) = b) ∧ (∀ b, 0 ≤ b → b < M 75 4 → (1 ≤ M 80 b ∧ M 80 b ≤ 200) ∧ (M 81 b = 0 ∨ M 81 b = 1) ∧ (0 ≤ M 82 b ∧ M 82 b ≤ 6) ∧ (M 82 b ≤ 1 → M 83 b = 0) ∧ (M 82 b = 2 ∨ M 82 b = 5 → M 83 b = 1) ∧ (M 82 b = 3 ∨ M 82 b = 6 → M 83 b = 2) ∧ (M 82 b = 4 → 1 ≤ M 83 b ∧ M 83 b ≤ 4) ∧ (M 82 b = 5 → 0 ≤ M 86 b ∧ M 86 b < 6 ∧ 0 ≤ M 77 (9 * M 86 b) ∧ M 77 (9 * M 86 b) < M 75 4)) ∧ (∀ b w, 0 ≤ b → b < M 75 4 → 0 ≤ w → w < M 83 b → 0 ≤ M 84 (4 * b + w) ∧ M 84 (4 * b + w) < M 75 4)
  refine ⟨⟨⟨p5, p6⟩, s1.2.1, s1.2.2.2.1⟩, fun r q0 q1 => ?_, fun r i q0 q1 q2 q3 => ?_, fun r i j q0 q1 q2 q3 q4 q5 q6 => ?_, fun b q0 q1 => ?_, fun b q0 q1 => ?_, fun b w q0 q1 q2 q3 => ?_⟩
  · have := h2 r q0 q1
    omega
  · have := o1 r i q0 q1 q2 q3
    omega
  · have a := (o1 r i q0 q1 q2 q3).2.2.2.2
    have b := (o1 r j q0 q1 q4 q5).2.2.2.2
    rw [q6] at a
    omega
  · have a := h4 b q0 q1
    have c := o2 b q0 q1
    exact ⟨a.2.1, by omega, M 15 b, c⟩
  · have a := h4 b q0 q1
    have c := h5 b q0 q1
    refine ⟨by omega, by omega, by omega, by omega, by omega, by omega, by omega, fun q => ?_⟩
    have d := c.2.2.2.2.2.2.2.2.1 q
    have e := h3 (M 86 b) 0 (by omega) (by omega) (by omega) (by omega)
    rw [show 9 * M 86 b + 0 = 9 * M 86 b by omega] at e
    omega
  · have := h6 b w q0 q1 q2 q3
    omega
theorem mem_inn {p : fr_M} {w r : Nat} {b : Int} : ∀ {m : Nat}, b ∈ inn p w r m ↔ ∃ i : Nat, i < m ∧ pr p w b = true ∧ p 78 (9 * (r : Int) + (i : Int)) = b
  | 0 => by simp [inn]
  | m + 1 => by
    rw [inn, List.mem_append, mem_inn]
    constructor
    · rintro (⟨i, h1, h2, h3⟩ | h)
      · exact ⟨i, by omega, h2, h3⟩
      · split at h
        · next q =>
          have e : b = p 78 (9 * (r : Int) + (m : Int)) := by simpa using h
          exact ⟨m, by omega, by rw [e]; exact q, e.symm⟩
        · cases h
    · rintro ⟨i, h1, h2, h3⟩
      by_cases e : i = m
      · subst e
        right
        rw [h3, if_pos h2]
        simp
      · exact Or.inl ⟨i, by omega, h2, h3⟩
theorem mem_out {p : fr_M} {w : Nat} {b : Int} : ∀ {R : Nat}, b ∈ out p w R ↔ ∃ r : Nat, r < R ∧ ∃ i : Nat, i < (p 76 (r : Int)).toNat ∧ pr p w b = true ∧ p 78 (9 * (r : Int) + (i : Int)) = b
  | 0 => by simp [out]
  | R + 1 => by
    rw [out, List.mem_append, mem_out, mem_inn]
    constructor
    · rintro (⟨r, h1, h2⟩ | h)
      · exact ⟨r, by omega, h2⟩
      · exact ⟨R, by omega, h⟩
    · rintro ⟨r, h1, h2⟩
      by_cases e : r = R
      · subst e
        exact Or.inr h2
      · exact Or.inl ⟨r, by omega, h2⟩
theorem nodup_inn {p : fr_M} {w r : Nat} (hw : WF p) (hr : r < 6) : ∀ {m : Nat}, m ≤ (p 76 (r : Int)).toNat → (inn p w r m).Nodup
  | 0, _ => by simp [inn]
  | m + 1, h => by
    rw [inn, List.nodup_append]
    refine ⟨nodup_inn hw hr (by omega), ?_, fun a ha b hb => ?_⟩
    · split <;> simp
    · split at hb
      · have e : b = p 78 (9 * (r : Int) + (m : Int)) := by simpa using hb
        obtain ⟨i, h1, h2, h3⟩ := mem_inn.mp ha
        intro eab
        have := hw.2.2.2.1 (r : Int) (i : Int) (m : Int) (by omega) (by omega) (by omega) (by omega) (by omega) (by omega) (by rw [h3, eab, e])
        omega
      · cases hb
theorem nodup_out {p : fr_M} {w : Nat} (hw : WF p) : ∀ {R : Nat}, R ≤ 6 → (out p w R).Nodup
  | 0, _ => by simp [out]
  | R + 1, h => by
    rw [out, List.nodup_append]
    refine ⟨nodup_out hw (by omega), nodup_inn hw (by omega) (Nat.le_refl _), fun a ha b hb => ?_⟩
    obtain ⟨r, h1, i, h2, h3, h4⟩ := mem_out.mp ha
    obtain ⟨j, h5, h6, h7⟩ := mem_inn.mp hb
    intro eab
    have x := (hw.2.2.1 (r : Int) (i : Int) (by omega) (by omega) (by omega) (by omega)).2.2
    have y := (hw.2.2.1 (R : Int) (j : Int) (by omega) (by omega) (by omega) (by omega)).2.2
    rw [h4, eab] at x
    rw [h7] at y
    omega
theorem mem_row {p : fr_M} (hw : WF p) {b : Int} : b ∈ rowL p ↔ 0 ≤ b ∧ b < p 75 4 := by
  unfold rowL
  rw [List.mem_append]
  constructor
  · have key : ∀ w, b ∈ out p w 6 → 0 ≤ b ∧ b < p 75 4 := by
      intro w h
      obtain ⟨r, h1, i, h2, h3, h4⟩ := mem_out.mp h
      have x := hw.2.2.1 (r : Int) (i : Int) (by omega) (by omega) (by omega) (by omega)
      rw [h4] at x
      exact ⟨x.1, x.2.1⟩
    rintro (h | h)
    · exact key 0 h
    · split at h
      · exact key 1 h
      · cases h
  · rintro ⟨h1, h2⟩
    obtain ⟨x1, x2, i, x3, x4, x5⟩ := hw.2.2.2.2.1 b h1 h2
    have key : ∀ w, pr p w b = true → b ∈ out p w 6 := by
      intro w hq
      refine mem_out.mpr ⟨(p 79 b).toNat, by omega, i.toNat, ?_, hq, ?_⟩
      · rw [show (((p 79 b).toNat : Nat) : Int) = p 79 b by omega]
        omega
      · rw [show (((p 79 b).toNat : Nat) : Int) = p 79 b by omega, show ((i.toNat : Nat) : Int) = i by omega]
        exact x5
    by_cases ha : p 75 13 = 1 ∧ p 81 b = 1
    · right
      rw [if_pos ha.1]
      exact key 1 (by unfold pr; simp [ha.2])
    · left
      refine key 0 ?_
      unfold pr
      by_cases h3 : p 75 13 = 1
      · have : ¬ p 81 b = 1 := fun q => ha ⟨h3, q⟩
        simp [this]
      · simp [h3]
theorem nodup_row {p : fr_M} (hw : WF p) : (rowL p).Nodup := by
  unfold rowL
  rw [List.nodup_append]
  refine ⟨nodup_out hw (by omega), ?_, fun a ha b hb => ?_⟩
  · split
    · exact nodup_out hw (by omega)
    · simp
  · split at hb
    · next q =>
      obtain ⟨r, h1, i, h2, h3, h4⟩ := mem_out.mp ha
      obtain ⟨r', h1', i', h2', h3', h4'⟩ := mem_out.mp hb
      intro e
      subst e
      unfold pr at h3 h3'
      simp [q] at h3 h3'
      exact h3 h3'
    · cases hb
theorem len_row {p : fr_M} (hw : WF p) : (rowL p).length = cN p := by
  have h0 := hw.1.1
  have hn : ((List.range (cN p)).map (fun i : Nat => (i : Int))).Nodup := by
    unfold List.Nodup
    rw [List.pairwise_map]
    exact List.Pairwise.imp (fun {a b} h e => h (by omega)) (List.nodup_range (n := cN p))
  have e : List.Perm (rowL p) ((List.range (cN p)).map (fun i : Nat => (i : Int))) := by
    rw [List.perm_ext_iff_of_nodup (nodup_row hw) hn]
    intro a
    rw [mem_row hw]
    unfold cN
    constructor
    · rintro ⟨h1, h2⟩
      exact List.mem_map.mpr ⟨a.toNat, List.mem_range.mpr (by omega), by omega⟩
    · intro h
      obtain ⟨x, y, z⟩ := List.mem_map.mp h
      have := List.mem_range.mp y
      omega
  rw [e.length_eq]
  simp
theorem ln_get {p : fr_M} {k : Nat} {x : Int} (h : (rowL p)[k]? = some x) : ln p k = x := by
  unfold ln
  rw [h]
  rfl
theorem ln_some {p : fr_M} (hw : WF p) {k : Nat} (h : k < cN p) : (rowL p)[k]? = some (ln p k) := by
  have : k < (rowL p).length := by rw [len_row hw]; exact h
  have e := List.getElem?_eq_getElem this
  rw [e]
  rw [ln_get e]
theorem ln_rng {p : fr_M} (hw : WF p) {k : Nat} (h : k < cN p) : 0 ≤ ln p k ∧ ln p k < p 75 4 := (mem_row hw).mp (List.mem_of_getElem? (ln_some hw h))
theorem ix_ln {p : fr_M} (hw : WF p) {k : Nat} (h : k < cN p) : ix p (ln p k) = k := by
  have h1 : k < (rowL p).length := by rw [len_row hw]; exact h
  have e := List.getElem?_eq_getElem h1
  have := (nodup_row hw).idxOf_getElem k h1
  unfold ix
  rw [ln_get e]
  exact this
theorem ix_lt {p : fr_M} (hw : WF p) {b : Int} (h : 0 ≤ b ∧ b < p 75 4) : ix p b < cN p := by
  rw [← len_row hw]
  exact List.idxOf_lt_length_of_mem ((mem_row hw).mpr h)
theorem ln_ix {p : fr_M} (hw : WF p) {b : Int} (h : 0 ≤ b ∧ b < p 75 4) : ln p (ix p b) = b := by
  have hm := (mem_row hw).mpr h
  have h1 : ix p b < (rowL p).length := List.idxOf_lt_length_of_mem hm
  have e := List.getElem?_eq_getElem h1
  rw [ln_get e]
  exact List.getElem_idxOf h1
theorem ln_inj {p : fr_M} (hw : WF p) {j k : Nat} (hj : j < cN p) (hk : k < cN p) (e : ln p j = ln p k) : j = k := by
  have := congrArg (ix p) e
  rw [ix_ln hw hj, ix_ln hw hk] at this
  exact this
theorem nx_ln {p : fr_M} (hw : WF p) {k : Nat} (h : k < cN p) : nx p (ln p k) = if k + 1 < cN p then ln p (k + 1) else -1 := by
  unfold nx
  rw [ix_ln hw h]
theorem nx_rng {p : fr_M} (hw : WF p) {b : Int} : nx p b = -1 ∨ (0 ≤ nx p b ∧ nx p b < p 75 4) := by
  unfold nx
  split
  · next h => exact Or.inr (ln_rng hw h)
  · exact Or.inl rfl
