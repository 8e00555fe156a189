theorem up_s {M : fr_M} {k : Nat} {i x j : Int} : fr_up M k i x k j = if j = i then x else M k j := fr_up_s j
theorem up_n {M : fr_M} {k k' : Nat} {i x j : Int} (h : k' ≠ k) : fr_up M k i x k' j = M k' j := by rw [fr_up_o h]
/-! ===== what holds between the class's cells and the reference's ===== -/
def P1 (M : fr_M) : Prop := M 1 0 = M 75 0 ∧ 0 ≤ M 75 0 ∧ M 75 0 ≤ 6 ∧ M 1 1 = M 75 4 ∧ 0 ≤ M 75 4 ∧ M 75 4 ≤ 40
def P2 (M : fr_M) : Prop := ∀ r, 0 ≤ r → r < 6 → M 2 r = M 76 r ∧ 0 ≤ M 76 r ∧ M 76 r ≤ 9 ∧ (M 75 0 ≤ r → M 76 r = 0)
def P3 (M : fr_M) : Prop := ∀ r k, 0 ≤ r → r < 6 → 0 ≤ k → k < M 76 r → M 3 (r * 9 + k) = M 77 (9 * r + k) ∧ 0 ≤ M 77 (9 * r + k) ∧ M 77 (9 * r + k) < M 75 4 ∧ M 79 (M 77 (9 * r + k)) = r ∧ M 5 (M 77 (9 * r + k)) = k
/-- of a BLOCK: its ROUTINE, its rank, SIZE -/
def P4 (M : fr_M) : Prop := ∀ b, 0 ≤ b → b < M 75 4 → M 4 b = M 79 b ∧ 0 ≤ M 79 b ∧ M 79 b < M 75 0 ∧ 0 ≤ M 5 b ∧ M 5 b < M 76 (M 79 b) ∧ M 77 (9 * M 79 b + M 5 b) = b ∧ M 6 b = M 80 b ∧ 1 ≤ M 80 b ∧ M 80 b ≤ 200 ∧ M 10 b = M 81 b ∧ 0 ≤ M 81 b ∧ M 81 b ≤ 1
/-- its END -/
def P5 (M : fr_M) : Prop := ∀ b, 0 ≤ b → b < M 75 4 → M 7 b = M 82 b ∧ 0 ≤ M 82 b ∧ M 82 b ≤ 6 ∧ M 8 b = M 83 b ∧ (M 82 b ≤ 1 → M 83 b = 0) ∧ (M 82 b = 2 ∨ M 82 b = 5 → M 83 b = 1) ∧ (M 82 b = 3 ∨ M 82 b = 6 → M 83 b = 2) ∧ (M 82 b = 4 → 1 ≤ M 83 b ∧ M 83 b ≤ 4) ∧ (M 82 b = 5 → M 9 b = M 86 b ∧ 0 ≤ M 86 b ∧ M 86 b < M 75 0 ∧ 0 < M 76 (M 86 b)) ∧ (M 82 b ≠ 5 → M 86 b = -9)
def P6 (M : fr_M) : Prop := ∀ b w, 0 ≤ b → b < M 75 4 → 0 ≤ w → w < M 83 b → M 11 (b * 4 + w) = M 84 (4 * b + w) ∧ 0 ≤ M 84 (4 * b + w) ∧ M 84 (4 * b + w) < M 75 4 ∧ M 79 (M 84 (4 * b + w)) = M 79 b
def P7 (M : fr_M) : Prop := ∀ i, 0 ≤ i → i < 160 → M 12 i = M 85 i ∧ 0 ≤ M 85 i ∧ M 85 i ≤ 1000000
def P8 (M : fr_M) : Prop := ∀ b, M 75 4 ≤ b → b < 40 → M 8 b = 0 ∧ M 10 b = 0 ∧ M 81 b = 0
/-- the orders -/
def O1 (M : fr_M) : Prop := ∀ r i, 0 ≤ r → r < 6 → 0 ≤ i → i < M 76 r → M 14 (r * 9 + i) = M 78 (9 * r + i) ∧ 0 ≤ M 78 (9 * r + i) ∧ M 78 (9 * r + i) < M 75 4 ∧ M 79 (M 78 (9 * r + i)) = r ∧ M 15 (M 78 (9 * r + i)) = i
def O2 (M : fr_M) : Prop := ∀ b, 0 ≤ b → b < M 75 4 → 0 ≤ M 15 b ∧ M 15 b < M 76 (M 79 b) ∧ M 78 (9 * M 79 b + M 15 b) = b
def O3 (M : fr_M) : Prop := ∀ r, 0 ≤ r → r < 6 → 0 < M 76 r → M 78 (9 * r) = M 77 (9 * r)
/-- what undo has -/
def K1 (M : fr_M) : Prop := M 13 5 = M 75 18 ∧ 0 ≤ M 75 18 ∧ M 75 18 ≤ 12
def K2 (M : fr_M) : Prop := ∀ u, 0 ≤ u → u < M 75 18 → M 17 u = M 88 u ∧ 0 ≤ M 88 u ∧ M 88 u < M 75 0 ∧ 0 < M 76 (M 88 u) ∧ M 89 (9 * u) = M 77 (9 * M 88 u)
def K3 (M : fr_M) : Prop := ∀ u i, 0 ≤ u → u < M 75 18 → 0 ≤ i → i < M 76 (M 88 u) → M 16 (u * 9 + i) = M 89 (9 * u + i) ∧ 0 ≤ M 89 (9 * u + i) ∧ M 89 (9 * u + i) < M 75 4 ∧ M 79 (M 89 (9 * u + i)) = M 88 u
def K4 (M : fr_M) : Prop := ∀ u i j, 0 ≤ u → u < M 75 18 → 0 ≤ i → i < M 76 (M 88 u) → 0 ≤ j → j < M 76 (M 88 u) → M 89 (9 * u + i) = M 89 (9 * u + j) → i = j
def K5 (M : fr_M) : Prop := ∀ u b, 0 ≤ u → u < M 75 18 → 0 ≤ b → b < M 75 4 → M 79 b = M 88 u → ∃ i, 0 ≤ i ∧ i < M 76 (M 88 u) ∧ M 89 (9 * u + i) = b
/-- THE TAPE -/
def T1 (M : fr_M) : Prop := M 42 1 = M 75 17 ∧ 0 ≤ M 75 17 ∧ M 75 17 ≤ 200
def T2 (M : fr_M) : Prop := ∀ i, 0 ≤ i → i < M 75 17 → 0 ≤ M 87 i ∧ M 87 i ≤ 255 ∧ M 43 i = (if M 87 i < 128 then M 87 i else M 87 i - 256)
/-- settings -/
def S1 (M : fr_M) : Prop := M 29 12 = M 75 13 ∧ (M 75 13 = 0 ∨ M 75 13 = 1) ∧ M 29 11 = M 75 14 ∧ (M 75 14 = 1 ∨ M 75 14 = 2 ∨ M 75 14 = 4 ∨ M 75 14 = 8 ∨ M 75 14 = 16) ∧ M 0 16 = M 75 15 ∧ 0 ≤ M 75 15 ∧ M 75 15 ≤ 8
/-- runs: w = 0 the PLAIN one (cell 45), 1 the LAID one (cell 52) -/
def R1 (M : fr_M) (t : Nat) (w : Int) : Prop := M t 0 = M 106 w ∧ (M 106 w = 0 ∨ M 106 w = 1) ∧ 0 ≤ M t 2 ∧ M t 2 ≤ 200 ∧ (M 106 w = 0 → M t 2 = 0) ∧ (M 106 w = 1 → M 107 (9 * w + 0) = M t 1 ∧ M 107 (9 * w + 1) = M t 2 ∧ M 107 (9 * w + 2) = M t 3 ∧ M 107 (9 * w + 3) = M t 5 ∧ M 107 (9 * w + 4) = 2 * M t 6 + 3 * M t 7 + M t 8 + 50 * M t 9 ∧ M 107 (9 * w + 5) = M t 6 ∧ M 107 (9 * w + 6) = M t 7 ∧ M 107 (9 * w + 7) = M t 8 ∧ M 107 (9 * w + 8) = M t 9 ∧ (0 ≤ M t 6 ∧ M t 6 ≤ 1000) ∧ (0 ≤ M t 7 ∧ M t 7 ≤ 1000) ∧ (0 ≤ M t 8 ∧ M t 8 ≤ 1000) ∧ (0 ≤ M t 9 ∧ M t 9 ≤ 1000))
def R2 (M : fr_M) (t row : Nat) (w : Int) : Prop := ∀ i, 0 ≤ i → i < M t 2 → M 108 (200 * w + i) = M row i
def R3 (M : fr_M) : Prop := (M 0 17 = 0 ∨ M 0 17 = 1) ∧ (M 75 41 = 0 ∨ M 75 41 = 1) ∧ (M 75 41 = 1 ↔ (M 45 0 = 1 ∧ M 0 17 = 1)) ∧ (M 45 0 = 1 → ∀ i, 0 ≤ i → i < 160 → M 48 i = M 109 i ∧ 0 ≤ M 109 i ∧ M 109 i ≤ 1000)
def R4 (M : fr_M) : Prop := ∀ i, 0 ≤ i → i < M 52 2 → M 54 i = M 110 i
/-- what the layout that is kept depends on -/
def rl (k : Nat) (i : Int) : Bool := (decide (2 ≤ k) && decide (k ≤ 11)) || (decide (k = 1) && decide (i = 1)) || decide (k = 14) || (decide (29 ≤ k) && decide (k ≤ 41)) || (decide (k = 75) && (decide (i = 4) || decide (i = 13) || decide (i = 14))) || (decide (76 ≤ k) && decide (k ≤ 84)) || decide (k = 86)
def msk (M : fr_M) : fr_M := fun k i => if rl k i then M k i else 0
def LayOK (M : fr_M) : Prop := ∃ T : Nat, LayP (pg M) T M
def PicOK (M : fr_M) : Prop := ∃ T : Nat, LayP (pg M) T M ∧ PicP (pg M) (lgT (pg M) T) M
def RLx (n : Int) (M : fr_M) : Prop := (M 29 18 = 0 ∨ M 29 18 = 1) ∧ 0 ≤ M 29 17 ∧ M 29 17 ≤ n ∧ 0 ≤ M 39 4 ∧ M 39 4 ≤ M 29 17 ∧ (M 29 18 = 1 → LayOK M) ∧ (M 29 18 = 1 → M 39 4 = M 29 17 → PicOK M)
def RL (n : Int) (M : fr_M) : Prop := RLx n (msk M)
theorem RL.off {n : Int} {M M' : fr_M} (h : RL n M) (h18 : M' 29 18 = 0) (h17 : M' 29 17 = M 29 17) (h4 : M' 39 4 = M 39 4) : RL (n + 1) M' := by
  obtain ⟨a1, a2, a3, a4, a5, -, -⟩ := h
  have a2 : 0 ≤ M 29 17 := a2
  have a3 : M 29 17 ≤ n := a3
  have a4 : 0 ≤ M 39 4 := a4
  have a5 : M 39 4 ≤ M 29 17 := a5
  refine ⟨Or.inl h18, ?_, ?_, ?_, ?_, fun q => ?_, fun q => ?_⟩
  · show 0 ≤ M' 29 17; omega
  · show M' 29 17 ≤ n + 1; omega
  · show 0 ≤ M' 39 4; omega
  · show M' 39 4 ≤ M' 29 17; omega
  · have q : M' 29 18 = 1 := q
    omega
  · have q : M' 29 18 = 1 := q
    omega
theorem RL.keep {n : Int} {M M' : fr_M} (h : RL n M) (e : ∀ k i, rl k i = true → M' k i = M k i) : RL (n + 1) M' := by
  have em : msk M' = msk M := by
    funext k i
    unfold msk
    split
    · next q => exact e k i q
    · rfl
  unfold RL
  rw [em]
  obtain ⟨a1, a2, a3, a4, a5, a6, a7⟩ := h
  exact ⟨a1, a2, by omega, a4, a5, a6, a7⟩
theorem kp_r {M : fr_M} : ∀ k i, rl k i = true → M k i = M k i := fun _ _ _ => rfl
theorem kp_u {M M' : fr_M} {a : Nat} {j v : Int} (h : ∀ k i, rl k i = true → M' k i = M k i) (q : rl a j = false) : ∀ k i, rl k i = true → fr_up M' a j v k i = M k i := by
  intro k i hk
  unfold fr_up
  split
  · next e =>
    subst e
    split
    · next e2 => subst e2; rw [q] at hk; cases hk
    · exact h k i hk
  · exact h k i hk
def Rel (n : Int) (M : fr_M) : Prop := 0 ≤ n ∧ P1 M ∧ P2 M ∧ P3 M ∧ P4 M ∧ P5 M ∧ P6 M ∧ P7 M ∧ P8 M ∧ O1 M ∧ O2 M ∧ O3 M ∧ K1 M ∧ K2 M ∧ K3 M ∧ K4 M ∧ K5 M ∧ T1 M ∧ T2 M ∧ S1 M ∧ R1 M 45 0 ∧ R1 M 52 1 ∧ R2 M 45 46 0 ∧ R2 M 52 53 1 ∧ R3 M ∧ R4 M ∧ RL n M
theorem Rel.next {n : Int} {M : fr_M} (h : Rel n M) : Rel (n + 1) M := by
  obtain ⟨h0, h1, h2, h3, h4, h5, h6, h7, h8, o1, o2, o3, k1, k2, k3, k4, k5, t1, t2, s1, r1, r1', r2, r2', r3, r4, l⟩ := h
  exact ⟨by omega, h1, h2, h3, h4, h5, h6, h7, h8, o1, o2, o3, k1, k2, k3, k4, k5, t1, t2, s1, r1, r1', r2, r2', r3, r4, l.keep (fun _ _ _ => rfl)⟩
theorem rel_init : Rel 0 Z4 := by
  refine ⟨by decide, ⟨rfl, by decide, by decide, rfl, by decide, by decide⟩, ?_, ?_, ?_, ?_, ?_, ?_, ?_, ?_, ?_, ?_, ⟨rfl, by decide, by decide⟩, ?_, ?_, ?_, ?_, ⟨rfl, by decide, by decide⟩, ?_, ⟨rfl, Or.inl rfl, rfl, Or.inl rfl, rfl, by decide, by decide⟩, ?_, ?_, ?_, ?_, ?_, ?_, ?_⟩
  · intro r h0 h1; exact ⟨rfl, Int.le_refl 0, (by decide : (0 : Int) ≤ 9), fun _ => rfl⟩
  · intro r k h0 h1 h2 h3; have h3 : k < 0 := h3; omega
  · intro b h0 h1; have h1 : b < 0 := h1; omega
  · intro b h0 h1; have h1 : b < 0 := h1; omega
  · intro b w h0 h1; have h1 : b < 0 := h1; omega
  · intro i h0 h1; exact ⟨rfl, Int.le_refl 0, (by decide : (0 : Int) ≤ 1000000)⟩
  · intro b h0 h1; exact ⟨rfl, rfl, rfl⟩
  · intro r k h0 h1 h2 h3; have h3 : k < 0 := h3; omega
  · intro b h0 h1; have h1 : b < 0 := h1; omega
  · intro r h0 h1 h2; have h2 : (0 : Int) < 0 := h2; omega
  · intro u h0 h1; have h1 : u < 0 := h1; omega
  · intro u i h0 h1; have h1 : u < 0 := h1; omega
  · intro u i j h0 h1; have h1 : u < 0 := h1; omega
  · intro u b h0 h1; have h1 : u < 0 := h1; omega
  · intro i h0 h1; have h1 : i < 0 := h1; omega
  · exact ⟨rfl, Or.inl rfl, Int.le_refl 0, (by decide : (0 : Int) ≤ 200), fun _ => rfl, fun h => absurd (show (0 : Int) = 1 from h) (by decide)⟩
  · exact ⟨rfl, Or.inl rfl, Int.le_refl 0, (by decide : (0 : Int) ≤ 200), fun _ => rfl, fun h => absurd (show (0 : Int) = 1 from h) (by decide)⟩
  · intro i h0 h1; have h1 : i < 0 := h1; omega
  · intro i h0 h1; have h1 : i < 0 := h1; omega
  · exact ⟨Or.inl rfl, Or.inl rfl, ⟨fun h => absurd (show (0 : Int) = 1 from h) (by decide), fun h => absurd (show (0 : Int) = 1 from h.1) (by decide)⟩, fun h => absurd (show (0 : Int) = 1 from h) (by decide)⟩
  · intro i h0 h1; have h1 : i < 0 := h1; omega
  · exact ⟨Or.inl rfl, Int.le_refl 0, Int.le_refl 0, Int.le_refl 0, Int.le_refl 0, fun h => absurd (show (0 : Int) = 1 from h) (by decide), fun h => absurd (show (0 : Int) = 1 from h) (by decide)⟩
