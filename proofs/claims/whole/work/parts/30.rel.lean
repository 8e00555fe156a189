def Rel (n : Int) (M : fr_M) : Prop := 0 ≤ n ∧ M 0 0 = M 0 0
theorem Rel.next {n : Int} {M : fr_M} (h : Rel n M) : Rel (n + 1) M := ⟨by have := h.1; omega, rfl⟩
theorem rel_init : Rel 0 Z4 := ⟨by decide, rfl⟩
