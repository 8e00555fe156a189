/-! ===== the machine's numbers and the real ones ===== -/
def lw_gd : List Cond := lw_tbl.filter goodWord
theorem lw_gd_in {w : Cond} (h : w ∈ lw_tbl) (g : goodWord w = true) : w ∈ lw_gd := List.mem_filter.mpr ⟨h, g⟩
theorem fr_nth_eq {α : Type} : ∀ (l : List α) (n : Nat), fr_nth l n = l[n]?
  | [], n => by cases n <;> rfl
  | a :: l, 0 => rfl
  | a :: l, n + 1 => by rw [fr_nth, fr_nth_eq l n]; rfl
theorem fr_stn_eq {α : Type} : ∀ (l : List α) (n : Nat) (v : α), fr_stn l n v = l.set n v
  | [], n, v => by cases n <;> rfl
  | a :: l, 0, v => rfl
  | a :: l, n + 1, v => by rw [fr_stn, fr_stn_eq l n v]; rfl
theorem fr_ti {x : Int} (h : fr_in x) : (Int32.ofInt x).toInt = x := by
  obtain ⟨h1, h2⟩ := h
  rw [Int32.toInt_ofInt]
  unfold Int.bmod
  have : (2 ^ 32 : Nat) = 4294967296 := by decide
  simp only [Int32.size] at *
  split <;> omega
theorem fr_in_toInt (x : Int32) : fr_in x.toInt := ⟨by have := x.le_toInt; omega, by have := x.toInt_lt; omega⟩
theorem fr_oi (x : Int32) : Int32.ofInt x.toInt = x := Int32.ofInt_toInt x
theorem fr_lt {x y : Int} (hx : fr_in x) (hy : fr_in y) : Int32.ofInt x < Int32.ofInt y ↔ x < y := by rw [Int32.lt_iff_toInt_lt, fr_ti hx, fr_ti hy]
theorem fr_le {x y : Int} (hx : fr_in x) (hy : fr_in y) : Int32.ofInt x ≤ Int32.ofInt y ↔ x ≤ y := by rw [Int32.le_iff_toInt_le, fr_ti hx, fr_ti hy]
theorem fr_eq {x y : Int} (hx : fr_in x) (hy : fr_in y) : Int32.ofInt x = Int32.ofInt y ↔ x = y := ⟨fun h => by rw [← fr_ti hx, ← fr_ti hy, h], fun h => by rw [h]⟩
theorem fr_in0 : fr_in 0 := ⟨by decide, by decide⟩
theorem fr_lt0 {x : Int} (hx : fr_in x) : Int32.ofInt x < 0 ↔ x < 0 := fr_lt (y := 0) hx fr_in0
theorem fr_0lt {x : Int} (hx : fr_in x) : 0 < Int32.ofInt x ↔ 0 < x := fr_lt (x := 0) fr_in0 hx
theorem fr_le0 {x : Int} (hx : fr_in x) : Int32.ofInt x ≤ 0 ↔ x ≤ 0 := fr_le (y := 0) hx fr_in0
theorem fr_0le {x : Int} (hx : fr_in x) : 0 ≤ Int32.ofInt x ↔ 0 ≤ x := fr_le (x := 0) fr_in0 hx
theorem fr_eq0 {x : Int} (hx : fr_in x) : Int32.ofInt x = 0 ↔ x = 0 := fr_eq (y := 0) hx fr_in0
theorem fr_cl {x : Int} (hx : fr_in x) : (Int32.ofInt x).toNatClampNeg = x.toNat := by
  show (Int32.ofInt x).toInt.toNat = _
  rw [fr_ti hx]
theorem fr_vin {i : Int} {n : Nat} (hi : fr_in i) (h : 0 ≤ i ∧ i < (n : Int)) : vp_in (Int32.ofInt i) n := by
  rw [vp_in_iff, fr_ti hi]; exact h
theorem fr_div {x y : Int} (hx : fr_in x) (hy : fr_in y) (h : 0 ≤ x ∧ 0 < y) : Int32.ofInt x / Int32.ofInt y = Int32.ofInt (x / y) := by
  obtain ⟨a, rfl⟩ : ∃ a : Nat, x = (a : Int) := ⟨x.toNat, by omega⟩
  obtain ⟨b, rfl⟩ : ∃ b : Nat, y = (b : Int) := ⟨y.toNat, by omega⟩
  have h1 := pk_div (a := a) (d := b) (by have := hx.2; omega) (by omega) (by have := hy.2; omega)
  exact h1
theorem fr_mod {x y : Int} (hx : fr_in x) (hy : fr_in y) (h : 0 ≤ x ∧ 0 < y) : Int32.ofInt x - Int32.ofInt x / Int32.ofInt y * Int32.ofInt y = Int32.ofInt (x % y) := by
  obtain ⟨a, rfl⟩ : ∃ a : Nat, x = (a : Int) := ⟨x.toNat, by omega⟩
  obtain ⟨b, rfl⟩ : ∃ b : Nat, y = (b : Int) := ⟨y.toNat, by omega⟩
  have h1 := pk_rem (a := a) (d := b) (by have := hx.2; omega) (by omega) (by have := hy.2; omega)
  exact h1
theorem fr_in_div {x y : Int} (hx : fr_in x) (h : 0 ≤ x ∧ 0 < y) : fr_in (x / y) := by
  have h1 := Int.ediv_nonneg h.1 (Int.le_of_lt h.2)
  have h2 := Int.ediv_le_self y h.1
  exact ⟨by omega, by have := hx.2; omega⟩
theorem fr_in_mod {x y : Int} (hx : fr_in x) (h : 0 ≤ x ∧ 0 < y) : fr_in (x % y) := by
  have h1 := Int.emod_nonneg x (b := y) (by omega)
  have h2 := Int.emod_lt_of_pos x h.2
  have h3 := hx.2
  have h4 : x % y ≤ x := by
    have := Int.mul_ediv_add_emod x y
    have h5 : 0 ≤ y * (x / y) := Int.mul_nonneg (Int.le_of_lt h.2) (Int.ediv_nonneg h.1 (Int.le_of_lt h.2))
    omega
  exact ⟨by omega, by omega⟩
theorem fr_b2_e {st : List fr_V} {f : Int → Int → List fr_V → Prop} (h : fr_b2 st f) : ∃ x y r, st = .inl y :: .inl x :: r ∧ f x y r := by
  unfold fr_b2 at h
  split at h
  · exact ⟨_, _, _, rfl, h⟩
  · exact h.elim
theorem fr_u1_e {st : List fr_V} {f : Int → List fr_V → Prop} (h : fr_u1 st f) : ∃ x r, st = .inl x :: r ∧ f x r := by
  unfold fr_u1 at h
  split at h
  · exact ⟨_, _, rfl, h⟩
  · exact h.elim
theorem fr_ild_e {ls : fr_L} {i : Nat} {f : Int → Prop} (h : fr_ild ls i f) : ∃ x, ls[i]? = some (some (.inl x)) ∧ f x := by
  unfold fr_ild at h
  split at h
  · next x hq => exact ⟨x, by rw [← fr_nth_eq]; exact hq, h⟩
  · exact h.elim
theorem fr_cond_e {b : Bool} {A : Prop} (h : cond b A False) : b = true ∧ A := by
  cases b
  · exact h.elim
  · exact ⟨rfl, h⟩
theorem fr_obj_e {sh : fr_H} {k a : Nat} {f : fr_F → Prop} (h : fr_obj sh k a f) : ∃ fs, sh[k]? = some (.inr (a, fs)) ∧ f fs := by
  unfold fr_obj at h
  split at h
  · next ci fs hq =>
    obtain ⟨h1, h2⟩ := fr_cond_e h
    rw [Nat.beq_eq] at h1
    subst h1
    exact ⟨fs, by rw [← fr_nth_eq]; exact hq, h2⟩
  · exact h.elim
theorem fr_arr_e {sh : fr_H} {k : Nat} {f : Nat → Nat → Prop} (h : fr_arr sh k f) : ∃ t n, sh[k]? = some (.inl (t, n)) ∧ f t n := by
  unfold fr_arr at h
  split at h
  · next t n hq => exact ⟨t, n, by rw [← fr_nth_eq]; exact hq, h⟩
  · exact h.elim
