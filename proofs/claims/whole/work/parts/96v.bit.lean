def b2 (k : Int) : Int := ((2 ^ k.toNat : Nat) : Int)
def btt (s k : Int) : Int := s / b2 k % 2
def pcn (s : Int) : Int := btt s 0 + btt s 1 + btt s 2 + btt s 3 + btt s 4 + btt s 5 + btt s 6 + btt s 7 + btt s 8
theorem fin2 {P : Int → Int → Prop} {a b : Nat} (h : ∀ s : Fin a, ∀ k : Fin b, P ((s.val : Nat) : Int) ((k.val : Nat) : Int)) {s k : Int} (hs : 0 ≤ s ∧ s < (a : Int)) (hk : 0 ≤ k ∧ k < (b : Int)) : P s k := by
  have := h ⟨s.toNat, by omega⟩ ⟨k.toNat, by omega⟩
  rw [show ((s.toNat : Nat) : Int) = s by omega, show ((k.toNat : Nat) : Int) = k by omega] at this
  exact this
theorem bit_shl {k : Int} (hk : 0 ≤ k ∧ k < 10) : fr_shl 1 k = b2 k ∧ 1 ≤ b2 k ∧ b2 k ≤ 512 :=
  fin2 (P := fun _ k => fr_shl 1 k = b2 k ∧ 1 ≤ b2 k ∧ b2 k ≤ 512) (a := 1) (b := 10) (by decide +kernel) (s := 0) (by omega) (by omega)
theorem bit_shr {s k : Int} (hs : 0 ≤ s ∧ s < 512) (hk : 0 ≤ k ∧ k < 9) : fr_and (fr_shr s k) 1 = btt s k :=
  fin2 (P := fun s k => fr_and (fr_shr s k) 1 = btt s k) (a := 512) (b := 9) (by decide +kernel) (by omega) (by omega)
theorem bit_out {s k : Int} (hs : 0 ≤ s ∧ s < 512) (hk : 0 ≤ k ∧ k < 9) : btt s k = 1 → fr_and s (fr_xor (b2 k) (-1)) = s - b2 k ∧ b2 k ≤ s ∧ pcn (s - b2 k) = pcn s - 1 :=
  fin2 (P := fun s k => btt s k = 1 → fr_and s (fr_xor (b2 k) (-1)) = s - b2 k ∧ b2 k ≤ s ∧ pcn (s - b2 k) = pcn s - 1) (a := 512) (b := 9) (by decide +kernel) (by omega) (by omega)
theorem bit_and {s k : Int} (hs : 0 ≤ s ∧ s < 256) (hk : 0 ≤ k ∧ k < 8) : fr_and s (b2 k) = btt s k * b2 k ∧ (btt s k = 0 → fr_or s (b2 k) = s + b2 k ∧ btt (s + b2 k) k = 1) :=
  fin2 (P := fun s k => fr_and s (b2 k) = btt s k * b2 k ∧ (btt s k = 0 → fr_or s (b2 k) = s + b2 k ∧ btt (s + b2 k) k = 1)) (a := 256) (b := 8) (by decide +kernel) (by omega) (by omega)
theorem bit_ex {s n : Int} (hs : 0 ≤ s ∧ s < 512) (hn : 0 ≤ n ∧ n < 10) : 0 < s → s < b2 n → ∃ k : Fin 9, ((k.val : Nat) : Int) < n ∧ btt s ((k.val : Nat) : Int) = 1 :=
  fin2 (P := fun s n => 0 < s → s < b2 n → ∃ k : Fin 9, ((k.val : Nat) : Int) < n ∧ btt s ((k.val : Nat) : Int) = 1) (a := 512) (b := 10) (by decide +kernel) (by omega) (by omega)
theorem bit_co {n t k : Int} (hn : 1 ≤ n ∧ n ≤ 9) (ht : 0 ≤ t ∧ t < b2 (n - 1)) (hk : 0 ≤ k ∧ k < n - 1) : btt (2 * (b2 (n - 1) - 1 - t)) (k + 1) = 1 - btt t k ∧ btt (2 * (b2 (n - 1) - 1 - t)) 0 = 0 ∧ b2 (k + 1) = 2 * b2 k ∧ (btt t k = 0 → t + b2 k < b2 (n - 1)) := by
  have hb := (bit_shl (k := n - 1) (by omega)).2
  have hb8 : b2 (n - 1) ≤ 256 := by
    have := fin2 (P := fun _ k => b2 k ≤ 256) (a := 1) (b := 9) (by decide +kernel) (s := 0) (k := n - 1) (by omega) (by omega)
    exact this
  have h := fin2 (P := fun t k => ∀ n : Fin 9, t < b2 ((n.val : Nat) : Int) → k < ((n.val : Nat) : Int) → btt (2 * (b2 ((n.val : Nat) : Int) - 1 - t)) (k + 1) = 1 - btt t k ∧ btt (2 * (b2 ((n.val : Nat) : Int) - 1 - t)) 0 = 0 ∧ b2 (k + 1) = 2 * b2 k ∧ (btt t k = 0 → t + b2 k < b2 ((n.val : Nat) : Int))) (a := 256) (b := 8) (by decide +kernel) (s := t) (k := k) (by omega) (by omega) ⟨(n - 1).toNat, by omega⟩
  rw [show (((n - 1).toNat : Nat) : Int) = n - 1 by omega] at h
  exact h ht.2 hk.2
theorem bt_01 {s k : Int} : btt s k = 0 ∨ btt s k = 1 := by
  have : btt s k = s / b2 k % 2 := rfl
  omega
theorem bt_0 {k : Int} : btt 0 k = 0 := by
  show 0 / b2 k % 2 = 0
  rw [Int.zero_ediv]
  rfl
theorem pcn_b {s : Int} : 0 ≤ pcn s ∧ pcn s ≤ 9 := by
  unfold pcn
  have h0 := bt_01 (s := s) (k := 0)
  have h1 := bt_01 (s := s) (k := 1)
  have h2 := bt_01 (s := s) (k := 2)
  have h3 := bt_01 (s := s) (k := 3)
  have h4 := bt_01 (s := s) (k := 4)
  have h5 := bt_01 (s := s) (k := 5)
  have h6 := bt_01 (s := s) (k := 6)
  have h7 := bt_01 (s := s) (k := 7)
  have h8 := bt_01 (s := s) (k := 8)
  generalize btt s 0 = x0 at *
  generalize btt s 1 = x1 at *
  generalize btt s 2 = x2 at *
  generalize btt s 3 = x3 at *
  generalize btt s 4 = x4 at *
  generalize btt s 5 = x5 at *
  generalize btt s 6 = x6 at *
  generalize btt s 7 = x7 at *
  generalize btt s 8 = x8 at *
  omega
/-- the reference's least: what is found behind k of the ranks -/
def rf (f : Int → Int → Int) (L : Int → Int) (s l : Int) : Nat → Int
  | 0 => if s = 0 then f l 9 else -1
  | k + 1 => if btt s (k : Int) = 1 then (if rf f L s l k < 0 ∨ f l (k : Int) + L (9 * (s - b2 (k : Int)) + (k : Int)) < rf f L s l k then f l (k : Int) + L (9 * (s - b2 (k : Int)) + (k : Int)) else rf f L s l k) else rf f L s l k
theorem rf_cg {f : Int → Int → Int} {L L' : Int → Int} {s l : Int} (hL : ∀ x, x < 9 * s → L x = L' x) : ∀ k : Nat, k ≤ 9 → rf f L s l k = rf f L' s l k
  | 0, _ => rfl
  | k + 1, h => by
    have a := rf_cg (f := f) (l := l) hL k (by omega)
    have b := (bit_shl (k := (k : Int)) (by omega)).2
    rw [rf, rf, a, hL (9 * (s - b2 (k : Int)) + (k : Int)) (by omega)]
theorem rf_b {f : Int → Int → Int} {L : Int → Int} {n s l : Int} (hn : n ≤ 9) (hl : 0 ≤ l ∧ l < n) (hf : ∀ i j, 0 ≤ i → i < n → 0 ≤ f i j ∧ f i j ≤ 6000000) (hL : ∀ k, 0 ≤ k → k < n → btt s k = 1 → 0 ≤ L (9 * (s - b2 k) + k) ∧ L (9 * (s - b2 k) + k) ≤ 6000000 * pcn s) : ∀ k : Nat, (k : Int) ≤ n → (rf f L s l k = -1 ∧ s ≠ 0 ∧ ∀ j : Nat, j < k → btt s (j : Int) = 0) ∨ (0 ≤ rf f L s l k ∧ rf f L s l k ≤ 6000000 * (pcn s + 1))
  | 0, _ => by
    have h9 := hf l 9 hl.1 hl.2
    have hp := pcn_b (s := s)
    rw [rf]
    split
    · exact Or.inr (by omega)
    · next e => exact Or.inl ⟨rfl, e, fun j hj => by omega⟩
  | k + 1, h => by
    have a := rf_b hn hl hf hL k (by omega)
    have hfk := hf l (k : Int) hl.1 hl.2
    rw [rf]
    by_cases e : btt s (k : Int) = 1
    · have b := hL (k : Int) (by omega) (by omega) e
      rw [if_pos e]
      refine Or.inr ?_
      rcases a with a | a
      · rw [if_pos (Or.inl (by omega))]
        omega
      · split <;> omega
    · rw [if_neg e]
      rcases a with a | a
      · refine Or.inl ⟨a.1, a.2.1, fun j hj => ?_⟩
        by_cases ej : j = k
        · rw [ej]
          have := bt_01 (s := s) (k := (k : Int))
          omega
        · exact a.2.2 j (by omega)
      · exact Or.inr a
theorem rf_0 {f : Int → Int → Int} {L : Int → Int} {l : Int} : ∀ k : Nat, rf f L 0 l k = f l 9
  | 0 => rfl
  | k + 1 => by
    rw [rf, if_neg (by rw [bt_0]; omega)]
    exact rf_0 k
def LT_ (f : Int → Int → Int) (n : Int) (g : Int → Int) (s l : Int) : Prop := ∀ s' l', 0 ≤ s' → s' < b2 n → 0 ≤ l' → l' < n → (s' < s ∨ (s' = s ∧ l' < l)) → g (9 * s' + l') = rf f g s' l' n.toNat ∧ 0 ≤ g (9 * s' + l') ∧ g (9 * s' + l') ≤ 6000000 * (pcn s' + 1)
theorem LT_.in_ {f : Int → Int → Int} {n : Int} {g : Int → Int} {s l : Int} (h : LT_ f n g s l) (hn : 0 < n ∧ n ≤ 9) (hs : 0 ≤ s ∧ s < b2 n) : ∀ k, 0 ≤ k → k < n → btt s k = 1 → 0 ≤ g (9 * (s - b2 k) + k) ∧ g (9 * (s - b2 k) + k) ≤ 6000000 * pcn s := by
  intro k k0 k1 e
  have hb := (bit_shl (k := n) (by omega)).2
  have hk := (bit_shl (k := k) (by omega)).2
  have ho := bit_out (s := s) (k := k) (by omega) (by omega) e
  have a := h (s - b2 k) k (by omega) (by omega) k0 k1 (by omega)
  rw [ho.2.2] at a
  have a2 := a.2
  rw [show pcn s - 1 + 1 = pcn s by omega] at a2
  exact a2
theorem LT_.fin {f : Int → Int → Int} {n : Int} {g : Int → Int} {s l : Int} (h : LT_ f n g s l) (hn : 0 < n ∧ n ≤ 9) (hs : 0 ≤ s ∧ s < b2 n) (hl : 0 ≤ l ∧ l < n) (hf : ∀ i j, 0 ≤ i → i < n → 0 ≤ f i j ∧ f i j ≤ 6000000) : 0 ≤ rf f g s l n.toNat ∧ rf f g s l n.toNat ≤ 6000000 * (pcn s + 1) := by
  rcases rf_b (f := f) (L := g) (n := n) (s := s) (l := l) hn.2 hl hf (h.in_ hn hs) n.toNat (by omega) with a | a
  · exfalso
    have hb := (bit_shl (k := n) (by omega)).2
    obtain ⟨k, hk, e⟩ := bit_ex (s := s) (n := n) (by omega) (by omega) (by omega) (by omega)
    have := a.2.2 k.val (by omega)
    omega
  · exact a
theorem LT_.step {f : Int → Int → Int} {n : Int} {g : Int → Int} {s l : Int} (h : LT_ f n g s l) (hn : 0 < n ∧ n ≤ 9) (hs : 0 ≤ s ∧ s < b2 n) (hl : 0 ≤ l ∧ l < n) (hf : ∀ i j, 0 ≤ i → i < n → 0 ≤ f i j ∧ f i j ≤ 6000000) : LT_ f n (up1 g (9 * s + l) (rf f g s l n.toNat)) s (l + 1) := by
  have hfin := h.fin hn hs hl hf
  intro s' l' a0 a1 c0 c1 hlt
  have ecg : rf f (up1 g (9 * s + l) (rf f g s l n.toNat)) s' l' n.toNat = rf f g s' l' n.toNat := rf_cg (fun x hx => by rw [up1_, if_neg (by omega)]) n.toNat (by omega)
  rw [ecg, up1_]
  by_cases e : s' = s ∧ l' = l
  · obtain ⟨rfl, rfl⟩ := e
    rw [if_pos rfl]
    exact ⟨rfl, hfin⟩
  · rw [if_neg (by omega)]
    exact h s' l' a0 a1 c0 c1 (by omega)
