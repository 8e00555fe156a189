theorem b2_s {n : Int} (hn : 0 < n ∧ n ≤ 9) : b2 n = 2 * b2 (n - 1) := by
  have := fin2 (P := fun _ k => b2 (k + 1) = 2 * b2 k) (a := 1) (b := 9) (by decide +kernel) (s := 0) (k := n - 1) (by omega) (by omega)
  rw [show n - 1 + 1 = n by omega] at this
  exact this
theorem cr_rel {f : Int → Int → Int} {g g' : Int → Int} {n t l : Int} (hn : 0 < n ∧ n ≤ 9) (ht : 0 ≤ t ∧ t < b2 (n - 1)) (hne : t ≠ b2 (n - 1) - 1) (hl : 0 ≤ l ∧ l < n) (hf : ∀ i j, 0 ≤ i → i < n → 0 ≤ f i j ∧ f i j ≤ 6000000) (hv : ∀ k, 0 ≤ k → k < n - 1 → btt t k = 0 → g ((t + b2 k) * 9 + (k + 1)) = g' (9 * (2 * (b2 (n - 1) - 1 - t) - b2 (k + 1)) + (k + 1)) ∧ 0 ≤ g' (9 * (2 * (b2 (n - 1) - 1 - t) - b2 (k + 1)) + (k + 1)) ∧ g' (9 * (2 * (b2 (n - 1) - 1 - t) - b2 (k + 1)) + (k + 1)) ≤ 60000000) : ∀ k : Nat, (k : Int) ≤ n - 1 → (rf f g' (2 * (b2 (n - 1) - 1 - t)) l (k + 1) = -1 ∧ cfo f g t l k = 1000000000) ∨ (0 ≤ rf f g' (2 * (b2 (n - 1) - 1 - t)) l (k + 1) ∧ cfo f g t l k = rf f g' (2 * (b2 (n - 1) - 1 - t)) l (k + 1) ∧ cfo f g t l k ≤ 66000000)
  | 0, _ => by
    have h1 : n ≠ 1 := by
      intro e
      subst e
      have : b2 (1 - 1) = 1 := by decide
      omega
    have h0 := (bit_co (n := n) (t := t) (k := 0) (by omega) ht (by omega)).2.1
    refine Or.inl ⟨?_, rfl⟩
    rw [rf, if_neg (by show ¬ btt _ 0 = 1; omega), rf, if_neg (by omega)]
  | k + 1, h => by
    have a := cr_rel hn ht hne hl hf hv k (by omega)
    have hc := (bit_co (n := n) (t := t) (k := (k : Int)) (by omega) ht (by omega)).1
    have h01 := bt_01 (s := t) (k := (k : Int))
    have hfk := hf l ((k : Int) + 1) hl.1 hl.2
    have ek : ((k + 1 : Nat) : Int) = (k : Int) + 1 := by omega
    rw [rf, cfo, ek]
    rcases h01 with e | e
    · have b := hv (k : Int) (by omega) (by omega) e
      rw [if_pos (show btt (2 * (b2 (n - 1) - 1 - t)) ((k : Int) + 1) = 1 by omega), if_pos e, b.1]
      refine Or.inr ?_
      rcases a with a | a
      · rw [if_pos (Or.inl (by omega)), a.2]
        omega
      · by_cases hlt : f l ((k : Int) + 1) + g' (9 * (2 * (b2 (n - 1) - 1 - t) - b2 ((k : Int) + 1)) + ((k : Int) + 1)) < rf f g' (2 * (b2 (n - 1) - 1 - t)) l (k + 1)
        · rw [if_pos (Or.inr hlt)]
          omega
        · rw [if_neg (by omega)]
          omega
    · rw [if_neg (show ¬ btt (2 * (b2 (n - 1) - 1 - t)) ((k : Int) + 1) = 1 by omega), if_neg (by omega)]
      exact a
theorem tab_eq {f : Int → Int → Int} {g g' : Int → Int} {n : Int} (hn : 0 < n ∧ n ≤ 9) (hf : ∀ i j, 0 ≤ i → i < n → 0 ≤ f i j ∧ f i j ≤ 6000000) (hC : CT_ f n g (-1) 0) (hL : LT_ f n g' (b2 n) 0) : ∀ (d : Nat) (t l : Int), b2 (n - 1) - 1 - t = (d : Int) → 0 ≤ t → (0 ≤ l ∧ l < n) → isT n t l → g (t * 9 + l) = g' (9 * (2 * (b2 (n - 1) - 1 - t)) + l) := by
  have h8 := b2_8 hn
  have hs2 := b2_s hn
  intro d
  induction d using Nat.strongRecOn with
  | _ d ih =>
    intro t l hd ht hl hT
    have c := (hC t l ht (by omega) hl.1 hl.2 (by omega)).1
    have r := hL (2 * (b2 (n - 1) - 1 - t)) l (by omega) (by omega) hl.1 hl.2 (by omega)
    rw [c, r.1, lr, if_pos hT]
    by_cases e : t = b2 (n - 1) - 1
    · rw [if_pos e, show 2 * (b2 (n - 1) - 1 - t) = 0 by omega, rf_0]
    · rw [if_neg e]
      have h := cr_rel (g := g) (g' := g') hn ⟨ht, by omega⟩ e hl hf (fun k k0 k1 hb => ?_) (n - 1).toNat (by omega)
      · have r1 := r.1
        rw [show (n - 1).toNat + 1 = n.toNat by omega] at h
        omega
      · have hc := bit_co (n := n) (t := t) (k := k) (by omega) ⟨ht, by omega⟩ ⟨k0, k1⟩
        have hbk := (bit_shl (k := k) (by omega)).2
        have hlt := hc.2.2.2 hb
        have hbit := ((bit_and (s := t) (k := k) (by omega) (by omega)).2 hb).2
        have i1 := ih (b2 (n - 1) - 1 - (t + b2 k)).toNat (by omega) (t + b2 k) (k + 1) (by omega) (by omega) (by omega) (Or.inr ⟨by omega, by rw [show k + 1 - 1 = k by omega]; exact hbit⟩)
        have es : 2 * (b2 (n - 1) - 1 - (t + b2 k)) = 2 * (b2 (n - 1) - 1 - t) - b2 (k + 1) := by omega
        rw [es] at i1
        have l1 := (hL (2 * (b2 (n - 1) - 1 - t) - b2 (k + 1)) (k + 1) (by omega) (by omega) (by omega) (by omega) (by omega)).2
        have hp := pcn_b (s := 2 * (b2 (n - 1) - 1 - t) - b2 (k + 1))
        exact ⟨i1, l1.1, by omega⟩
