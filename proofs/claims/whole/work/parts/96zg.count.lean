def fct : Nat → Nat
  | 0 => 1
  | k + 1 => (k + 1) * fct k
theorem lsplit {α : Type} (p : α → Bool) : ∀ l : List α, l.length = (l.filter p).length + (l.filter (fun x => !p x)).length
  | [] => rfl
  | a :: l => by
    have := lsplit p l
    cases h : p a
    · simp [List.filter, h]
      omega
    · simp [List.filter, h]
      omega
theorem cnt_1 {k : Nat} {S : List Int} (hS : S.length = k + 1) (ih : ∀ (S : List Int) (LL : List (List Int)), S.length = k → LL.Nodup → (∀ l ∈ LL, l.length = k ∧ l.Nodup ∧ ∀ x ∈ l, x ∈ S) → LL.length ≤ fct k) {LL : List (List Int)} {x : Int} (hx : x ∈ S) (hn : LL.Nodup) (h : ∀ l ∈ LL, (l.length = k + 1 ∧ l.Nodup ∧ ∀ y ∈ l, y ∈ S) ∧ l.head? = some x) : LL.length ≤ fct k := by
  have hl : LL.length = (LL.map List.tail).length := by rw [List.length_map]
  rw [hl]
  have ec : ∀ l ∈ LL, l = x :: l.tail := by
    intro l hl
    have a := h l hl
    cases l with
    | nil => simp at a
    | cons y t =>
      have : y = x := by simpa using a.2
      rw [this]
      rfl
  refine ih (S.erase x) (LL.map List.tail) ?_ ?_ ?_
  · rw [List.length_erase_of_mem hx, hS]
    omega
  · unfold List.Nodup
    rw [List.pairwise_map]
    refine List.Pairwise.imp_of_mem ?_ hn
    intro a b ha hb hab e
    apply hab
    rw [ec a ha, ec b hb, e]
  · intro l' hl'
    obtain ⟨l, hl, rfl⟩ := List.mem_map.mp hl'
    have a := (h l hl).1
    rw [ec l hl] at a
    rw [List.length_cons, List.nodup_cons] at a
    refine ⟨by omega, a.2.1.2, fun y hy => ?_⟩
    have hyS := a.2.2 y (List.mem_cons_of_mem _ hy)
    have hne : y ≠ x := fun e => a.2.1.1 (e ▸ hy)
    exact (List.mem_erase_of_ne hne).mpr hyS
theorem cnt_2 {k : Nat} {S : List Int} (hS : S.length = k + 1) (ih : ∀ (S : List Int) (LL : List (List Int)), S.length = k → LL.Nodup → (∀ l ∈ LL, l.length = k ∧ l.Nodup ∧ ∀ x ∈ l, x ∈ S) → LL.length ≤ fct k) : ∀ (S' : List Int) (LL : List (List Int)), (∀ x ∈ S', x ∈ S) → LL.Nodup → (∀ l ∈ LL, (l.length = k + 1 ∧ l.Nodup ∧ ∀ y ∈ l, y ∈ S) ∧ ∃ x ∈ S', l.head? = some x) → LL.length ≤ S'.length * fct k
  | [], LL, _, _, h => by
    cases LL with
    | nil => simp
    | cons l t =>
      obtain ⟨x, hx, -⟩ := (h l (List.mem_cons_self ..)).2
      cases hx
  | x :: S', LL, hs, hn, h => by
    have e := lsplit (fun l : List Int => decide (l.head? = some x)) LL
    have a := cnt_1 hS ih (x := x) (LL := LL.filter (fun l : List Int => decide (l.head? = some x))) (hs x (List.mem_cons_self ..)) (List.Pairwise.filter _ hn) (fun l hl => by
      have := List.mem_filter.mp hl
      exact ⟨(h l this.1).1, by simpa using this.2⟩)
    have b := cnt_2 hS ih S' (LL.filter (fun l : List Int => !decide (l.head? = some x))) (fun y hy => hs y (List.mem_cons_of_mem _ hy)) (List.Pairwise.filter _ hn) (fun l hl => by
      have hm := List.mem_filter.mp hl
      have hl1 := h l hm.1
      obtain ⟨y, hy, ey⟩ := hl1.2
      refine ⟨hl1.1, y, ?_, ey⟩
      cases hy with
      | head => simp [ey] at hm
      | tail _ hy => exact hy)
    rw [List.length_cons, Nat.add_mul, Nat.one_mul]
    omega
theorem cntp : ∀ (k : Nat) (S : List Int) (LL : List (List Int)), S.length = k → LL.Nodup → (∀ l ∈ LL, l.length = k ∧ l.Nodup ∧ ∀ x ∈ l, x ∈ S) → LL.length ≤ fct k
  | 0, S, LL, _, hn, h => by
    cases LL with
    | nil => simp
    | cons a t =>
      cases t with
      | nil => simp [fct]
      | cons b t =>
        exfalso
        have ea := List.eq_nil_of_length_eq_zero (h a (List.mem_cons_self ..)).1
        have eb := List.eq_nil_of_length_eq_zero (h b (List.mem_cons_of_mem _ (List.mem_cons_self ..))).1
        subst ea
        subst eb
        simp at hn
  | k + 1, S, LL, hS, hn, h => by
    have := cnt_2 hS (cntp k) S LL (fun _ q => q) hn (fun l hl => by
      have a := h l hl
      refine ⟨a, ?_⟩
      cases l with
      | nil => simp at a
      | cons y t => exact ⟨y, a.2.2 y (List.mem_cons_self ..), rfl⟩)
    rw [hS] at this
    exact this
