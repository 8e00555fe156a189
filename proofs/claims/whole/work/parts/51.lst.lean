/-! the pages that are kept, as a list, the latest first -/
def hd_ (f : Int → Int) (L : List Int) : Prop := ∀ (j : Nat) (x : Int), L[j]? = some x → f (j : Int) = x
def lstep (k : Nat) (L : List Int) (p : Int) : List Int := if p ∈ L then p :: L.erase p else (p :: L).take k
theorem hd_hit {f : Int → Int} {L : List Int} {p : Int} {i : Nat} (h : hd_ f L) (hi : i < L.length) : hd_ (hf f (i : Int) p) (p :: L.eraseIdx i) := by
  intro j x hx
  unfold hf
  cases j with
  | zero =>
    have e : p = x := by simpa using hx
    rw [if_neg (by omega), if_pos (by omega)]
    exact e
  | succ m =>
    rw [List.getElem?_cons_succ, List.getElem?_eraseIdx] at hx
    by_cases hm : m < i
    · rw [if_pos hm] at hx
      rw [if_pos (by omega), show ((m + 1 : Nat) : Int) - 1 = (m : Int) by omega]
      exact h m x hx
    · rw [if_neg hm] at hx
      rw [if_neg (by omega), if_neg (by omega)]
      exact h (m + 1) x hx
theorem hd_miss {f : Int → Int} {L : List Int} {p : Int} {k : Nat} (h : hd_ f L) : hd_ (hf f (min ((L.length : Int) + 1) (k : Int) - 1) p) ((p :: L).take k) := by
  intro j x hx
  have hj : j < k ∧ (p :: L)[j]? = some x := by
    rw [List.getElem?_take] at hx
    split at hx
    · next q => exact ⟨q, hx⟩
    · cases hx
  have hl : j < (p :: L).length := (List.getElem?_eq_some_iff.mp hj.2).1
  rw [List.length_cons] at hl
  unfold hf
  cases j with
  | zero =>
    have e : p = x := by simpa using hj.2
    rw [if_neg (by omega), if_pos (by omega)]
    exact e
  | succ m =>
    have hx2 : L[m]? = some x := by
      have := hj.2
      rw [List.getElem?_cons_succ] at this
      exact this
    rw [if_pos (by omega), show ((m + 1 : Nat) : Int) - 1 = (m : Int) by omega]
    exact h m x hx2
theorem erase_at {L : List Int} {p : Int} {i : Nat} (h1 : L[i]? = some p) (h2 : ∀ j, j < i → L[j]? ≠ some p) : L.erase p = L.eraseIdx i := by
  induction L generalizing i with
  | nil => simp at h1
  | cons a l ih =>
    cases i with
    | zero =>
      have e : a = p := by simpa using h1
      subst e
      simp
    | succ m =>
      have hn : ¬ a = p := fun e => h2 0 (by omega) (by simp [e])
      rw [List.erase_cons_tail (by simpa using hn)]
      show a :: l.erase p = a :: l.eraseIdx m
      rw [ih (i := m) (by simpa using h1) (fun j hj => by
        have := h2 (j + 1) (by omega)
        simpa using this)]
