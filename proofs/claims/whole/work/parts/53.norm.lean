theorem rw_n {M : fr_M} {k k' : Nat} {g : Int → Int} {j : Int} (h : k' ≠ k) : rw_ M k g k' j = M k' j := by
  unfold rw_
  rw [if_neg h]
theorem rw_s {M : fr_M} {k : Nat} {g : Int → Int} {j : Int} : rw_ M k g k j = g j := by
  unfold rw_
  rw [if_pos rfl]
def up1 (g : Int → Int) (i v : Int) : Int → Int := fun j => if j = i then v else g j
theorem up1_ {g : Int → Int} {i v j : Int} : up1 g i v j = if j = i then v else g j := rfl
theorem rw_u {M : fr_M} {k : Nat} {g : Int → Int} {i v : Int} : fr_up (rw_ M k g) k i v = rw_ M k (up1 g i v) := rw_up
theorem up_rw {M : fr_M} {k r : Nat} {g : Int → Int} {i v : Int} (h : k ≠ r) : fr_up (rw_ M r g) k i v = rw_ (fr_up M k i v) r g := by
  funext k' j
  unfold fr_up rw_
  by_cases h1 : k' = k
  · subst h1
    simp [h]
  · simp [h1]
theorem up_up {M : fr_M} {k : Nat} {i v w : Int} : fr_up (fr_up M k i v) k i w = fr_up M k i w := by
  funext k' j
  unfold fr_up
  by_cases h1 : k' = k
  · subst h1
    rw [if_pos rfl, if_pos rfl, if_pos rfl]
    split <;> rfl
  · rw [if_neg h1, if_neg h1, if_neg h1]
theorem rw_cm {M : fr_M} {a b : Nat} {ga gb : Int → Int} (h : a < b) : rw_ (rw_ M b gb) a ga = rw_ (rw_ M a ga) b gb := by
  funext k' j
  unfold rw_
  by_cases h1 : k' = a
  · subst h1
    rw [if_pos rfl, if_neg (by omega), if_pos rfl]
  · rw [if_neg h1, if_neg h1]
theorem kp_w {M M' : fr_M} {a : Nat} {g : Int → Int} (h : ∀ k i, rl k i = true → M' k i = M k i) (q : ∀ i, rl a i = false) : ∀ k i, rl k i = true → rw_ M' a g k i = M k i := by
  intro k i hk
  unfold rw_
  split
  · next e => subst e; rw [q i] at hk; cases hk
  · exact h k i hk
theorem q_run {mi : Nat} {scr : Option (Nat × (Int → Int))} {ix : Nat} {ls : fr_L} {st : List fr_V} {sh : fr_H} {M M' : fr_M} {bc bs : Nat} {Q : Option fr_V → fr_H → fr_M → Prop} (h : fr_Run mi scr ix ls st sh M bc bs Q) (e : M = M') : fr_Run mi scr ix ls st sh M' bc bs Q := e ▸ h
