/-- what a way of a block counts for joining: edge 2 i + w -/
def pul (M : fr_M) (r e : Int) : Int := if M 82 (M 77 (9 * r + e / 2)) = 3 ∨ (e % 2 = 0 ∧ (M 82 (M 77 (9 * r + e / 2)) = 2 ∨ M 82 (M 77 (9 * r + e / 2)) = 5 ∨ M 82 (M 77 (9 * r + e / 2)) = 6)) then M 85 (4 * M 77 (9 * r + e / 2) + e % 2) else 0
def tgt (M : fr_M) (r e : Int) : Int := M 5 (M 84 (4 * M 77 (9 * r + e / 2) + e % 2))
def siz (pu us : Int → Int) (e : Int) : Int := if us e ≠ 0 then 0 else pu e
def grt (pu us : Int → Int) : Nat → Int × Int
  | 0 => (-1, 0)
  | k + 1 => if siz pu us (k : Int) > (grt pu us k).2 then ((k : Int), siz pu us (k : Int)) else grt pu us k
theorem grt_b {pu us : Int → Int} : ∀ k : Nat, ((grt pu us k).1 = -1 ∧ (grt pu us k).2 = 0 ∧ ∀ e, 0 ≤ e → e < (k : Int) → siz pu us e ≤ 0) ∨ ((0 ≤ (grt pu us k).1 ∧ (grt pu us k).1 < (k : Int)) ∧ us (grt pu us k).1 = 0 ∧ pu (grt pu us k).1 = (grt pu us k).2 ∧ 0 < (grt pu us k).2)
  | 0 => Or.inl ⟨rfl, rfl, fun e e0 e1 => by omega⟩
  | k + 1 => by
    have a := grt_b (pu := pu) (us := us) k
    rw [grt]
    by_cases c : siz pu us (k : Int) > (grt pu us k).2
    · rw [if_pos c]
      have hp : 0 < siz pu us (k : Int) := by
        rcases a with a | a <;> omega
      have hu : us (k : Int) = 0 := by
        apply Classical.byContradiction
        intro q
        unfold siz at hp
        rw [if_pos q] at hp
        omega
      refine Or.inr ⟨⟨by omega, by show (k : Int) < _; omega⟩, hu, ?_, hp⟩
      show pu (k : Int) = siz pu us (k : Int)
      unfold siz
      rw [if_neg (by omega)]
    · rw [if_neg c]
      rcases a with a | a
      · refine Or.inl ⟨a.1, a.2.1, fun e e0 e1 => ?_⟩
        by_cases ee : e = (k : Int)
        · rw [ee]
          omega
        · exact a.2.2 e e0 (by omega)
      · exact Or.inr ⟨⟨a.1.1, by omega⟩, a.2⟩
def jn (fi fo pr : Int → Int) (a b : Int) : (Int → Int) × (Int → Int) × (Int → Int) := if b = 0 ∨ fo a ≠ -1 ∨ fi b ≠ b ∨ fi a = b then (fi, fo, pr) else ((fun i => if fi i = b then fi a else fi i), up1 fo a b, up1 pr b a)
def JI (n : Int) (fi fo pr : Int → Int) : Prop := (∀ i, 0 ≤ i → i < n → 0 ≤ fi i ∧ fi i < n ∧ fi (fi i) = fi i) ∧ (∀ i, 0 ≤ i → i < n → fo i = -1 ∨ (0 ≤ fo i ∧ fo i < n ∧ pr (fo i) = i)) ∧ (∀ j, 0 ≤ j → j < n → pr j = -1 ∨ (0 ≤ pr j ∧ pr j < n ∧ fo (pr j) = j ∧ fi j = fi (pr j))) ∧ (∀ j, 0 ≤ j → j < n → (fi j = j ↔ pr j = -1)) ∧ pr 0 = -1 ∧ (∃ dp : Int → Nat, ∀ j, 0 ≤ j → j < n → (pr j = -1 → dp j = 0) ∧ (pr j ≠ -1 → dp j = dp (pr j) + 1))
theorem JI.step {n : Int} {fi fo pr : Int → Int} (h : JI n fi fo pr) {a b : Int} (ha : 0 ≤ a ∧ a < n) (hb : 0 ≤ b ∧ b < n) : JI n (jn fi fo pr a b).1 (jn fi fo pr a b).2.1 (jn fi fo pr a b).2.2 := by
  unfold jn
  by_cases c : b = 0 ∨ fo a ≠ -1 ∨ fi b ≠ b ∨ fi a = b
  · rw [if_pos c]
    exact h
  · rw [if_neg c]
    obtain ⟨A, B, C, D, E, dp, F⟩ := h
    have c1 : b ≠ 0 := fun q => c (Or.inl q)
    have c2 : fo a = -1 := Classical.byContradiction (fun q => c (Or.inr (Or.inl q)))
    have c3 : fi b = b := Classical.byContradiction (fun q => c (Or.inr (Or.inr (Or.inl q))))
    have c4 : fi a ≠ b := fun q => c (Or.inr (Or.inr (Or.inr q)))
    have pb : pr b = -1 := (D b hb.1 hb.2).mp c3
    have fa := A a ha.1 ha.2
    have nb : ∀ i, 0 ≤ i → i < n → fo i ≠ b := fun i i0 i1 q => by
      rcases B i i0 i1 with x | x
      · omega
      · rw [q, pb] at x
        omega
    refine ⟨fun i i0 i1 => ?_, fun i i0 i1 => ?_, fun j j0 j1 => ?_, fun j j0 j1 => ?_, ?_, fun j => if fi j = b then dp j + dp a + 1 else dp j, fun j j0 j1 => ⟨fun hp => ?_, fun hp => ?_⟩⟩
    · have x := A i i0 i1
      show 0 ≤ (if fi i = b then fi a else fi i) ∧ (if fi i = b then fi a else fi i) < n ∧ (if fi (if fi i = b then fi a else fi i) = b then fi a else fi (if fi i = b then fi a else fi i)) = (if fi i = b then fi a else fi i)
      by_cases e : fi i = b
      · rw [if_pos e, fa.2.2, if_neg c4]
        omega
      · rw [if_neg e, x.2.2, if_neg e]
        omega
    · show up1 fo a b i = -1 ∨ (0 ≤ up1 fo a b i ∧ up1 fo a b i < n ∧ up1 pr b a (up1 fo a b i) = i)
      rw [up1_]
      by_cases e : i = a
      · rw [if_pos e, up1_, if_pos rfl]
        omega
      · rw [if_neg e]
        rcases B i i0 i1 with x | x
        · exact Or.inl x
        · rw [up1_, if_neg (nb i i0 i1)]
          exact Or.inr x
    · show up1 pr b a j = -1 ∨ (0 ≤ up1 pr b a j ∧ up1 pr b a j < n ∧ up1 fo a b (up1 pr b a j) = j ∧ (if fi j = b then fi a else fi j) = (if fi (up1 pr b a j) = b then fi a else fi (up1 pr b a j)))
      rw [up1_]
      by_cases e : j = b
      · rw [if_pos e, up1_, if_pos rfl, e, if_pos c3, if_neg c4]
        exact Or.inr ⟨ha.1, ha.2, rfl, rfl⟩
      · rw [if_neg e]
        rcases C j j0 j1 with x | x
        · exact Or.inl x
        · have na : pr j ≠ a := fun q => by
            rw [q, c2] at x
            omega
          rw [up1_, if_neg na, ← x.2.2.2]
          exact Or.inr ⟨x.1, x.2.1, x.2.2.1, rfl⟩
    · show (if fi j = b then fi a else fi j) = j ↔ up1 pr b a j = -1
      rw [up1_]
      have x := D j j0 j1
      by_cases e : j = b
      · rw [if_pos e, e, if_pos c3]
        constructor
        · intro q
          exact absurd q c4
        · intro q
          omega
      · rw [if_neg e]
        by_cases e2 : fi j = b
        · rw [if_pos e2]
          have hne : fi j ≠ j := fun q => e (by rw [← q]; exact e2)
          constructor
          · intro q
            exfalso
            have y := fa.2.2
            rw [q] at y
            exact hne y
          · intro q
            exact absurd (x.mpr q) hne
        · rw [if_neg e2]
          exact x
    · show up1 pr b a 0 = -1
      rw [up1_, if_neg (by omega)]
      exact E
    · show (if fi j = b then dp j + dp a + 1 else dp j) = 0
      have hp : up1 pr b a j = -1 := hp
      rw [up1_] at hp
      by_cases e : j = b
      · rw [if_pos e] at hp
        omega
      · rw [if_neg e] at hp
        have y := (D j j0 j1).mpr hp
        rw [if_neg (by omega)]
        exact (F j j0 j1).1 hp
    · show (if fi j = b then dp j + dp a + 1 else dp j) = (if fi (up1 pr b a j) = b then dp (up1 pr b a j) + dp a + 1 else dp (up1 pr b a j)) + 1
      have hp : up1 pr b a j ≠ -1 := hp
      rw [up1_] at hp ⊢
      by_cases e : j = b
      · rw [if_pos e, if_neg c4, e, if_pos c3]
        have y := (F b hb.1 hb.2).1 pb
        omega
      · rw [if_neg e] at hp ⊢
        have y := (F j j0 j1).2 hp
        rcases C j j0 j1 with x | x
        · exact absurd x hp
        · rw [← x.2.2.2]
          split <;> omega
abbrev JS : Type := (Int → Int) × (Int → Int) × (Int → Int) × (Int → Int)
def jstep (pu tg : Int → Int) (m : Nat) (s : JS) : JS := if (grt pu s.2.2.2 m).1 = -1 then s else ((jn s.1 s.2.1 s.2.2.1 ((grt pu s.2.2.2 m).1 / 2) (tg (grt pu s.2.2.2 m).1)).1, (jn s.1 s.2.1 s.2.2.1 ((grt pu s.2.2.2 m).1 / 2) (tg (grt pu s.2.2.2 m).1)).2.1, (jn s.1 s.2.1 s.2.2.1 ((grt pu s.2.2.2 m).1 / 2) (tg (grt pu s.2.2.2 m).1)).2.2, up1 s.2.2.2 (grt pu s.2.2.2 m).1 1)
def jrun (pu tg : Int → Int) (m : Nat) : Nat → JS
  | 0 => ((fun i => i), (fun _ => -1), (fun _ => -1), (fun _ => 0))
  | k + 1 => jstep pu tg m (jrun pu tg m k)
theorem jrun_fix {pu tg : Int → Int} {m k : Nat} (h : (grt pu (jrun pu tg m k).2.2.2 m).1 = -1) : ∀ t : Nat, jrun pu tg m (k + t) = jrun pu tg m k
  | 0 => rfl
  | t + 1 => by
    have a := jrun_fix h t
    rw [← Nat.add_assoc, jrun, a, jstep, if_pos h]
theorem jrun_ji {pu tg : Int → Int} {n : Int} {m : Nat} (hm : (m : Int) = 2 * n) (ht : ∀ e, 0 ≤ e → e < (m : Int) → 0 < pu e → 0 ≤ tg e ∧ tg e < n) : ∀ k : Nat, JI n (jrun pu tg m k).1 (jrun pu tg m k).2.1 (jrun pu tg m k).2.2.1
  | 0 => by
    refine ⟨fun i i0 i1 => ⟨i0, i1, rfl⟩, fun i _ _ => Or.inl rfl, fun i _ _ => Or.inl rfl, fun j _ _ => ⟨fun _ => rfl, fun _ => rfl⟩, rfl, fun _ => 0, fun j _ _ => ⟨fun _ => rfl, fun q => absurd rfl q⟩⟩
  | k + 1 => by
    have a := jrun_ji hm ht k
    rw [jrun, jstep]
    rcases grt_b (pu := pu) (us := (jrun pu tg m k).2.2.2) m with c | c
    · rw [if_pos c.1]
      exact a
    · rw [if_neg (by omega)]
      have t := ht (grt pu (jrun pu tg m k).2.2.2 m).1 c.1.1 c.1.2 (by omega)
      exact a.step (by omega) t
/-- sums -/
def sm (u : Int → Int) : Nat → Int
  | 0 => 0
  | k + 1 => sm u k + u (k : Int)
theorem sm_up {u : Int → Int} {e v : Int} : ∀ k : Nat, sm (up1 u e v) k = sm u k + (if 0 ≤ e ∧ e < (k : Int) then v - u e else 0)
  | 0 => by
    rw [sm, sm, if_neg (by omega)]
    rfl
  | k + 1 => by
    have a := sm_up (u := u) (e := e) (v := v) k
    rw [sm, sm, a, up1_]
    by_cases c : (k : Int) = e
    · rw [if_pos c, if_neg (by omega), if_pos (by omega), c]
      omega
    · rw [if_neg c]
      by_cases d : 0 ≤ e ∧ e < (k : Int)
      · rw [if_pos d, if_pos (by omega)]
        omega
      · rw [if_neg d, if_neg (by omega)]
        omega
theorem sm_full {u : Int → Int} (h : ∀ e, u e = 0 ∨ u e = 1) : ∀ k : Nat, sm u k ≤ (k : Int) ∧ (sm u k = (k : Int) → ∀ e, 0 ≤ e → e < (k : Int) → u e = 1)
  | 0 => ⟨Int.le_refl 0, fun _ e e0 e1 => by omega⟩
  | k + 1 => by
    have a := sm_full h k
    have b := h (k : Int)
    rw [sm]
    refine ⟨by omega, fun q e e0 e1 => ?_⟩
    by_cases c : e = (k : Int)
    · rw [c]
      omega
    · exact a.2 (by omega) e e0 (by omega)
theorem jrun_us {pu tg : Int → Int} {m : Nat} : ∀ k : Nat, (∀ e, (jrun pu tg m k).2.2.2 e = 0 ∨ (jrun pu tg m k).2.2.2 e = 1) ∧ ((grt pu (jrun pu tg m k).2.2.2 m).1 = -1 ∨ sm (jrun pu tg m k).2.2.2 m = (k : Int))
  | 0 => by
    refine ⟨fun e => Or.inl rfl, Or.inr ?_⟩
    have : ∀ j : Nat, sm (fun _ => 0) j = 0 := by
      intro j
      induction j with
      | zero => rfl
      | succ j ih => rw [sm, ih]; rfl
    exact this m
  | k + 1 => by
    have a := jrun_us (pu := pu) (tg := tg) (m := m) k
    by_cases c : (grt pu (jrun pu tg m k).2.2.2 m).1 = -1
    · rw [jrun, jstep, if_pos c]
      exact ⟨a.1, Or.inl c⟩
    · rcases grt_b (pu := pu) (us := (jrun pu tg m k).2.2.2) m with d | d
      · exact absurd d.1 c
      · have b : sm (jrun pu tg m k).2.2.2 m = (k : Int) := by
          rcases a.2 with x | x
          · exact absurd x c
          · exact x
        rw [jrun, jstep, if_neg c]
        refine ⟨fun e => ?_, Or.inr ?_⟩
        · show up1 _ _ 1 e = 0 ∨ up1 _ _ 1 e = 1
          rw [up1_]
          split
          · exact Or.inr rfl
          · exact a.1 e
        · show sm (up1 _ _ 1) m = _
          rw [sm_up, if_pos d.1, d.2.1, b]
          omega
theorem jrun_end {pu tg : Int → Int} {m : Nat} : (grt pu (jrun pu tg m m).2.2.2 m).1 = -1 := by
  have a := jrun_us (pu := pu) (tg := tg) (m := m) m
  rcases a.2 with x | x
  · exact x
  · have b := (sm_full a.1 m).2 x
    rcases grt_b (pu := pu) (us := (jrun pu tg m m).2.2.2) m with d | d
    · exact d.1
    · have := b _ d.1.1 d.1.2
      omega
theorem jrun_at {pu tg : Int → Int} {m k : Nat} (hk : k ≤ m) (h : (grt pu (jrun pu tg m k).2.2.2 m).1 = -1) : jrun pu tg m m = jrun pu tg m k := by
  have := jrun_fix h (m - k)
  rw [show k + (m - k) = m by omega] at this
  exact this
