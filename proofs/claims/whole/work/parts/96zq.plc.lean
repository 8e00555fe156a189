def stg (fi pl S : Int → Int) : Nat → Int × Int
  | 0 => (-1, -1)
  | k + 1 => if fi (k : Int) = (k : Int) ∧ pl (k : Int) = 0 ∧ S (k : Int) > (stg fi pl S k).2 then ((k : Int), S (k : Int)) else stg fi pl S k
theorem stg_b {fi pl S : Int → Int} : ∀ k : Nat, (∀ e, 0 ≤ e → e < (k : Int) → 0 ≤ S e) → ((stg fi pl S k).1 = -1 ∧ (stg fi pl S k).2 = -1 ∧ ∀ e, 0 ≤ e → e < (k : Int) → ¬ (fi e = e ∧ pl e = 0)) ∨ ((0 ≤ (stg fi pl S k).1 ∧ (stg fi pl S k).1 < (k : Int)) ∧ fi (stg fi pl S k).1 = (stg fi pl S k).1 ∧ pl (stg fi pl S k).1 = 0 ∧ S (stg fi pl S k).1 = (stg fi pl S k).2)
  | 0, _ => Or.inl ⟨rfl, rfl, fun e e0 e1 => by omega⟩
  | k + 1, hS => by
    have a := stg_b (fi := fi) (pl := pl) (S := S) k (fun e e0 e1 => hS e e0 (by omega))
    have s := hS (k : Int) (by omega) (by omega)
    rw [stg]
    by_cases c : fi (k : Int) = (k : Int) ∧ pl (k : Int) = 0 ∧ S (k : Int) > (stg fi pl S k).2
    · rw [if_pos c]
      exact Or.inr ⟨⟨by omega, by show (k : Int) < _; omega⟩, c.1, c.2.1, rfl⟩
    · rw [if_neg c]
      rcases a with a | a
      · refine Or.inl ⟨a.1, a.2.1, fun e e0 e1 q => ?_⟩
        by_cases ee : e = (k : Int)
        · rw [ee] at q
          exact c ⟨q.1, q.2, by omega⟩
        · exact a.2.2 e e0 (by omega) q
      · exact Or.inr ⟨⟨a.1.1, by omega⟩, a.2⟩
theorem sm_cg {u v : Int → Int} : ∀ k : Nat, (∀ i, 0 ≤ i → i < (k : Int) → u i = v i) → sm u k = sm v k
  | 0, _ => rfl
  | k + 1, h => by
    rw [sm, sm, sm_cg k (fun i i0 i1 => h i i0 (by omega)), h (k : Int) (by omega) (by omega)]
theorem sm_b {u : Int → Int} {B : Int} : ∀ k : Nat, (∀ i, 0 ≤ i → i < (k : Int) → 0 ≤ u i ∧ u i ≤ B) → 0 ≤ sm u k ∧ sm u k ≤ B * (k : Int)
  | 0, _ => by
    rw [sm]
    simp
  | k + 1, h => by
    have a := sm_b k (fun i i0 i1 => h i i0 (by omega))
    have b := h (k : Int) (by omega) (by omega)
    rw [sm, show B * ((k + 1 : Nat) : Int) = B * (k : Int) + B by rw [show ((k + 1 : Nat) : Int) = (k : Int) + 1 by omega, Int.mul_add, Int.mul_one]]
    omega
/-- what is placed, and what is to be placed next -/
def PI (n : Int) (fi fo pr rk : Int → Int) (pd : Nat) (pl : Int → Int) (x : Int) : Prop := (∀ i, 0 ≤ i → i < (pd : Int) → (0 ≤ rk i ∧ rk i < n) ∧ pl (rk i) = 1) ∧ (∀ i j, 0 ≤ i → i < (pd : Int) → 0 ≤ j → j < (pd : Int) → rk i = rk j → i = j) ∧ (∀ y, pl y = 0 ∨ pl y = 1) ∧ (∀ F : Int → Int, sm (fun i => F (rk i)) pd = sm (fun k => if pl k = 1 then F k else 0) n.toNat) ∧ (∀ y, 0 ≤ y → y < n → pl y = 1 → pr y = -1 ∨ pl (pr y) = 1) ∧ (∀ y, 0 ≤ y → y < n → pl y = 1 → fo y = -1 ∨ pl (fo y) = 1 ∨ fo y = x) ∧ (x = -1 ∨ ((0 ≤ x ∧ x < n) ∧ pl x = 0 ∧ (pr x = -1 ∨ pl (pr x) = 1))) ∧ (pd = 0 → x = 0) ∧ (pd ≠ 0 → rk 0 = 0)
theorem PI.cnt {n : Int} {fi fo pr rk : Int → Int} {pd : Nat} {pl : Int → Int} {x : Int} (h : PI n fi fo pr rk pd pl x) : sm pl n.toNat = (pd : Int) := by
  have a := h.2.2.2.1 (fun _ => 1)
  have b : ∀ k : Nat, sm (fun i => (fun _ => (1 : Int)) (rk i)) k = (k : Int) := by
    intro k
    induction k with
    | zero => rfl
    | succ k ih =>
      rw [sm, ih]
      show (k : Int) + 1 = _
      omega
  rw [b pd] at a
  rw [a]
  refine sm_cg n.toNat (fun i i0 i1 => ?_)
  have := h.2.2.1 i
  split <;> omega
theorem PI.lt {n : Int} {fi fo pr rk : Int → Int} {pd : Nat} {pl : Int → Int} {x : Int} (hn : 0 ≤ n) (h : PI n fi fo pr rk pd pl x) : (pd : Int) ≤ n ∧ (x ≠ -1 → (pd : Int) < n) := by
  have a := h.cnt
  have b := sm_full h.2.2.1 n.toNat
  refine ⟨by omega, fun hx => ?_⟩
  have c := h.2.2.2.2.2.2.1
  apply Classical.byContradiction
  intro q
  have d := b.2 (by omega)
  rcases c with c | c
  · exact hx c
  · have := d x c.1.1 (by omega)
    omega
theorem PI.place {n : Int} {fi fo pr rk : Int → Int} {pd : Nat} {pl : Int → Int} {x : Int} (hJ : JI n fi fo pr) (h : PI n fi fo pr rk pd pl x) (hx : x ≠ -1) : PI n fi fo pr (up1 rk (pd : Int) x) (pd + 1) (up1 pl x 1) (fo x) := by
  obtain ⟨h1, h2, h3, h4, h5, h6, h7, h8, h9⟩ := h
  have h7 : (0 ≤ x ∧ x < n) ∧ pl x = 0 ∧ (pr x = -1 ∨ pl (pr x) = 1) := by
    rcases h7 with q | q
    · exact absurd q hx
    · exact q
  obtain ⟨J1, J2, J3, J4, J5, dp, J6⟩ := hJ
  have rne : ∀ i, 0 ≤ i → i < (pd : Int) → rk i ≠ x := fun i i0 i1 q => by
    have := (h1 i i0 i1).2
    rw [q] at this
    omega
  have one : ∀ y, pl y = 1 → up1 pl x 1 y = 1 := fun y q => by
    rw [up1_]
    split
    · rfl
    · exact q
  have hfx := J2 x h7.1.1 h7.1.2
  have nx : fo x ≠ -1 → fo x ≠ x := fun q z => by
    rcases hfx with c | c
    · exact q c
    · have p : pr x = x := by
        have := c.2.2
        rw [z] at this
        exact this
      have := (J6 x h7.1.1 h7.1.2).2 (by rw [p]; omega)
      rw [p] at this
      omega
  refine ⟨fun i i0 i1 => ?_, fun i j i0 i1 j0 j1 e => ?_, fun y => ?_, fun F => ?_, fun y y0 y1 q => ?_, fun y y0 y1 q => ?_, ?_, fun q => by omega, fun _ => ?_⟩
  · rw [up1_]
    by_cases e : i = (pd : Int)
    · rw [if_pos e]
      exact ⟨h7.1, by rw [up1_, if_pos rfl]⟩
    · rw [if_neg e]
      have := h1 i i0 (by omega)
      exact ⟨this.1, one _ this.2⟩
  · rw [up1_, up1_] at e
    by_cases a : i = (pd : Int)
    · rw [if_pos a] at e
      by_cases b : j = (pd : Int)
      · omega
      · rw [if_neg b] at e
        exact absurd e.symm (rne j j0 (by omega))
    · rw [if_neg a] at e
      by_cases b : j = (pd : Int)
      · rw [if_pos b] at e
        exact absurd e (rne i i0 (by omega))
      · rw [if_neg b] at e
        exact h2 i j i0 (by omega) j0 (by omega) e
  · rw [up1_]
    split
    · exact Or.inr rfl
    · exact h3 y
  · have a := h4 F
    rw [sm, sm_cg (u := fun i => F (up1 rk (pd : Int) x i)) (v := fun i => F (rk i)) pd (fun i i0 i1 => by
      show F (up1 rk (pd : Int) x i) = F (rk i)
      rw [up1_, if_neg (by omega)]), a]
    have e : (fun k => if up1 pl x 1 k = 1 then F k else 0) = up1 (fun k => if pl k = 1 then F k else 0) x (F x) := by
      funext k
      rw [up1_, up1_]
      by_cases c : k = x
      · rw [if_pos c, if_pos c, if_pos rfl, c]
      · rw [if_neg c, if_neg c]
    rw [e, sm_up, if_pos (by omega), if_neg (by omega)]
    show _ + F (up1 rk (pd : Int) x (pd : Int)) = _
    rw [up1_, if_pos rfl]
    omega
  · by_cases e : y = x
    · rw [e]
      rcases h7.2.2 with c | c
      · exact Or.inl c
      · exact Or.inr (one _ c)
    · rw [up1_, if_neg e] at q
      rcases h5 y y0 y1 q with c | c
      · exact Or.inl c
      · exact Or.inr (one _ c)
  · by_cases e : y = x
    · rw [e]
      exact Or.inr (Or.inr rfl)
    · rw [up1_, if_neg e] at q
      rcases h6 y y0 y1 q with c | c | c
      · exact Or.inl c
      · exact Or.inr (Or.inl (one _ c))
      · refine Or.inr (Or.inl ?_)
        rw [c, up1_, if_pos rfl]
  · rcases hfx with c | c
    · exact Or.inl c
    · refine Or.inr ⟨⟨c.1, c.2.1⟩, ?_, Or.inr ?_⟩
      · rw [up1_, if_neg (nx (by omega))]
        apply Classical.byContradiction
        intro q
        have q1 : pl (fo x) = 1 := by
          have := h3 (fo x)
          omega
        have := h5 (fo x) c.1 c.2.1 q1
        rw [c.2.2] at this
        omega
      · rw [c.2.2, up1_, if_pos rfl]
  · rw [up1_]
    by_cases e : (0 : Int) = (pd : Int)
    · rw [if_pos e]
      exact h8 (by omega)
    · rw [if_neg e]
      exact h9 (by omega)
theorem PI.head {n : Int} {fi fo pr rk : Int → Int} {pd : Nat} {pl : Int → Int} (hJ : JI n fi fo pr) (h : PI n fi fo pr rk pd pl (-1)) : ∀ (d : Nat) (y : Int) (dp : Int → Nat), (∀ j, 0 ≤ j → j < n → (pr j = -1 → dp j = 0) ∧ (pr j ≠ -1 → dp j = dp (pr j) + 1)) → dp y = d → 0 ≤ y → y < n → pl y = pl (fi y)
  | 0, y, dp, hd, e, y0, y1 => by
    have hp : pr y = -1 := by
      apply Classical.byContradiction
      intro q
      have := (hd y y0 y1).2 q
      omega
    rw [(hJ.2.2.2.1 y y0 y1).mpr hp]
  | d + 1, y, dp, hd, e, y0, y1 => by
    have hp : pr y ≠ -1 := by
      intro q
      have := (hd y y0 y1).1 q
      omega
    have c : 0 ≤ pr y ∧ pr y < n ∧ fo (pr y) = y ∧ fi y = fi (pr y) := by
      rcases hJ.2.2.1 y y0 y1 with c | c
      · exact absurd c hp
      · exact c
    have ih := PI.head hJ h d (pr y) dp hd (by have := (hd y y0 y1).2 hp; omega) c.1 c.2.1
    rw [c.2.2.2, ← ih]
    have a := h.2.2.1 y
    have b := h.2.2.1 (pr y)
    have u := h.2.2.2.2.1 y y0 y1
    have v := h.2.2.2.2.2.1 (pr y) c.1 c.2.1
    rw [c.2.2.1] at v
    omega
theorem PI.all {n : Int} {fi fo pr rk S : Int → Int} {pd : Nat} {pl : Int → Int} (hn : 0 < n) (hJ : JI n fi fo pr) (h : PI n fi fo pr rk pd pl (-1)) (hS : ∀ e, 0 ≤ e → e < n → 0 ≤ S e) (hs : (stg fi pl S n.toNat).1 = -1) : (pd : Int) = n ∧ Pm n rk := by
  have key : ∀ y, 0 ≤ y → y < n → pl y = 1 := by
    intro y y0 y1
    have hJ' := hJ
    obtain ⟨J1, J2, J3, J4, J5, dp, J6⟩ := hJ'
    have a := PI.head hJ h (dp y) y dp J6 rfl y0 y1
    have b := J1 y y0 y1
    rcases stg_b (fi := fi) (pl := pl) (S := S) n.toNat (fun e e0 e1 => hS e e0 (by omega)) with c | c
    · have := c.2.2 (fi y) b.1 (by omega)
      have := h.2.2.1 (fi y)
      have := b.2.2
      omega
    · omega
  have c := h.cnt
  have d : sm pl n.toNat = n := by
    have e : ∀ k : Nat, (k : Int) ≤ n → sm pl k = (k : Int) := by
      intro k
      induction k with
      | zero => intro _; rfl
      | succ k ih =>
        intro hk
        rw [sm, ih (by omega), key (k : Int) (by omega) (by omega)]
        omega
    rw [e n.toNat (by omega)]
    omega
  have e : (pd : Int) = n := by omega
  refine ⟨e, h.2.2.2.2.2.2.2.2 (by omega), fun i i0 i1 => (h.1 i i0 (by omega)).1, fun i j i0 i1 j0 j1 q => h.2.1 i j i0 (by omega) j0 (by omega) q⟩
theorem PI.pick {n : Int} {fi fo pr rk S : Int → Int} {pd : Nat} {pl : Int → Int} (hn : 0 < n) (hJ : JI n fi fo pr) (h : PI n fi fo pr rk pd pl (-1)) (hS : ∀ e, 0 ≤ e → e < n → 0 ≤ S e) (hs : (stg fi pl S n.toNat).1 ≠ -1) : PI n fi fo pr rk pd pl (stg fi pl S n.toNat).1 := by
  obtain ⟨h1, h2, h3, h4, h5, h6, h7, h8, h9⟩ := h
  rcases stg_b (fi := fi) (pl := pl) (S := S) n.toNat (fun e e0 e1 => hS e e0 (by omega)) with c | c
  · exact absurd c.1 hs
  · have hp := (hJ.2.2.2.1 (stg fi pl S n.toNat).1 c.1.1 (by omega)).mp c.2.1
    refine ⟨h1, h2, h3, h4, h5, fun y y0 y1 q => ?_, Or.inr ⟨⟨c.1.1, by omega⟩, c.2.2.1, Or.inl hp⟩, fun q => ?_, h9⟩
    · rcases h6 y y0 y1 q with d | d | d
      · exact Or.inl d
      · exact Or.inr (Or.inl d)
      · exact Or.inl d
    · have := h8 q
      omega
/-- how the places are filled, from a state on -/
def PRn (n : Int) (fi fo : Int → Int) (L : Int → Int → Int) : Nat → (Int → Int) → Nat → (Int → Int) → Int → (Int → Int) → Prop
  | 0, rk, pd, pl, x, rk' => x = -1 ∧ (stg fi pl (fun z => sm (fun i => L (rk i) z) pd) n.toNat).1 = -1 ∧ ∀ a, 0 ≤ a → a < n → rk' a = rk a
  | k + 1, rk, pd, pl, x, rk' => (x ≠ -1 ∧ PRn n fi fo L k (up1 rk (pd : Int) x) (pd + 1) (up1 pl x 1) (fo x) rk') ∨ (x = -1 ∧ (stg fi pl (fun z => sm (fun i => L (rk i) z) pd) n.toNat).1 ≠ -1 ∧ PRn n fi fo L k rk pd pl (stg fi pl (fun z => sm (fun i => L (rk i) z) pd) n.toNat).1 rk')
theorem PI.zero {n : Int} {fi fo pr rk : Int → Int} (hn : 0 < n) (hJ : JI n fi fo pr) : PI n fi fo pr rk 0 (fun _ => 0) 0 := by
  refine ⟨fun i i0 i1 => by omega, fun i j i0 i1 => by omega, fun y => Or.inl rfl, fun F => ?_, fun y y0 y1 q => ?_, fun y y0 y1 q => ?_, Or.inr ⟨by omega, rfl, Or.inl hJ.2.2.2.2.1⟩, fun _ => rfl, fun q => absurd rfl q⟩
  · have : ∀ k : Nat, sm (fun k => if (0 : Int) = 1 then F k else 0) k = 0 := by
      intro k
      induction k with
      | zero => rfl
      | succ k ih =>
        rw [sm, ih, if_neg (by omega)]
        rfl
    exact (this n.toNat).symm
  · have q : (0 : Int) = 1 := q
    omega
  · have q : (0 : Int) = 1 := q
    omega
