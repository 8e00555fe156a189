/-! ===== the real heap that holds the machine's rows ===== -/
abbrev fr_G : Type := Nat × Nat × va_G × (Nat → ClassId)
def fr_rv (G : fr_G) (v : fr_V) : Value := match v with
  | .inl x => .int (Int32.ofInt x)
  | .inr (.inl k) => .ref (G.1 + k)
  | .inr (.inr (.inl l)) => .long l
  | .inr (.inr (.inr _)) => .ref G.2.1
def fr_ok (v : fr_V) : Prop := match v with
  | .inl x => fr_in x
  | _ => True
def fr_fv (G : fr_G) (fs : fr_F) (f : Int → Int) (j : Nat) : Value := match fs[j]? with
  | some (some none) => .null
  | some (some (some q)) => .ref (G.1 + q)
  | _ => .int (Int32.ofInt (f (j : Int)))
def fr_aty (t : Nat) : FieldType := match t with
  | 0 => .int
  | 1 => .boolean
  | _ => .byte
def fr_row (G : fr_G) (t n : Nat) (f : Int → Int) : Cell := arrV (G.2.2.2 t) n (fun j => .int (Int32.ofInt (f (j : Int))))
def fr_at (G : fr_G) (k : Nat) (cell : (Nat × Nat) ⊕ (Nat × fr_F)) (f : Int → Int) (H : Heap) : Prop := match cell with
  | .inl (t, n) => n < 2147483648 ∧ t ≤ 2 ∧ H[G.1 + k]? = some (fr_row G t n f)
  | .inr (ci, fs) => ∃ r : vw_C, vwCl[ci]? = some r ∧ fs.length = r.2.2 ∧ t_OB (G.1 + k) (G.2.2.1.1 ci) r.2.2 (G.2.2.1.2 ci) H (fr_fv G fs f)
theorem fr_at.kept {G : fr_G} {k : Nat} {cell : (Nat × Nat) ⊕ (Nat × fr_F)} {f g : Int → Int} {H H1 : Heap} (h : fr_at G k cell f H) (e : H1[G.1 + k]? = H[G.1 + k]?) (hf : f = g) : fr_at G k cell g H1 := by
  subst hf
  cases cell with
  | inl q => exact ⟨h.1, h.2.1, by rw [e]; exact h.2.2⟩
  | inr q =>
    obtain ⟨r, h1, h2, h3⟩ := h
    exact ⟨r, h1, h2, h3.kept e⟩
def fr_P (G : fr_G) (sh : fr_H) (M : fr_M) (H : Heap) : Prop := H.size = G.1 + sh.length ∧ ∀ (k : Nat) (cell : (Nat × Nat) ⊕ (Nat × fr_F)), sh[k]? = some cell → fr_at G k cell (M k) H
def fr_KK (G : fr_G) (s : State) : Prop := va_K G.2.2.1 vwCl [(G.2.2.2 0, .int), (G.2.2.2 1, .boolean), (G.2.2.2 2, .byte)] s
theorem fr_KK.arr {G : fr_G} {s : State} (h : fr_KK G s) {t : Nat} (ht : t ≤ 2) : ArrOfT s (G.2.2.2 t) (fr_aty t) := by
  rcases (show t = 0 ∨ t = 1 ∨ t = 2 by omega) with rfl | rfl | rfl
  · exact (h.2 0 _ rfl).1
  · exact (h.2 1 _ rfl).1
  · exact (h.2 2 _ rfl).1
def fr_LL (G : fr_G) (ls : fr_L) (ls' : Array Slot) (nL : Nat) : Prop := ls.length = nL ∧ ls'.size = nL ∧ lv_wf ls' ∧ ∀ (i : Nat) (v : fr_V), ls[i]? = some (some v) → ls'[i]? = some (.val (fr_rv G v))
/-- the locals as the kit lists them -/
def fr_lst (G : fr_G) (ls : fr_L) : List (Nat × Value) := (List.range ls.length).filterMap (fun i => match ls[i]? with
  | some (some v) => some (i, fr_rv G v)
  | _ => none)
theorem fr_lst_in {G : fr_G} {ls : fr_L} {q : Nat × Value} : q ∈ fr_lst G ls ↔ ∃ v, ls[q.1]? = some (some v) ∧ q.2 = fr_rv G v := by
  unfold fr_lst
  rw [List.mem_filterMap]
  constructor
  · rintro ⟨i, hi, h⟩
    split at h
    · next v hv =>
      cases h
      exact ⟨v, hv, rfl⟩
    · cases h
  · rintro ⟨v, hv, e⟩
    refine ⟨q.1, List.mem_range.mpr (List.getElem?_eq_some_iff.mp hv).1, ?_⟩
    rw [hv]
    show some (q.1, fr_rv G v) = some q
    rw [← e]
theorem fr_LL.has {G : fr_G} {ls : fr_L} {ls' : Array Slot} {nL : Nat} (h : fr_LL G ls ls' nL) : lv_has ls' nL (fr_lst G ls) := ⟨h.2.1, h.2.2.1, fun q hq => by
  obtain ⟨v, hv, e⟩ := fr_lst_in.mp hq
  rw [e]
  exact h.2.2.2 _ _ hv⟩
theorem fr_sk_e {ls : fr_L} {i : Nat} (h : fr_sk ls i = true) : i < ls.length ∧ ∀ (j : Nat) (x : Int64), j + 1 = i → ls[j]? = some (some (.inr (.inr (.inl x)))) → False := by
  unfold fr_sk at h
  rw [Bool.and_eq_true] at h
  refine ⟨Nat.blt_eq.mp h.1, fun j x e hj => ?_⟩
  subst e
  have h2 := h.2
  simp only [fr_nth_eq, hj] at h2
  cases h2
theorem fr_cat_rv (G : fr_G) (v : fr_V) : (fr_rv G v).category = fr_cat v := by
  rcases v with x | k | l | u <;> rfl
/-- a local is written -/
theorem fr_LL.set {G : fr_G} {ls : fr_L} {ls' ls2 : Array Slot} {nL i : Nat} {v : fr_V} (h : fr_LL G ls ls' nL) (hk : fr_sk ls i = true) (h2 : lv_has ls2 nL ((i, fr_rv G v) :: (fr_lst G ls).filter (fun q => !(q.1 == i) && !(q.1 + 1 == i && q.2.category == 2)))) : fr_LL G (fr_stn ls i (some v)) ls2 nL := by
  obtain ⟨hi, hl⟩ := fr_sk_e hk
  rw [fr_stn_eq]
  refine ⟨by rw [List.length_set]; exact h.1, h2.1, h2.2.1, fun j w hj => ?_⟩
  by_cases e : i = j
  · subst e
    rw [List.getElem?_set_self hi] at hj
    cases hj
    exact h2.2.2 (i, fr_rv G v) List.mem_cons_self
  · rw [List.getElem?_set_ne e] at hj
    refine h2.2.2 (j, fr_rv G w) (List.mem_cons_of_mem _ (List.mem_filter.mpr ⟨fr_lst_in.mpr ⟨w, hj, rfl⟩, ?_⟩))
    have e1 : (j == i) = false := by simp; omega
    by_cases e2 : j + 1 = i
    · have e3 : ((fr_rv G w).category == 2) = false := by
        rw [fr_cat_rv]
        rcases w with x | k | l | u
        · rfl
        · rfl
        · exact (hl j l e2 hj).elim
        · rfl
      simp [e1, e3]
    · have e4 : (j + 1 == i) = false := by simp; omega
      simp [e1, e4]
def fr_S (nL : Nat) (R : Room) (s : State) (G : fr_G) (ls : fr_L) (st : List fr_V) (sh : fr_H) (M : fr_M) (bc bs : Nat) (ls' : Array Slot) (H : Heap) (locs : List Loc) (cells slots : Nat) : Prop :=
  fr_LL G ls ls' nL ∧ (∀ v, some v ∈ ls → fr_ok v) ∧ (∀ v ∈ st, fr_ok v) ∧ (∀ k i, fr_in (M k i)) ∧ fr_P G sh M H ∧ va_S (fun q => G.1 ≤ q) s.heap H locs ∧ cells + bc ≤ R.cells ∧ slots + bs ≤ R.slots
theorem fr_S.stk {nL : Nat} {R : Room} {s : State} {G : fr_G} {ls : fr_L} {st st2 : List fr_V} {sh : fr_H} {M : fr_M} {bc bs : Nat} {ls' : Array Slot} {H : Heap} {locs : List Loc} {cells slots : Nat} (h : fr_S nL R s G ls st sh M bc bs ls' H locs cells slots) (h2 : ∀ v ∈ st2, fr_ok v) : fr_S nL R s G ls st2 sh M bc bs ls' H locs cells slots := ⟨h.1, h.2.1, h2, h.2.2.2⟩
theorem fr_S.loc {nL : Nat} {R : Room} {s : State} {G : fr_G} {ls : fr_L} {st st2 : List fr_V} {sh : fr_H} {M : fr_M} {bc bs i : Nat} {v : fr_V} {ls' ls2 : Array Slot} {H : Heap} {locs : List Loc} {cells slots : Nat} (h : fr_S nL R s G ls st sh M bc bs ls' H locs cells slots) (h2 : ∀ v ∈ st2, fr_ok v) (hv : fr_ok v) (hk : fr_sk ls i = true) (h3 : lv_has ls2 nL ((i, fr_rv G v) :: (fr_lst G ls).filter (fun q => !(q.1 == i) && !(q.1 + 1 == i && q.2.category == 2)))) : fr_S nL R s G (fr_stn ls i (some v)) st2 sh M bc bs ls2 H locs cells slots := by
  refine ⟨h.1.set hk h3, fun w hw => ?_, h2, h.2.2.2⟩
  rw [fr_stn_eq] at hw
  rcases List.mem_or_eq_of_mem_set hw with q | q
  · exact h.2.1 w q
  · cases q
    exact hv
theorem fr_okc {v : fr_V} {st : List fr_V} (h : fr_ok v) (h2 : ∀ v ∈ st, fr_ok v) : ∀ w ∈ v :: st, fr_ok w := fun w hw => by
  rcases List.mem_cons.mp hw with rfl | q
  · exact h
  · exact h2 w q
theorem fr_okt {v : fr_V} {st : List fr_V} (h2 : ∀ w ∈ v :: st, fr_ok w) : ∀ w ∈ st, fr_ok w := fun w hw => h2 w (List.mem_cons_of_mem _ hw)
theorem fr_okh {v : fr_V} {st : List fr_V} (h2 : ∀ w ∈ v :: st, fr_ok w) : fr_ok v := h2 v List.mem_cons_self
theorem fr_up_in {M : fr_M} {k : Nat} {i x : Int} (h : ∀ k i, fr_in (M k i)) (hx : fr_in x) : ∀ k' i', fr_in (fr_up M k i x k' i') := by
  intro k' i'
  unfold fr_up
  split
  · split
    · exact hx
    · exact h _ _
  · exact h _ _
theorem fr_zr_in {M : fr_M} {k : Nat} (h : ∀ k i, fr_in (M k i)) : ∀ k' i', fr_in (fr_zr M k k' i') := by
  intro k' i'
  unfold fr_zr
  split
  · exact fr_in0
  · exact h _ _
theorem fr_cp_in {M : fr_M} {ks kd : Nat} {sp dp n : Int} (h : ∀ k i, fr_in (M k i)) : ∀ k' i', fr_in (fr_cp M ks sp kd dp n k' i') := by
  intro k' i'
  unfold fr_cp
  split
  · split
    · exact h _ _
    · exact h _ _
  · exact h _ _
theorem fr_up_o {M : fr_M} {k k' : Nat} {i x : Int} (h : k' ≠ k) : fr_up M k i x k' = M k' := by
  funext j
  unfold fr_up
  rw [if_neg h]
theorem fr_up_s {M : fr_M} {k : Nat} {i x : Int} (j : Int) : fr_up M k i x k j = if j = i then x else M k j := by
  unfold fr_up
  rw [if_pos rfl]
/-- a row is written at one place -/
theorem fr_P.put {G : fr_G} {sh : fr_H} {M : fr_M} {H H1 : Heap} {k : Nat} {i x : Int} {t n : Nat} (h : fr_P G sh M H) (hk : sh[k]? = some (.inl (t, n))) (hi : 0 ≤ i ∧ i < (n : Int)) (e : H1[G.1 + k]? = some ((fr_row G t n (M k)).setSlot i.toNat (.int (Int32.ofInt x)))) (z : H1.size = H.size) (o : ∀ q, q ≠ G.1 + k → H1[q]? = H[q]?) : fr_P G sh (fr_up M k i x) H1 := by
  refine ⟨z.trans h.1, fun j cell hj => ?_⟩
  by_cases hjk : j = k
  · subst hjk
    cases hk.symm.trans hj
    obtain ⟨h1, h2, h3⟩ := h.2 j _ hk
    refine ⟨h1, h2, ?_⟩
    rw [e]
    unfold fr_row
    rw [arrV_store]
    congr 2
    funext q
    unfold updV
    rw [fr_up_s]
    by_cases hq : q = i.toNat
    · rw [if_pos hq, if_pos (by omega)]
    · rw [if_neg hq, if_neg (by omega)]
  · exact (h.2 j cell hj).kept (o _ (by omega)) (fr_up_o hjk).symm
theorem va_S.put' {A : Nat → Prop} {H0 H H1 : Heap} {locs L : List Loc} {a : Nat} (h : va_S A H0 H locs) (z : H1.size = H.size) (oq : ∀ q : Nat, q ≠ a → H1[q]? = H[q]?) (ha : A a) (hL : ∀ q ∈ L, A q.base) : va_S A H0 H1 (locs ++ L) := by
  refine ⟨by rw [z]; exact h.1, fun q h1 h2 => ?_, fun q hq => ?_⟩
  · rw [oq q (fun e => h2 (by rw [e]; exact ha))]
    exact h.2.1 q h1 h2
  · rcases List.mem_append.mp hq with h1 | h1
    · exact h.2.2 q h1
    · exact hL q h1
/-- a new cell at the heap's end -/
theorem fr_P.push {G : fr_G} {sh : fr_H} {M : fr_M} {H H1 : Heap} {cell : (Nat × Nat) ⊕ (Nat × fr_F)} (h : fr_P G sh M H) (e : fr_at G sh.length cell (fun _ => 0) H1) (z : H1.size = H.size + 1) (o : ∀ q, q < H.size → H1[q]? = H[q]?) : fr_P G (sh ++ [cell]) (fr_zr M sh.length) H1 := by
  refine ⟨by rw [z, h.1, List.length_append]; rfl, fun j c hj => ?_⟩
  by_cases hl : j < sh.length
  · rw [List.getElem?_append_left hl] at hj
    exact (h.2 j c hj).kept (o _ (by rw [h.1]; omega)) (by funext q; unfold fr_zr; rw [if_neg (by omega)])
  · have hj2 := (List.getElem?_eq_some_iff.mp hj).1
    rw [List.length_append] at hj2
    have ej : j = sh.length := by simp at hj2; omega
    subst ej
    rw [List.getElem?_append_right (Nat.le_refl _)] at hj
    simp at hj
    subst hj
    exact (show fr_at G sh.length cell (fun _ => 0) H1 from e).kept rfl (by funext q; unfold fr_zr; rw [if_pos rfl])
