/-! ===== what the tables give ===== -/
theorem fr_link {own : Nat} {o : String} {q : Nat × Nat × Nat × Nat × Int} (ho : fr_own[own]? = some o) (h : fr_mem own q = true) : fr_word o q ∈ lw_tbl := by
  unfold fr_mem at h
  split at h
  · next l hl =>
    rw [fr_nth_eq] at hl
    obtain ⟨r, hr, h2⟩ := List.any_eq_true.mp h
    rw [Bool.and_eq_true] at h2
    have e := of_decide_eq_true h2.2
    subst e
    have hlt : own < fr_lkp.length := by
      have := (List.getElem?_eq_some_iff.mp hl).1
      exact this
    obtain ⟨ps, hps⟩ : ∃ ps, fr_lkp[own]? = some ps := ⟨_, List.getElem?_eq_getElem hlt⟩
    have h3 := List.all_eq_true.mp fr_lk_all (o, l, ps) (List.mem_of_getElem? (i := own) (by rw [List.getElem?_zip_eq_some]; exact ⟨ho, by rw [List.getElem?_zip_eq_some]; exact ⟨hl, hps⟩⟩))
    unfold fr_lkc at h3
    rw [Bool.and_eq_true] at h3
    obtain ⟨i, hi⟩ := List.getElem?_of_mem hr
    have hi2 : i < ps.length := by
      have h4 := beq_iff_eq.mp h3.1
      have := (List.getElem?_eq_some_iff.mp hi).1
      dsimp only at h4
      omega
    have h5 := List.all_eq_true.mp h3.2 (r, ps[i]) (List.mem_of_getElem? (i := i) (by rw [List.getElem?_zip_eq_some]; exact ⟨hi, List.getElem?_eq_getElem hi2⟩))
    exact List.mem_of_getElem? (of_decide_eq_true h5)
  · cases h
theorem fr_cls {ci : Nat} {r : vw_C} (h : vwCl[ci]? = some r) : (∀ w ∈ u_ws r.1 r.2.1 r.2.2, w ∈ lw_tbl) ∧ (∀ k, k < r.2.2 → parseFieldDescriptor (r.2.1 k).2.2.1 = some (fr_fty ci k)) ∧ (∀ a, a < r.2.2 → ∀ b, b < r.2.2 → a ≠ b → (r.2.1 a).2.1 ≠ (r.2.1 b).2.1) := by
  match ci, h with
  | 0, h => cases h; exact ⟨inX0, tyX0_ok, nmX0⟩
  | 1, h => cases h; exact ⟨inX1, tyX1_ok, nmX1⟩
  | 2, h => cases h; exact ⟨inX2, tyX2_ok, nmX2⟩
  | 3, h => cases h; exact ⟨inX3, tyX3_ok, nmX3⟩
  | 4, h => cases h; exact ⟨inX4, tyX4_ok, nmX4⟩
  | 5, h => cases h; exact ⟨inX5, tyX5_ok, nmX5⟩
  | 6, h => cases h; exact ⟨inX6, tyX6_ok, nmX6⟩
  | 7, h => cases h; exact ⟨inX7, tyX7_ok, nmX7⟩
  | 8, h => cases h; exact ⟨inX8, tyX8_ok, nmX8⟩
  | 9, h => cases h; exact ⟨inX9, tyX9_ok, nmX9⟩
  | 10, h => cases h; exact ⟨inX10, tyX10_ok, nmX10⟩
  | 11, h => cases h; exact ⟨inX11, tyX11_ok, nmX11⟩
  | 12, h => cases h; exact ⟨inX12, tyX12_ok, nmX12⟩
  | n + 13, h => simp [vwCl] at h
theorem fr_lays_good {C : String} {T : u_T} {N : Nat} (h : ∀ w ∈ u_ws C T N, w ∈ lw_tbl) : ∀ w ∈ u_ws C T N, w ∈ lw_gd := fun w hw => lw_gd_in (h w hw) (by
  obtain ⟨k, -, rfl⟩ := List.mem_map.mp hw
  unfold u_lay
  split <;> rfl)
theorem fr_cls2 {ci : Nat} {r : vw_C} (h : vwCl[ci]? = some r) : fr_own[ci]? = some r.1 ∧ Cond.instantiable r.1 r.2.2 ∈ lw_tbl ∧ Cond.initialized r.1 ∈ lw_tbl ∧ fr_kind fr_kd ci = (List.range r.2.2).map (fun k => fr_fk (fr_fty ci k)) := by
  have hl := (List.getElem?_eq_some_iff.mp h).1
  have hl : ci < 13 := hl
  have l1 : ci < fr_own.length := Nat.lt_of_lt_of_le hl (by decide)
  have l2 : ci < fr_ip.length := Nat.lt_of_lt_of_le hl (by decide)
  have l3 : ci < fr_kd.length := Nat.lt_of_lt_of_le hl (by decide)
  have l4 : ci < fr_tys.length := Nat.lt_of_lt_of_le hl (by decide)
  have h3 := List.all_eq_true.mp fr_cc_all (r, fr_own[ci], fr_ip[ci], fr_kd[ci], fr_tys[ci]) (List.mem_of_getElem? (i := ci) (by
    rw [List.getElem?_zip_eq_some]; refine ⟨h, ?_⟩
    rw [List.getElem?_zip_eq_some]; refine ⟨List.getElem?_eq_getElem l1, ?_⟩
    rw [List.getElem?_zip_eq_some]; refine ⟨List.getElem?_eq_getElem l2, ?_⟩
    rw [List.getElem?_zip_eq_some]; exact ⟨List.getElem?_eq_getElem l3, List.getElem?_eq_getElem l4⟩))
  unfold fr_cc1 at h3
  simp only [Bool.and_eq_true, decide_eq_true_eq] at h3
  obtain ⟨⟨⟨e1, e2⟩, e3⟩, e4⟩ := h3
  refine ⟨by rw [List.getElem?_eq_getElem l1, e1], List.mem_of_getElem? e2, List.mem_of_getElem? e3, ?_⟩
  unfold fr_kind fr_fty
  simp only [fr_nth_eq, List.getElem?_eq_getElem l3, List.getElem?_eq_getElem l4]
  exact e4
/-- a method of the table -/
theorem fr_meth {mj : Nat} {r : fr_T} (h : fr_tab[mj]? = some r) : fr_own[r.1]? = some r.2.1.cls ∧ (r.2.2.2.2.2.2.2.1 ≠ 3 → Cond.code r.2.1 r.2.2.1 r.2.2.2.1 r.2.2.2.2.1 ∈ lw_tbl ∧ Cond.initialized r.2.1.cls ∈ lw_tbl ∧ (r.2.1.cls ≠ "java/lang/invoke/MethodHandle" ∧ r.2.1.cls ≠ "java/lang/invoke/VarHandle" ∧ (parseMethodDescriptor r.2.1.desc).map (fun d => d.parameters.length) = some r.2.2.2.2.2.2.2.2) ∧ plainName r.2.1.cls = true ∧
    (r.2.2.2.2.2.2.2.1 = 0 → Cond.static r.2.1 ∈ lw_tbl) ∧ (r.2.2.2.2.2.2.2.1 ≠ 0 → Cond.instanceMethod r.2.1 ∈ lw_tbl) ∧ (r.2.2.2.2.2.2.2.1 = 1 → Cond.selects r.2.1.cls r.2.1 r.2.1 ∈ lw_tbl) ∧ (r.2.2.2.2.2.2.2.1 = 2 → r.2.1.name = "<init>")) := by
  have hl : mj < 207 := (List.getElem?_eq_some_iff.mp h).1
  have l1 : mj < fr_mp.length := hl
  have h3 := List.all_eq_true.mp fr_mc_all (r, fr_mp[mj]) (List.mem_of_getElem? (i := mj) (by rw [List.getElem?_zip_eq_some]; exact ⟨h, List.getElem?_eq_getElem l1⟩))
  unfold fr_mc1 at h3
  split at h3
  · next hk => exact ⟨by rw [← fr_nth_eq]; exact of_decide_eq_true h3, fun hn => absurd hk hn⟩
  · next _ hn =>
    simp only [Bool.and_eq_true, decide_eq_true_eq] at h3
    obtain ⟨⟨⟨⟨e1, e2⟩, e3⟩, e4⟩, e5⟩ := h3
    refine ⟨by rw [← fr_nth_eq]; exact e1, fun hn3 => ⟨?_, List.mem_of_getElem? e2, e3, e4, ?_, ?_, ?_, ?_⟩⟩
    · have hlt : mj < 206 := by
        rcases Nat.lt_or_ge mj 206 with q | q
        · exact q
        · have e : mj = 206 := by omega
          subst e
          have e7 : fr_tab[206]? = some r := h
          have e8 : (fr_tab[206]?.map (fun r => r.2.2.2.2.2.2.2.1)) = some 3 := rfl
          rw [e7] at e8
          exact absurd (Option.some.inj e8) hn3
      have e6 := congrArg (fun l => l[mj]?) fr_cw_all
      simp only [List.getElem?_map, List.getElem?_take, hlt, if_true, h, List.getElem?_eq_getElem l1, Option.map_some] at e6
      exact List.mem_of_getElem? (Option.some.inj e6).symm
    · intro e0
      split at e5
      · exact List.mem_of_getElem? (of_decide_eq_true e5)
      · next q => rw [q] at e0; cases e0
      · next q0 q1 => exact absurd e0 q0
    · intro e0
      split at e5
      · next q => exact absurd q e0
      · rw [Bool.and_eq_true] at e5; exact List.mem_of_getElem? (of_decide_eq_true e5.1)
      · rw [Bool.and_eq_true] at e5; exact List.mem_of_getElem? (of_decide_eq_true e5.1)
    · intro e1
      split at e5
      · next q => rw [q] at e1; cases e1
      · rw [Bool.and_eq_true] at e5; exact List.mem_of_getElem? (of_decide_eq_true e5.2)
      · next q0 q1 => exact absurd e1 q1
    · intro e2
      split at e5
      · next q => rw [q] at e2; cases e2
      · next q => rw [q] at e2; cases e2
      · rw [Bool.and_eq_true] at e5; exact of_decide_eq_true e5.2
theorem fr_rcc_of {mj : Nat} {r : fr_T} (h : fr_tab[mj]? = some r) : fr_rcc r = true := List.all_eq_true.mp fr_rc_all r (List.mem_of_getElem? h)
/-! ===== the judgement: from here on the real machine comes to its end, and what the machine of whole numbers says holds there ===== -/
def fr_X (rc : fr_T) (p : Program) (R : Room) (s : State) (m : MethodId) (args : Array Value) (meth : Method) (c : Code) (G : fr_G) (scr : Option (Nat × (Int → Int))) : Prop :=
  p.tables.exec = Jvm.exec ∧ c.code = rc.2.2.1 ∧ c.maxLocals = rc.2.2.2.1 ∧ (∃ o, fr_own[rc.1]? = some o ∧ s.vm.findClass o = some m.cls) ∧ (∀ w ∈ lw_gd, w.before args s = true) ∧ fr_KK G s ∧ (rc.2.2.2.2.2.2.1.frames ≤ R.frames ∧ rc.2.2.2.2.2.2.1.locals ≤ R.locals) ∧ G.1 ≤ s.heap.size ∧ (rc.2.2.2.2.2.2.2.1 = 2 → meth.name = "<init>") ∧
  (∀ n f, scr = some (n, f) → n < 2147483648 ∧ (∀ i, fr_in (f i)) ∧ G.2.1 < G.1 ∧ va_X G.2.1 n (fun j => Int32.ofInt (f (j : Int))) s s.heap)
def fr_Wt (p : Program) (l : Launch) (e : Env) (R : Room) (s : State) (m : MethodId) (args : Array Value) (below : List Frame) (meth : Method) (c : Code) (Z : State → Prop) (G : fr_G) (nL pc : Nat) (ls : fr_L) (st : List fr_V) (sh : fr_H) (M : fr_M) (bc bs : Nat) : Prop :=
  ∀ (ls' : Array Slot) (H : Heap) (locs : List Loc) (cells slots : Nat), fr_S nL R s G ls st sh M bc bs ls' H locs cells slots → W p l e R s m args below meth c H locs cells slots Z (F0 m pc ls' (st.map (fr_rv G)))
def fr_rd (rc : fr_T) (pc : Nat) (r : Option fr_V) : Prop := match r with
  | none => decode rc.2.2.1 pc = .ok (.return_, 1) ∧ rc.2.2.2.2.1 = none
  | some (.inl x) => decode rc.2.2.1 pc = .ok (.ireturn, 1) ∧ (rc.2.2.2.2.1 = some .int ∨ (rc.2.2.2.2.1 = some .boolean ∧ 0 ≤ x ∧ x ≤ 1))
  | some (.inr (.inl _)) => decode rc.2.2.1 pc = .ok (.areturn, 1) ∧ ∃ n, rc.2.2.2.2.1 = some (.object n)
  | _ => False
def fr_Rt (rc : fr_T) (p : Program) (l : Launch) (e : Env) (R : Room) (s : State) (m : MethodId) (args : Array Value) (below : List Frame) (meth : Method) (c : Code) (Z : State → Prop) (G : fr_G) (Q : Option fr_V → fr_H → fr_M → Prop) : Prop :=
  ∀ (pc : Nat) (ls : fr_L) (r : Option fr_V) (sh : fr_H) (M : fr_M) (bc bs : Nat), Q r sh M → fr_rd rc pc r → fr_Wt p l e R s m args below meth c Z G rc.2.2.2.1 pc ls r.toList sh M bc bs
def fr_Run (mi : Nat) (scr : Option (Nat × (Int → Int))) (ix : Nat) (ls : fr_L) (st : List fr_V) (sh : fr_H) (M : fr_M) (bc bs : Nat) (Q : Option fr_V → fr_H → fr_M → Prop) : Prop :=
  ∀ (rc : fr_T) (p : Program) (l : Launch) (e : Env) (R : Room) (s : State) (m : MethodId) (args : Array Value) (below : List Frame) (meth : Method) (c : Code) (Z : State → Prop) (G : fr_G), fr_tab[mi]? = some rc → fr_X rc p R s m args meth c G scr → fr_Rt rc p l e R s m args below meth c Z G Q → fr_Wt p l e R s m args below meth c Z G rc.2.2.2.1 (fr_tg rc.2.2.2.2.2.1 ix) ls st sh M bc bs
def fr_ini : Nat → List fr_V → fr_L
  | n, [] => List.replicate n none
  | n, v :: vs => some v :: (match fr_cat v with
    | 2 => none :: fr_ini (n - 2) vs
    | _ => fr_ini (n - 1) vs)
def fr_mx (mj : Nat) : Nat := match fr_nth fr_tab mj with
  | some r => r.2.2.2.1
  | none => 0
def fr_mcc (mj : Nat) : Nat := match fr_nth fr_tab mj with
  | some r => r.2.2.2.2.2.2.1.cells
  | none => 0
def fr_mss (mj : Nat) : Nat := match fr_nth fr_tab mj with
  | some r => r.2.2.2.2.2.2.1.slots
  | none => 0
def fr_Call (mj : Nat) (as : List fr_V) (sh : fr_H) (M : fr_M) (q : Option fr_V → fr_H → fr_M → Prop) : Prop := fr_Run mj none 0 (fr_ini (fr_mx mj) as) [] sh M (fr_mcc mj) (fr_mss mj) q
