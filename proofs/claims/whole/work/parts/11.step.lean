/-! ===== each instruction of the machine of whole numbers is the real one ===== -/
section FrStep
variable {p : Program} {l : Launch} {e : Env} {R : Room} {s : State} {m : MethodId} {args : Array Value} {below : List Frame} {meth : Method} {c : Code} {Z : State → Prop} {G : fr_G} {rc : fr_T} {scr : Option (Nat × (Int → Int))}
variable {ls : fr_L} {st : List fr_V} {sh : fr_H} {M : fr_M} {bc bs pc : Nat}
theorem fr_X.w (X : fr_X rc p R s m args meth c G scr) {w : Cond} (h : w ∈ lw_tbl) (g : goodWord w = true) : w.before args s = true := X.2.2.2.2.1 w (lw_gd_in h g)
theorem fr_s_push {v : fr_V} {n : Nat} (k : fr_Wt p l e R s m args below meth c Z G n pc ls (v :: st) sh M bc bs) (hv : fr_ok v) : ∀ (ls' : Array Slot) (H : Heap) (locs : List Loc) (cells slots : Nat), fr_S n R s G ls st sh M bc bs ls' H locs cells slots → W p l e R s m args below meth c H locs cells slots Z (F0 m pc ls' (fr_rv G v :: st.map (fr_rv G))) := fun ls' H locs cells slots S => k ls' H locs cells slots (S.stk (fr_okc hv S.2.2.1))
theorem fr_s_ild (X : fr_X rc p R s m args meth c G scr) {i : Nat} {x : Int} (hl : ls[i]? = some (some (.inl x))) (hd : decode rc.2.2.1 pc = .ok (.iload i, 2)) (k : fr_Wt p l e R s m args below meth c Z G rc.2.2.2.1 (pc + 2) ls (.inl x :: st) sh M bc bs) : fr_Wt p l e R s m args below meth c Z G rc.2.2.2.1 pc ls st sh M bc bs := by
  intro ls' H locs cells slots S
  exact lv_iload X.1 X.2.1 hd (S.1.2.2.2 i _ hl) (fr_s_push k (S.2.1 _ (List.mem_of_getElem? hl)) ls' H locs cells slots S)
theorem fr_s_ildn (X : fr_X rc p R s m args meth c G scr) {i : Fin 4} {x : Int} (hl : ls[i.val]? = some (some (.inl x))) (hd : decode rc.2.2.1 pc = .ok (.iload_n i, 1)) (k : fr_Wt p l e R s m args below meth c Z G rc.2.2.2.1 (pc + 1) ls (.inl x :: st) sh M bc bs) : fr_Wt p l e R s m args below meth c Z G rc.2.2.2.1 pc ls st sh M bc bs := by
  intro ls' H locs cells slots S
  exact lv_iload_n X.1 X.2.1 hd rfl (S.1.2.2.2 i.val _ hl) (fr_s_push k (S.2.1 _ (List.mem_of_getElem? hl)) ls' H locs cells slots S)
theorem fr_s_jmp (X : fr_X rc p R s m args meth c G scr) {off : Int} {t : Nat} (hj : fr_jmp rc.2.2.2.2.2.1 pc off t = true) : (pc : Int) + off = (fr_tg rc.2.2.2.2.2.1 t : Int) := of_decide_eq_true hj
theorem fr_s_ifc (X : fr_X rc p R s m args meth c G scr) {q : ClassFile.Cond} {off : Int} {a : Nat} {x : Int} {r : List fr_V} (hd : decode rc.2.2.1 pc = .ok (.ifCond q off, 3)) (hj : fr_jmp rc.2.2.2.2.2.1 pc off a = true) {A B : Prop}
    (h : match (motive := ClassFile.Cond → Prop) q with
      | .eq => (x = 0 → A) ∧ (¬ x = 0 → B)
      | .ne => (¬ x = 0 → A) ∧ (x = 0 → B)
      | .lt => (x < 0 → A) ∧ (¬ x < 0 → B)
      | .ge => (0 ≤ x → A) ∧ (¬ 0 ≤ x → B)
      | .gt => (0 < x → A) ∧ (¬ 0 < x → B)
      | .le => (x ≤ 0 → A) ∧ (¬ x ≤ 0 → B))
    (hA : A → fr_Wt p l e R s m args below meth c Z G rc.2.2.2.1 (fr_tg rc.2.2.2.2.2.1 a) ls r sh M bc bs) (hB : B → fr_Wt p l e R s m args below meth c Z G rc.2.2.2.1 (pc + 3) ls r sh M bc bs) : fr_Wt p l e R s m args below meth c Z G rc.2.2.2.1 pc ls (.inl x :: r) sh M bc bs := by
  intro ls' H locs cells slots S
  have ht := fr_s_jmp X hj
  have hx : fr_in x := fr_okh S.2.2.1
  have S' := S.stk (fr_okt S.2.2.1)
  have ka : A → _ := fun z => hA z ls' H locs cells slots S'
  have kb : B → _ := fun z => hB z ls' H locs cells slots S'
  cases q with
  | eq => exact lv_if_eq X.1 X.2.1 hd ht (fun z => ka (h.1 ((fr_eq0 hx).mp z))) (fun z => kb (h.2 (fun y => z ((fr_eq0 hx).mpr y))))
  | ne => exact lv_if_ne X.1 X.2.1 hd ht (fun z => ka (h.1 (fun y => z ((fr_eq0 hx).mpr y)))) (fun z => kb (h.2 ((fr_eq0 hx).mp z)))
  | lt => exact lv_if_lt X.1 X.2.1 hd ht (fun z => ka (h.1 ((fr_lt0 hx).mp z))) (fun z => kb (h.2 (fun y => z ((fr_lt0 hx).mpr y))))
  | ge => exact lv_if_ge X.1 X.2.1 hd ht (fun z => ka (h.1 ((fr_0le hx).mp z))) (fun z => kb (h.2 (fun y => z ((fr_0le hx).mpr y))))
  | gt => exact lv_if_gt X.1 X.2.1 hd ht (fun z => ka (h.1 ((fr_0lt hx).mp z))) (fun z => kb (h.2 (fun y => z ((fr_0lt hx).mpr y))))
  | le => exact lv_if_le X.1 X.2.1 hd ht (fun z => ka (h.1 ((fr_le0 hx).mp z))) (fun z => kb (h.2 (fun y => z ((fr_le0 hx).mpr y))))
theorem fr_s_icm (X : fr_X rc p R s m args meth c G scr) {q : ClassFile.Cond} {off : Int} {a : Nat} {x y : Int} {r : List fr_V} (hd : decode rc.2.2.1 pc = .ok (.if_icmp q off, 3)) (hj : fr_jmp rc.2.2.2.2.2.1 pc off a = true) {A B : Prop}
    (h : match (motive := ClassFile.Cond → Prop) q with
      | .eq => (x = y → A) ∧ (¬ x = y → B)
      | .ne => (¬ x = y → A) ∧ (x = y → B)
      | .lt => (x < y → A) ∧ (¬ x < y → B)
      | .ge => (y ≤ x → A) ∧ (¬ y ≤ x → B)
      | .gt => (y < x → A) ∧ (¬ y < x → B)
      | .le => (x ≤ y → A) ∧ (¬ x ≤ y → B))
    (hA : A → fr_Wt p l e R s m args below meth c Z G rc.2.2.2.1 (fr_tg rc.2.2.2.2.2.1 a) ls r sh M bc bs) (hB : B → fr_Wt p l e R s m args below meth c Z G rc.2.2.2.1 (pc + 3) ls r sh M bc bs) : fr_Wt p l e R s m args below meth c Z G rc.2.2.2.1 pc ls (.inl y :: .inl x :: r) sh M bc bs := by
  intro ls' H locs cells slots S
  have ht := fr_s_jmp X hj
  have hy : fr_in y := fr_okh S.2.2.1
  have hx : fr_in x := fr_okh (fr_okt S.2.2.1)
  have S' := S.stk (fr_okt (fr_okt S.2.2.1))
  have ka : A → _ := fun z => hA z ls' H locs cells slots S'
  have kb : B → _ := fun z => hB z ls' H locs cells slots S'
  cases q with
  | eq => exact lv_icmp_eq X.1 X.2.1 hd ht (fun z => ka (h.1 ((fr_eq hx hy).mp z))) (fun z => kb (h.2 (fun y => z ((fr_eq hx hy).mpr y))))
  | ne => exact lv_icmp_ne X.1 X.2.1 hd ht (fun z => ka (h.1 (fun y => z ((fr_eq hx hy).mpr y)))) (fun z => kb (h.2 ((fr_eq hx hy).mp z)))
  | lt => exact lv_icmp_lt X.1 X.2.1 hd ht (fun z => ka (h.1 ((fr_lt hx hy).mp z))) (fun z => kb (h.2 (fun y => z ((fr_lt hx hy).mpr y))))
  | ge => exact lv_icmp_ge X.1 X.2.1 hd ht (fun z => ka (h.1 ((fr_le hy hx).mp z))) (fun z => kb (h.2 (fun y => z ((fr_le hy hx).mpr y))))
  | gt => exact lv_icmp_gt X.1 X.2.1 hd ht (fun z => ka (h.1 ((fr_lt hy hx).mp z))) (fun z => kb (h.2 (fun y => z ((fr_lt hy hx).mpr y))))
  | le => exact lv_icmp_le X.1 X.2.1 hd ht (fun z => ka (h.1 ((fr_le hx hy).mp z))) (fun z => kb (h.2 (fun y => z ((fr_le hx hy).mpr y))))
/-- the target of a table switch -/
theorem fr_tsw_e {x : Int} {D : Nat} {J : Nat → Prop} : ∀ {d : List Nat} {i : Int}, fr_tsw x D J i d → ((x < i ∨ i + d.length ≤ x) ∧ J D) ∨ ∃ t, i ≤ x ∧ x < i + d.length ∧ d[(x - i).toNat]? = some t ∧ J t
  | [], i, h => by
    left
    refine ⟨?_, h⟩
    simp; omega
  | t :: ts, i, h => by
    by_cases e : x = i
    · right
      refine ⟨t, by omega, by simp; omega, ?_, h.1 e⟩
      subst e
      simp
    · rcases fr_tsw_e (h.2 e) with ⟨h1, h2⟩ | ⟨t', h1, h2, h3, h4⟩
      · left
        refine ⟨?_, h2⟩
        simp only [List.length_cons]
        omega
      · right
        refine ⟨t', by omega, by simp only [List.length_cons]; omega, ?_, h4⟩
        have : (x - i).toNat = (x - (i + 1)).toNat + 1 := by omega
        rw [this]
        exact h3
theorem fr_zip_all {α β : Type} {f : α × β → Bool} {l : List α} {d : List β} (h : (l.zip d).all f = true) {k : Nat} {a : α} {b : β} (ha : l[k]? = some a) (hb : d[k]? = some b) : f (a, b) = true := List.all_eq_true.mp h (a, b) (List.mem_of_getElem? (i := k) (by rw [List.getElem?_zip_eq_some]; exact ⟨ha, hb⟩))
theorem fr_s_tsw (X : fr_X rc p R s m args meth c G scr) {df lo hi : Int} {offs : Array Int} {len a : Nat} {d : List Nat} {x : Int} {r : List fr_V} {J : Nat → Prop} (hd : decode rc.2.2.1 pc = .ok (.tableswitch df lo hi offs, len)) (h0 : fr_jmp rc.2.2.2.2.2.1 pc df a = true) (h1 : hi - lo + 1 = (d.length : Int)) (h2 : offs.toList.length = d.length) (h3 : (offs.toList.zip d).all (fun q => fr_jmp rc.2.2.2.2.2.1 pc q.1 q.2) = true)
    (h : fr_tsw x a J lo d) (hJ : ∀ t, J t → fr_Wt p l e R s m args below meth c Z G rc.2.2.2.1 (fr_tg rc.2.2.2.2.2.1 t) ls r sh M bc bs) : fr_Wt p l e R s m args below meth c Z G rc.2.2.2.1 pc ls (.inl x :: r) sh M bc bs := by
  intro ls' H locs cells slots S
  have hx : fr_in x := fr_okh S.2.2.1
  have S' := S.stk (fr_okt S.2.2.1)
  rcases fr_tsw_e h with ⟨q1, q2⟩ | ⟨t, q1, q2, q3, q4⟩
  · exact lv_tableOut X.1 X.2.1 hd (by rw [fr_ti hx]; omega) (fr_s_jmp X h0) (hJ _ q2 ls' H locs cells slots S')
  · obtain ⟨off, ho⟩ : ∃ off, offs.toList[(x - lo).toNat]? = some off := ⟨_, List.getElem?_eq_getElem (by have := (List.getElem?_eq_some_iff.mp q3).1; omega)⟩
    refine lv_tableIn X.1 X.2.1 hd (off := off) (by rw [fr_ti hx]; omega) (by rw [fr_ti hx]; omega) ?_ (fr_s_jmp X (fr_zip_all h3 ho q3)) (hJ _ q4 ls' H locs cells slots S')
    rw [fr_ti hx, ← Array.getElem?_toList]
    exact ho
theorem fr_lsw_e {x : Int} {D pc : Nat} {df : Int} {cd : List fr_E} {J : Nat → Prop} : ∀ {ps : List (Int × Int)} {d : List Nat}, fr_lsw x D J ps d → fr_jmp cd pc df D = true → (ps.zip d).all (fun q => fr_jmp cd pc q.1.2 q.2) = true → ∃ t, J t ∧ (pc : Int) + Op.lookupswitch.offset ps df x = (fr_tg cd t : Int)
  | [], [], h, h0, _ => ⟨D, h, of_decide_eq_true h0⟩
  | [], _ :: _, h, _, _ => h.elim
  | _ :: _, [], h, _, _ => h.elim
  | (k, off) :: ps, t :: ts, h, h0, h1 => by
    rw [List.zip_cons_cons, List.all_cons, Bool.and_eq_true] at h1
    by_cases e : x = k
    · refine ⟨t, h.1 e, ?_⟩
      have : Op.lookupswitch.offset ((k, off) :: ps) df x = off := by
        subst e
        simp [Op.lookupswitch.offset]
      rw [this]
      exact of_decide_eq_true h1.1
    · obtain ⟨t', q1, q2⟩ := fr_lsw_e (h.2 e) h0 h1.2
      refine ⟨t', q1, ?_⟩
      have : Op.lookupswitch.offset ((k, off) :: ps) df x = Op.lookupswitch.offset ps df x := by
        have e' : ¬ k = x := fun q => e q.symm
        simp [Op.lookupswitch.offset, e']
      rw [this]
      exact q2
end FrStep
