section FrSound
variable {p : Program} {l : Launch} {e : Env} {R : Room} {s : State} {m : MethodId} {args : Array Value} {below : List Frame} {meth : Method} {c : Code} {Z : State → Prop} {G : fr_G} {rc : fr_T} {scr : Option (Nat × (Int → Int))}
variable {ls : fr_L} {st : List fr_V} {sh : fr_H} {M : fr_M} {bc bs pc : Nat}
theorem fr_ald_e {i : Nat} {f : fr_V → Prop} (h : fr_ald ls i f) : ∃ v, ls[i]? = some (some v) ∧ f v ∧ ((∃ k, v = .inr (.inl k)) ∨ ∃ u, v = .inr (.inr (.inr u))) := by
  unfold fr_ald at h
  split at h
  · next k hq => exact ⟨_, by rw [← fr_nth_eq]; exact hq, h, Or.inl ⟨_, rfl⟩⟩
  · next u hq => exact ⟨_, by rw [← fr_nth_eq]; exact hq, h, Or.inr ⟨_, rfl⟩⟩
  · exact h.elim
theorem fr_i8 {n : Int} (h : -128 ≤ n ∧ n ≤ 127) : (Int8.ofInt n).toInt32 = Int32.ofInt n := by
  apply Int32.toInt_inj.mp
  rw [Int8.toInt_toInt32, fr_ti ⟨by omega, by omega⟩, Int8.toInt_ofInt]
  unfold Int.bmod
  simp only [Int8.size] at *
  split <;> omega
theorem fr_i16 {n : Int} (h : -32768 ≤ n ∧ n ≤ 32767) : (Int16.ofInt n).toInt32 = Int32.ofInt n := by
  apply Int32.toInt_inj.mp
  rw [Int16.toInt_toInt32, fr_ti ⟨by omega, by omega⟩, Int16.toInt_ofInt]
  unfold Int.bmod
  simp only [Int16.size] at *
  split <;> omega
theorem fr_catk {v : fr_V} (h : Nat.beq (fr_cat v) 1 = true) : (fr_rv G v).category = 1 := by rw [fr_cat_rv]; exact Nat.beq_eq.mp h
theorem fr_min {x y : Int} (hx : fr_in x) (hy : fr_in y) : (if Int32.ofInt y < Int32.ofInt x then Int32.ofInt y else Int32.ofInt x) = Int32.ofInt (min x y) := by
  rw [Int.min_def]
  by_cases h : y < x
  · rw [if_pos ((fr_lt hy hx).mpr h), if_neg (by omega)]
  · rw [if_neg (fun q => h ((fr_lt hy hx).mp q)), if_pos (by omega)]
theorem fr_max {x y : Int} (hx : fr_in x) (hy : fr_in y) : (if Int32.ofInt x < Int32.ofInt y then Int32.ofInt y else Int32.ofInt x) = Int32.ofInt (max x y) := by
  rw [Int.max_def]
  by_cases h : x < y
  · rw [if_pos ((fr_lt hx hy).mpr h), if_pos (by omega)]
  · rw [if_neg (fun q => h ((fr_lt hx hy).mp q))]
    by_cases h2 : x ≤ y
    · rw [if_pos h2]; congr 1; omega
    · rw [if_neg h2]
theorem fr_in_min {x y : Int} (hx : fr_in x) (hy : fr_in y) : fr_in (min x y) := by
  rw [Int.min_def]; split
  · exact hx
  · exact hy
theorem fr_in_max {x y : Int} (hx : fr_in x) (hy : fr_in y) : fr_in (max x y) := by
  rw [Int.max_def]; split
  · exact hy
  · exact hx
theorem fr_fv_up {fs : fr_F} {k b : Nat} {x : Int} (hb : fs[b]? = some none) : ∀ j, updV (fr_fv G fs (M k)) b (.int (Int32.ofInt x)) j = fr_fv G fs (fr_up M k (b : Int) x k) j := by
  intro j
  unfold updV
  by_cases h : j = b
  · subst h
    rw [if_pos rfl]
    unfold fr_fv
    rw [hb]
    show _ = Value.int (Int32.ofInt (fr_up M k (j : Int) x k (j : Int)))
    rw [fr_up_s, if_pos rfl]
  · rw [if_neg h]
    unfold fr_fv
    have e : fr_up M k (b : Int) x k (j : Int) = M k (j : Int) := by rw [fr_up_s, if_neg (by omega)]
    rw [e]
theorem fr_fv_set {fs : fr_F} {k b q : Nat} (hb : b < fs.length) : ∀ j, updV (fr_fv G fs (M k)) b (.ref (G.1 + q)) j = fr_fv G (fs.set b (some (some q))) (M k) j := by
  intro j
  unfold updV
  by_cases h : j = b
  · subst h
    rw [if_pos rfl]
    unfold fr_fv
    rw [List.getElem?_set_self hb]
  · rw [if_neg h]
    unfold fr_fv
    rw [List.getElem?_set_ne (fun z => h z.symm)]
/-- ONE INSTRUCTION -/
theorem fr_step (X : fr_X rc p R s m args meth c G scr) {en : fr_E} (hen : fr_ch rc en = true) {K : fr_L → List fr_V → fr_H → fr_M → Nat → Nat → Prop} {J : Nat → List fr_V → Prop} {C : Nat → List fr_V → (Option fr_V → fr_H → fr_M → Prop) → Prop} {Rt : Option fr_V → Prop}
    (h : fr_sem fr_kd scr en ls st sh M bc bs K J C Rt)
    (hK : ∀ ls st sh M bc bs, K ls st sh M bc bs → fr_Wt p l e R s m args below meth c Z G rc.2.2.2.1 (en.1 + en.2.2.1) ls st sh M bc bs)
    (hJ : ∀ t st, J t st → fr_Wt p l e R s m args below meth c Z G rc.2.2.2.1 (fr_tg rc.2.2.2.2.2.1 t) ls st sh M bc bs)
    (hC : ∀ mj as q, C mj as q → fr_Call mj as sh M q)
    (hR : ∀ r, Rt r → fr_rd rc en.1 r → fr_Wt p l e R s m args below meth c Z G rc.2.2.2.1 en.1 ls r.toList sh M bc bs) : fr_Wt p l e R s m args below meth c Z G rc.2.2.2.1 en.1 ls st sh M bc bs := by
  obtain ⟨pc, ins, len, a, b, ci, d⟩ := en
  unfold fr_ch at hen
  rw [Bool.and_eq_true] at hen
  obtain ⟨hd, hen⟩ := hen
  replace hd := of_decide_eq_true hd
  dsimp only at hK hR hd hen ⊢
  cases ins
  all_goals (try exact False.elim h)
  case iconst n =>
    rw [Bool.and_eq_true] at hen
    obtain ⟨hl, hn⟩ := hen
    have hl := Nat.beq_eq.mp hl
    have hn := of_decide_eq_true hn
    subst hl
    intro ls' H locs cells slots S
    exact lv_iconst X.1 X.2.1 hd rfl (fr_s_push (v := .inl n) (hK _ _ _ _ _ _ h) ⟨by omega, by omega⟩ ls' H locs cells slots S)
  case bipush n =>
    rw [Bool.and_eq_true] at hen
    obtain ⟨hl, hn⟩ := hen
    have hl := Nat.beq_eq.mp hl
    have hn := of_decide_eq_true hn
    subst hl
    intro ls' H locs cells slots S
    exact lv_bipush X.1 X.2.1 hd (fr_i8 hn) (fr_s_push (v := .inl n) (hK _ _ _ _ _ _ h) ⟨by omega, by omega⟩ ls' H locs cells slots S)
  case sipush n =>
    rw [Bool.and_eq_true] at hen
    obtain ⟨hl, hn⟩ := hen
    have hl := Nat.beq_eq.mp hl
    have hn := of_decide_eq_true hn
    subst hl
    intro ls' H locs cells slots S
    exact lv_sipush X.1 X.2.1 hd (fr_i16 hn) (fr_s_push (v := .inl n) (hK _ _ _ _ _ _ h) ⟨by omega, by omega⟩ ls' H locs cells slots S)
  case ldc i =>
    simp only [Bool.and_eq_true] at hen
    obtain ⟨⟨hl, hm⟩, hn⟩ := hen
    have hl := Nat.beq_eq.mp hl
    have hn := of_decide_eq_true hn
    subst hl
    obtain ⟨o, ho1, ho2⟩ := X.2.2.2.1
    intro ls' H locs cells slots S
    exact lv_ldc X.1 X.2.1 ho2 (X.w (fr_link ho1 hm) rfl) hd (fr_s_push (v := .inl ci) (hK _ _ _ _ _ _ h) hn ls' H locs cells slots S)
  case ldc_w i =>
    simp only [Bool.and_eq_true] at hen
    obtain ⟨⟨hl, hm⟩, hn⟩ := hen
    have hl := Nat.beq_eq.mp hl
    have hn := of_decide_eq_true hn
    subst hl
    obtain ⟨o, ho1, ho2⟩ := X.2.2.2.1
    intro ls' H locs cells slots S
    exact lv_ldcw X.1 X.2.1 ho2 (X.w (fr_link ho1 hm) rfl) hd (fr_s_push (v := .inl ci) (hK _ _ _ _ _ _ h) hn ls' H locs cells slots S)
  case ldc2_w i =>
    simp only [Bool.and_eq_true] at hen
    obtain ⟨hl, hm⟩ := hen
    have hl := Nat.beq_eq.mp hl
    subst hl
    obtain ⟨o, ho1, ho2⟩ := X.2.2.2.1
    intro ls' H locs cells slots S
    exact lv_ldc2 X.1 X.2.1 ho2 (X.w (fr_link ho1 hm) rfl) hd (fr_s_push (v := .inr (.inr (.inl (Int64.ofInt ci)))) (hK _ _ _ _ _ _ h) trivial ls' H locs cells slots S)
  case iload i =>
    have hl := Nat.beq_eq.mp hen
    subst hl
    obtain ⟨x, h1, h2⟩ := fr_ild_e h
    exact fr_s_ild X h1 hd (hK _ _ _ _ _ _ h2)
  case iload_n i =>
    have hl := Nat.beq_eq.mp hen
    subst hl
    obtain ⟨x, h1, h2⟩ := fr_ild_e h
    exact fr_s_ildn X h1 hd (hK _ _ _ _ _ _ h2)
  case aload i =>
    have hl := Nat.beq_eq.mp hen
    subst hl
    simp only [fr_sem] at h
    obtain ⟨v, h1, h2, h3⟩ := fr_ald_e h
    intro ls' H locs cells slots S
    have kk := fr_s_push (hK _ _ _ _ _ _ h2) (S.2.1 _ (List.mem_of_getElem? h1)) ls' H locs cells slots S
    have hv := S.1.2.2.2 _ _ h1
    rcases h3 with ⟨k, rfl⟩ | ⟨u, rfl⟩
    · exact lv_aload X.1 X.2.1 hd hv kk
    · exact lv_aload X.1 X.2.1 hd hv kk
  case aload_n i =>
    have hl := Nat.beq_eq.mp hen
    subst hl
    simp only [fr_sem] at h
    obtain ⟨v, h1, h2, h3⟩ := fr_ald_e h
    intro ls' H locs cells slots S
    have kk := fr_s_push (hK _ _ _ _ _ _ h2) (S.2.1 _ (List.mem_of_getElem? h1)) ls' H locs cells slots S
    have hv := S.1.2.2.2 _ _ h1
    rcases h3 with ⟨k, rfl⟩ | ⟨u, rfl⟩
    · exact lv_aload_n X.1 X.2.1 hd rfl hv kk
    · exact lv_aload_n X.1 X.2.1 hd rfl hv kk
  case lload_n i =>
    have hl := Nat.beq_eq.mp hen
    subst hl
    simp only [fr_sem] at h
    split at h
    · next x hq =>
      rw [fr_nth_eq] at hq
      intro ls' H locs cells slots S
      exact lv_lload_n X.1 X.2.1 hd rfl (S.1.2.2.2 _ _ hq) (fr_s_push (v := .inr (.inr (.inl x))) (hK _ _ _ _ _ _ h) trivial ls' H locs cells slots S)
    · exact h.elim
  case istore i =>
    have hl := Nat.beq_eq.mp hen
    subst hl
    obtain ⟨x, r, rfl, h1⟩ := fr_u1_e h
    obtain ⟨h2, h3⟩ := fr_cond_e h1
    intro ls' H locs cells slots S
    exact lv_istore X.1 X.2.1 hd S.1.has (by have := (fr_sk_e h2).1; have := S.1.1; omega) rfl (fun ls2 hl2 => hK _ _ _ _ _ _ h3 ls2 H locs cells slots (S.loc (fr_okt S.2.2.1) (fr_okh S.2.2.1) h2 hl2))
  case istore_n i =>
    have hl := Nat.beq_eq.mp hen
    subst hl
    obtain ⟨x, r, rfl, h1⟩ := fr_u1_e h
    obtain ⟨h2, h3⟩ := fr_cond_e h1
    intro ls' H locs cells slots S
    exact lv_istore_n X.1 X.2.1 hd rfl S.1.has (by have := (fr_sk_e h2).1; have := S.1.1; omega) rfl (fun ls2 hl2 => hK _ _ _ _ _ _ h3 ls2 H locs cells slots (S.loc (fr_okt S.2.2.1) (fr_okh S.2.2.1) h2 hl2))
  case astore_n i =>
    have hl := Nat.beq_eq.mp hen
    subst hl
    simp only [fr_sem] at h
    split at h
    · next k r =>
      obtain ⟨h2, h3⟩ := fr_cond_e h
      intro ls' H locs cells slots S
      exact lv_astore_n X.1 X.2.1 hd rfl S.1.has (by have := (fr_sk_e h2).1; have := S.1.1; omega) rfl (fun ls2 hl2 => hK _ _ _ _ _ _ h3 ls2 H locs cells slots (S.loc (v := .inr (.inl k)) (fr_okt S.2.2.1) trivial h2 hl2))
    · exact h.elim
  case iinc i n =>
    have hl := Nat.beq_eq.mp hen
    subst hl
    obtain ⟨x, h1, h2, h3⟩ := fr_ild_e h
    obtain ⟨h4, h5⟩ := fr_cond_e h3
    intro ls' H locs cells slots S
    have hm : (i, fr_rv G (.inl x)) ∈ fr_lst G ls := fr_lst_in.mpr ⟨_, h1, rfl⟩
    obtain ⟨k, hk⟩ := List.getElem?_of_mem hm
    exact lv_iinc (v := Int32.ofInt (x + n)) X.1 X.2.1 hd S.1.has hk (by rw [Int32.ofInt_add]) (by have := (fr_sk_e h4).1; have := S.1.1; omega) rfl (fun ls2 hl2 => hK _ _ _ _ _ _ h5 ls2 H locs cells slots (S.loc (v := .inl (x + n)) S.2.2.1 h2 h4 hl2))
  case dup =>
    have hl := Nat.beq_eq.mp hen
    subst hl
    simp only [fr_sem] at h
    split at h
    · next v r =>
      obtain ⟨h2, h3⟩ := fr_cond_e h
      intro ls' H locs cells slots S
      exact lv_dup X.1 X.2.1 hd (fr_catk h2) (hK _ _ _ _ _ _ h3 ls' H locs cells slots (S.stk (fr_okc (fr_okh S.2.2.1) S.2.2.1)))
    · exact h.elim
  case pop =>
    have hl := Nat.beq_eq.mp hen
    subst hl
    simp only [fr_sem] at h
    split at h
    · next v r =>
      obtain ⟨h2, h3⟩ := fr_cond_e h
      intro ls' H locs cells slots S
      exact lv_pop X.1 X.2.1 hd (fr_catk h2) (hK _ _ _ _ _ _ h3 ls' H locs cells slots (S.stk (fr_okt S.2.2.1)))
    · exact h.elim
  case dup2 =>
    have hl := Nat.beq_eq.mp hen
    subst hl
    simp only [fr_sem] at h
    split at h
    · next v w r =>
      obtain ⟨h2, h3⟩ := fr_cond_e h
      rw [Bool.and_eq_true] at h2
      intro ls' H locs cells slots S
      exact lv_dup2_11 X.1 X.2.1 hd (fr_catk h2.1) (fr_catk h2.2) (hK _ _ _ _ _ _ h3 ls' H locs cells slots (S.stk (fr_okc (fr_okh S.2.2.1) (fr_okc (fr_okh (fr_okt S.2.2.1)) S.2.2.1))))
    · exact h.elim
  case iadd =>
    have hl := Nat.beq_eq.mp hen
    subst hl
    obtain ⟨x, y, r, rfl, h1, h2⟩ := fr_b2_e h
    intro ls' H locs cells slots S
    refine lv_iadd X.1 X.2.1 hd ?_
    rw [← Int32.ofInt_add]
    exact hK _ _ _ _ _ _ h2 ls' H locs cells slots (S.stk (fr_okc h1 (fr_okt (fr_okt S.2.2.1))))
  case isub =>
    have hl := Nat.beq_eq.mp hen
    subst hl
    obtain ⟨x, y, r, rfl, h1, h2⟩ := fr_b2_e h
    intro ls' H locs cells slots S
    refine lv_isub X.1 X.2.1 hd ?_
    rw [← Int32.ofInt_sub]
    exact hK _ _ _ _ _ _ h2 ls' H locs cells slots (S.stk (fr_okc h1 (fr_okt (fr_okt S.2.2.1))))
  case imul =>
    have hl := Nat.beq_eq.mp hen
    subst hl
    obtain ⟨x, y, r, rfl, h1, h2⟩ := fr_b2_e h
    intro ls' H locs cells slots S
    refine lv_imul X.1 X.2.1 hd ?_
    rw [← Int32.ofInt_mul]
    exact hK _ _ _ _ _ _ h2 ls' H locs cells slots (S.stk (fr_okc h1 (fr_okt (fr_okt S.2.2.1))))
  case idiv =>
    have hl := Nat.beq_eq.mp hen
    subst hl
    obtain ⟨x, y, r, rfl, h1, h2⟩ := fr_b2_e h
    intro ls' H locs cells slots S
    have hy : fr_in y := fr_okh S.2.2.1
    have hx : fr_in x := fr_okh (fr_okt S.2.2.1)
    refine lv_idiv X.1 X.2.1 hd (fun q => by have := (fr_eq0 hy).mp q; omega) ?_
    rw [fr_div hx hy h1]
    exact hK _ _ _ _ _ _ h2 ls' H locs cells slots (S.stk (fr_okc (fr_in_div hx h1) (fr_okt (fr_okt S.2.2.1))))
  case irem =>
    have hl := Nat.beq_eq.mp hen
    subst hl
    obtain ⟨x, y, r, rfl, h1, h2⟩ := fr_b2_e h
    intro ls' H locs cells slots S
    have hy : fr_in y := fr_okh S.2.2.1
    have hx : fr_in x := fr_okh (fr_okt S.2.2.1)
    refine lv_irem X.1 X.2.1 hd (fun q => by have := (fr_eq0 hy).mp q; omega) ?_
    rw [fr_mod hx hy h1]
    exact hK _ _ _ _ _ _ h2 ls' H locs cells slots (S.stk (fr_okc (fr_in_mod hx h1) (fr_okt (fr_okt S.2.2.1))))
  case ineg =>
    have hl := Nat.beq_eq.mp hen
    subst hl
    obtain ⟨x, r, rfl, h1, h2⟩ := fr_u1_e h
    intro ls' H locs cells slots S
    refine lv_ineg X.1 X.2.1 hd ?_
    rw [← Int32.ofInt_neg]
    exact hK _ _ _ _ _ _ h2 ls' H locs cells slots (S.stk (fr_okc h1 (fr_okt S.2.2.1)))
  case iand =>
    have hl := Nat.beq_eq.mp hen
    subst hl
    obtain ⟨x, y, r, rfl, h2⟩ := fr_b2_e h
    intro ls' H locs cells slots S
    refine lv_iand X.1 X.2.1 hd ?_
    rw [← fr_oi (Int32.ofInt x &&& Int32.ofInt y)]
    exact hK _ _ _ _ _ _ h2 ls' H locs cells slots (S.stk (fr_okc (fr_in_toInt _) (fr_okt (fr_okt S.2.2.1))))
  case ior =>
    have hl := Nat.beq_eq.mp hen
    subst hl
    obtain ⟨x, y, r, rfl, h2⟩ := fr_b2_e h
    intro ls' H locs cells slots S
    refine lv_ior X.1 X.2.1 hd ?_
    rw [← fr_oi (Int32.ofInt x ||| Int32.ofInt y)]
    exact hK _ _ _ _ _ _ h2 ls' H locs cells slots (S.stk (fr_okc (fr_in_toInt _) (fr_okt (fr_okt S.2.2.1))))
  case ixor =>
    have hl := Nat.beq_eq.mp hen
    subst hl
    obtain ⟨x, y, r, rfl, h2⟩ := fr_b2_e h
    intro ls' H locs cells slots S
    refine lv_ixor X.1 X.2.1 hd ?_
    rw [← fr_oi (Int32.ofInt x ^^^ Int32.ofInt y)]
    exact hK _ _ _ _ _ _ h2 ls' H locs cells slots (S.stk (fr_okc (fr_in_toInt _) (fr_okt (fr_okt S.2.2.1))))
  case ishl =>
    have hl := Nat.beq_eq.mp hen
    subst hl
    obtain ⟨x, y, r, rfl, h2⟩ := fr_b2_e h
    intro ls' H locs cells slots S
    refine lv_ishl X.1 X.2.1 hd ?_
    rw [← fr_oi (Int32.ofInt x <<< (Int32.ofInt y &&& 31))]
    exact hK _ _ _ _ _ _ h2 ls' H locs cells slots (S.stk (fr_okc (fr_in_toInt _) (fr_okt (fr_okt S.2.2.1))))
  case ishr =>
    have hl := Nat.beq_eq.mp hen
    subst hl
    obtain ⟨x, y, r, rfl, h2⟩ := fr_b2_e h
    intro ls' H locs cells slots S
    refine lv_ishr X.1 X.2.1 hd ?_
    rw [← fr_oi (Int32.ofInt x >>> (Int32.ofInt y &&& 31))]
    exact hK _ _ _ _ _ _ h2 ls' H locs cells slots (S.stk (fr_okc (fr_in_toInt _) (fr_okt (fr_okt S.2.2.1))))
  case iushr =>
    have hl := Nat.beq_eq.mp hen
    subst hl
    obtain ⟨x, y, r, rfl, h2⟩ := fr_b2_e h
    intro ls' H locs cells slots S
    refine lv_iushr X.1 X.2.1 hd (v := Int32.ofInt (fr_ushr x y)) (fr_oi _).symm ?_
    exact hK _ _ _ _ _ _ h2 ls' H locs cells slots (S.stk (fr_okc (fr_in_toInt _) (fr_okt (fr_okt S.2.2.1))))
  case i2b =>
    have hl := Nat.beq_eq.mp hen
    subst hl
    obtain ⟨x, r, rfl, h2⟩ := fr_u1_e h
    intro ls' H locs cells slots S
    refine lv_i2b X.1 X.2.1 hd (v := Int32.ofInt (fr_i2b x)) (fr_oi _).symm ?_
    exact hK _ _ _ _ _ _ h2 ls' H locs cells slots (S.stk (fr_okc (fr_in_toInt _) (fr_okt S.2.2.1)))
  case i2l =>
    have hl := Nat.beq_eq.mp hen
    subst hl
    obtain ⟨x, r, rfl, h2⟩ := fr_u1_e h
    intro ls' H locs cells slots S
    refine lv_i2l X.1 X.2.1 hd rfl ?_
    exact hK _ _ _ _ _ _ h2 ls' H locs cells slots (S.stk (fr_okc trivial (fr_okt S.2.2.1)))
  case l2i =>
    have hl := Nat.beq_eq.mp hen
    subst hl
    simp only [fr_sem] at h
    split at h
    · next x r =>
      intro ls' H locs cells slots S
      refine lv_l2i X.1 X.2.1 hd (v := Int32.ofInt x.toInt32.toInt) (fr_oi _).symm ?_
      exact hK _ _ _ _ _ _ h ls' H locs cells slots (S.stk (fr_okc (fr_in_toInt _) (fr_okt S.2.2.1)))
    · exact h.elim
  case lshl =>
    have hl := Nat.beq_eq.mp hen
    subst hl
    simp only [fr_sem] at h
    split at h
    · next y x r =>
      intro ls' H locs cells slots S
      exact lv_lshl X.1 X.2.1 hd rfl (hK _ _ _ _ _ _ h ls' H locs cells slots (S.stk (fr_okc trivial (fr_okt (fr_okt S.2.2.1)))))
    · exact h.elim
  case lshr =>
    have hl := Nat.beq_eq.mp hen
    subst hl
    simp only [fr_sem] at h
    split at h
    · next y x r =>
      intro ls' H locs cells slots S
      exact lv_lshr X.1 X.2.1 hd rfl (hK _ _ _ _ _ _ h ls' H locs cells slots (S.stk (fr_okc trivial (fr_okt (fr_okt S.2.2.1)))))
    · exact h.elim
  case lushr =>
    have hl := Nat.beq_eq.mp hen
    subst hl
    simp only [fr_sem] at h
    split at h
    · next y x r =>
      intro ls' H locs cells slots S
      exact lv_lushr X.1 X.2.1 hd rfl (hK _ _ _ _ _ _ h ls' H locs cells slots (S.stk (fr_okc trivial (fr_okt (fr_okt S.2.2.1)))))
    · exact h.elim
  case land =>
    have hl := Nat.beq_eq.mp hen
    subst hl
    simp only [fr_sem] at h
    split at h
    · next y x r =>
      intro ls' H locs cells slots S
      exact lv_land X.1 X.2.1 hd (hK _ _ _ _ _ _ h ls' H locs cells slots (S.stk (fr_okc trivial (fr_okt (fr_okt S.2.2.1)))))
    · exact h.elim
  case lor =>
    have hl := Nat.beq_eq.mp hen
    subst hl
    simp only [fr_sem] at h
    split at h
    · next y x r =>
      intro ls' H locs cells slots S
      exact lv_lor X.1 X.2.1 hd (hK _ _ _ _ _ _ h ls' H locs cells slots (S.stk (fr_okc trivial (fr_okt (fr_okt S.2.2.1)))))
    · exact h.elim
  case ifCond q off =>
    rw [Bool.and_eq_true] at hen
    obtain ⟨hl, hj⟩ := hen
    have hl := Nat.beq_eq.mp hl
    subst hl
    obtain ⟨x, r, rfl, h1⟩ := fr_u1_e h
    exact fr_s_ifc X hd hj h1 (fun z => hJ _ _ z) (fun z => hK _ _ _ _ _ _ z)
  case if_icmp q off =>
    rw [Bool.and_eq_true] at hen
    obtain ⟨hl, hj⟩ := hen
    have hl := Nat.beq_eq.mp hl
    subst hl
    obtain ⟨x, y, r, rfl, h1⟩ := fr_b2_e h
    exact fr_s_icm X hd hj h1 (fun z => hJ _ _ z) (fun z => hK _ _ _ _ _ _ z)
  case goto off =>
    rw [Bool.and_eq_true] at hen
    obtain ⟨hl, hj⟩ := hen
    have hl := Nat.beq_eq.mp hl
    subst hl
    intro ls' H locs cells slots S
    exact lv_goto X.1 X.2.1 hd (fr_s_jmp X hj) (hJ _ _ h ls' H locs cells slots S)
  case tableswitch df lo hi offs =>
    simp only [Bool.and_eq_true] at hen
    obtain ⟨⟨⟨h0, h1⟩, h2⟩, h3⟩ := hen
    obtain ⟨x, r, rfl, h4⟩ := fr_u1_e h
    exact fr_s_tsw X hd h0 (of_decide_eq_true h1) (of_decide_eq_true h2) h3 h4 (fun t ht => hJ _ _ ht)
  case lookupswitch df ps =>
    simp only [Bool.and_eq_true] at hen
    obtain ⟨⟨⟨h0, h1⟩, h2⟩, h3⟩ := hen
    obtain ⟨x, r, rfl, h4⟩ := fr_u1_e h
    obtain ⟨t, t1, t2⟩ := fr_lsw_e h4 h0 h2
    intro ls' H locs cells slots S
    have hx : fr_in x := fr_okh S.2.2.1
    exact lv_lookup X.1 X.2.1 hd h3 (by rw [fr_ti hx]) t2 (hJ _ _ t1 ls' H locs cells slots (S.stk (fr_okt S.2.2.1)))
  case getfield i =>
    simp only [Bool.and_eq_true] at hen
    obtain ⟨⟨⟨hl, hm⟩, hc⟩, hb⟩ := hen
    have hl := Nat.beq_eq.mp hl
    subst hl
    simp only [fr_sem] at h
    split at h
    · next k r =>
      obtain ⟨fs, h1, h2⟩ := fr_obj_e h
      split at h2
      · next hq =>
        rw [fr_nth_eq] at hq
        exact fr_s_get X h1 hd hm (Nat.blt_eq.mp hb) (of_decide_eq_true hc) (Or.inl ⟨hq, rfl⟩) (hK _ _ _ _ _ _ h2)
      · next q hq =>
        rw [fr_nth_eq] at hq
        exact fr_s_get X h1 hd hm (Nat.blt_eq.mp hb) (of_decide_eq_true hc) (Or.inr ⟨q, hq, rfl⟩) (hK _ _ _ _ _ _ h2)
      · exact h2.elim
    · exact h.elim
  case putfield i =>
    simp only [Bool.and_eq_true] at hen
    obtain ⟨⟨⟨⟨⟨hl, hm⟩, hc⟩, hb⟩, hf⟩, hty⟩ := hen
    have hl := Nat.beq_eq.mp hl
    subst hl
    have hc := of_decide_eq_true hc
    subst hc
    have hfin : fr_final a b = true → rc.2.2.2.2.2.2.2.1 = 2 ∧ rc.1 = a := by
      intro hq
      rw [if_pos hq, Bool.and_eq_true] at hf
      exact ⟨Nat.beq_eq.mp hf.1, Nat.beq_eq.mp hf.2⟩
    have hbN := Nat.blt_eq.mp hb
    simp only [fr_sem] at h
    split at h
    · next x k r =>
      obtain ⟨fs, h1, h2⟩ := fr_obj_e h
      split at h2
      · next hq =>
        rw [fr_nth_eq] at hq
        have main : (narrow (fr_fty a b) (fr_rv G (.inl x)) = fr_rv G (.inl x) ∧ fits (fr_fty a b) (fr_rv G (.inl x)) = true) → K ls r sh (fr_up M k (b : Int) x) bc bs → fr_Wt p l e R s m args below meth c Z G rc.2.2.2.1 pc ls (.inl x :: .inr (.inl k) :: r) sh M bc bs := by
          intro hn hk
          refine fr_s_put X (fs2 := fs) (M2 := fr_up M k (b : Int) x) h1 hd hm hbN hfin hn.1 hn.2 rfl (fun j _ => fr_fv_up hq j) (fun j hj => fr_up_o hj) (fun i1 i2 => fr_up_in i1 i2) ?_
          rw [fr_set_self h1]
          exact hK _ _ _ _ _ _ hk
        split at hty
        · next ht =>
          have hdd := of_decide_eq_true hty
          subst hdd
          exact main (by rw [ht]; exact ⟨rfl, rfl⟩) h2
        · next ht =>
          have hdd := of_decide_eq_true hty
          subst hdd
          exact main (by rw [ht]; exact ⟨fr_nar1 h2.1, by have := fits_narrow_boolean (Int32.ofInt x); rw [fr_nar1 h2.1] at this; exact this⟩) h2.2
        · next ht =>
          have hdd := of_decide_eq_true hty
          subst hdd
          exact h2.elim
        · next ht =>
          have hdd := of_decide_eq_true hty
          subst hdd
          exact h2.elim
        · cases hty
      · exact h2.elim
    · next q k r =>
      obtain ⟨fs, h1, h2⟩ := fr_obj_e h
      split at h2
      · next z hq =>
        rw [fr_nth_eq] at hq
        have hlt : b < fs.length := (List.getElem?_eq_some_iff.mp hq).1
        have main : (narrow (fr_fty a b) (fr_rv G (.inr (.inl q))) = fr_rv G (.inr (.inl q)) ∧ fits (fr_fty a b) (fr_rv G (.inr (.inl q))) = true) → K ls r (fr_stn sh k (.inr (a, fr_stn fs b (some (some q))))) M bc bs → fr_Wt p l e R s m args below meth c Z G rc.2.2.2.1 pc ls (.inr (.inl q) :: .inr (.inl k) :: r) sh M bc bs := by
          intro hn hk
          rw [fr_stn_eq, fr_stn_eq] at hk
          exact fr_s_put X (fs2 := fs.set b (some (some q))) (M2 := M) h1 hd hm hbN hfin hn.1 hn.2 (by rw [List.length_set]) (fun j _ => fr_fv_set hlt j) (fun j hj => rfl) (fun i1 i2 => i1) (hK _ _ _ _ _ _ hk)
        split at hty
        · next ht =>
          have hdd := of_decide_eq_true hty
          subst hdd
          exact h2.elim
        · next ht =>
          have hdd := of_decide_eq_true hty
          subst hdd
          exact h2.elim
        · next ht =>
          have hdd := of_decide_eq_true hty
          subst hdd
          exact main (by rw [ht]; exact ⟨rfl, rfl⟩) h2
        · next ht =>
          have hdd := of_decide_eq_true hty
          subst hdd
          exact main (by rw [ht]; exact ⟨rfl, rfl⟩) h2
        · cases hty
      · exact h2.elim
    · exact h.elim
  case iaload =>
    have hl := Nat.beq_eq.mp hen
    subst hl
    simp only [fr_sem] at h
    split at h
    · next i k r =>
      obtain ⟨t, n, h1, h2⟩ := fr_arr_e h
      obtain ⟨h3, h4, h5⟩ := fr_cond_e h2
      exact fr_s_ald X h1 h4 (Or.inl ⟨Nat.beq_eq.mp h3, hd⟩) (hK _ _ _ _ _ _ h5)
    · next i u r =>
      split at h
      · next n f hs => exact fr_s_sld X rfl h.1 hd (hK _ _ _ _ _ _ h.2)
      · exact h.elim
    · exact h.elim
  case baload =>
    have hl := Nat.beq_eq.mp hen
    subst hl
    simp only [fr_sem] at h
    split at h
    · next i k r =>
      obtain ⟨t, n, h1, h2⟩ := fr_arr_e h
      obtain ⟨h3, h4, h5⟩ := fr_cond_e h2
      rw [Bool.or_eq_true] at h3
      exact fr_s_ald X h1 h4 (Or.inr ⟨h3.elim (fun z => Or.inl (Nat.beq_eq.mp z)) (fun z => Or.inr (Nat.beq_eq.mp z)), hd⟩) (hK _ _ _ _ _ _ h5)
    · exact h.elim
  case iastore =>
    have hl := Nat.beq_eq.mp hen
    subst hl
    simp only [fr_sem] at h
    split at h
    · next x i k r =>
      obtain ⟨t, n, h1, h2⟩ := fr_arr_e h
      obtain ⟨h3, h4, h5⟩ := fr_cond_e h2
      exact fr_s_ast X h1 h4 (Or.inl ⟨Nat.beq_eq.mp h3, hd⟩) (hK _ _ _ _ _ _ h5)
    · exact h.elim
  case bastore =>
    have hl := Nat.beq_eq.mp hen
    subst hl
    simp only [fr_sem] at h
    split at h
    · next x i k r =>
      obtain ⟨t, n, h1, h2⟩ := fr_arr_e h
      cases h3 : Nat.beq t 1 with
      | true =>
        rw [h3] at h2
        exact fr_s_ast X h1 h2.1.1 (Or.inr (Or.inl ⟨Nat.beq_eq.mp h3, h2.1.2, hd⟩)) (hK _ _ _ _ _ _ h2.2)
      | false =>
        rw [h3] at h2
        obtain ⟨h4, h5, h6⟩ := fr_cond_e h2
        exact fr_s_ast X h1 h5.1 (Or.inr (Or.inr ⟨Nat.beq_eq.mp h4, h5.2, hd⟩)) (hK _ _ _ _ _ _ h6)
    · exact h.elim
  case arraylength =>
    have hl := Nat.beq_eq.mp hen
    subst hl
    simp only [fr_sem] at h
    split at h
    · next k r =>
      obtain ⟨t, n, h1, h2⟩ := fr_arr_e h
      exact fr_s_alen X h1 hd (hK _ _ _ _ _ _ h2)
    · next u r =>
      split at h
      · next n f => exact fr_s_slen X rfl h.1 hd (hK _ _ _ _ _ _ h.2)
      · exact h.elim
    · exact h.elim
  case newarray t =>
    rw [Bool.and_eq_true] at hen
    obtain ⟨hl, ht⟩ := hen
    have hl := Nat.beq_eq.mp hl
    subst hl
    simp only [fr_sem] at h
    split at h
    · next n r =>
      obtain ⟨h1, h2⟩ := fr_cond_e h
      simp only [Bool.and_eq_true, decide_eq_true_eq] at h1
      obtain ⟨g1, g2, g3, g4⟩ := h1
      have hta : newarray.typeOf t = fr_aty a ∧ a ≤ 2 := by
        split at ht
        · have e := Nat.beq_eq.mp ht; subst e; exact ⟨rfl, by omega⟩
        · have e := Nat.beq_eq.mp ht; subst e; exact ⟨rfl, by omega⟩
        · have e := Nat.beq_eq.mp ht; subst e; exact ⟨rfl, by omega⟩
        · cases ht
      exact fr_s_newa X hta.1 hta.2 ⟨g3, g4⟩ (Nat.le_of_ble_eq_true g1) (Nat.le_of_ble_eq_true g2) hd (hK _ _ _ _ _ _ h2)
    · exact h.elim
  case new i =>
    simp only [Bool.and_eq_true] at hen
    obtain ⟨⟨⟨hl, hm⟩, hb⟩, ha⟩ := hen
    have hl := Nat.beq_eq.mp hl
    subst hl
    obtain ⟨h1, h2⟩ := fr_cond_e h
    rw [Bool.and_eq_true] at h1
    exact fr_s_new X hm (Nat.beq_eq.mp hb) (Nat.blt_eq.mp ha) (Nat.le_of_ble_eq_true h1.1) (Nat.le_of_ble_eq_true h1.2) hd (hK _ _ _ _ _ _ h2)
  case invokespecial i =>
    rw [Bool.and_eq_true] at hen
    obtain ⟨hl, hc⟩ := hen
    have hl := Nat.beq_eq.mp hl
    subst hl
    simp only [fr_sem] at h
    by_cases ha : a = 999
    · rw [if_pos ha] at hc
      subst ha
      simp only [Bool.and_eq_true] at hc
      obtain ⟨⟨hm, hf⟩, ho⟩ := hc
      simp only [show Nat.beq 999 999 = true from rfl, cond_true] at h
      split at h
      · next k r =>
        obtain ⟨h1, h2⟩ := fr_cond_e h
        obtain ⟨o, ho1, ho2⟩ := X.2.2.2.1
        intro ls' H locs cells slots S
        have hRf := X.2.2.2.2.2.2.1
        have q1 := Nat.le_of_ble_eq_true hf
        have q2 := Nat.le_of_ble_eq_true ho
        have q3 := Nat.le_of_ble_eq_true h1
        exact W.objInit X.1 X.2.1 ho2 (X.w (fr_link ho1 hm) rfl) (X.w fr_w_oi rfl) (X.w fr_w_oc rfl) rfl (S.1.2.1.trans X.2.2.1.symm) (a := G.1 + k) (rest := r.map (fr_rv G)) rfl hd (Nat.le_trans q1 hRf.1) (by rw [fr_wd_sum]; show 2 * 0 + _ + _ ≤ _; omega) (hK _ _ _ _ _ _ h2 ls' H locs cells slots (S.stk (fr_okt S.2.2.1)))
      · exact h.elim
    · rw [if_neg ha] at hc
      have hb : Nat.beq a 999 = false := by
        cases hq : Nat.beq a 999 with
        | false => rfl
        | true => exact absurd (Nat.beq_eq.mp hq) ha
      rw [hb] at h
      obtain ⟨h1, h2⟩ := fr_cond_e h
      have hk : ∃ k, fr_nth st (d.headD 0 - 1) = some (.inr (.inl k)) := by
        unfold fr_isr at h1
        split at h1
        · next k hq => exact ⟨k, hq⟩
        · cases h1
      exact fr_s_inv X hc (Or.inr (Or.inl ⟨rfl, hk, hd⟩)) h2 hK hC
  case invokevirtual i =>
    simp only [Bool.and_eq_true] at hen
    obtain ⟨⟨⟨hl, hc⟩, hb⟩, hr⟩ := hen
    have hl := Nat.beq_eq.mp hl
    subst hl
    obtain ⟨h1, h2⟩ := fr_cond_e h
    split at hr
    · next r hr' =>
      rw [fr_nth_eq] at hr'
      exact fr_s_inv X hc (Or.inr (Or.inr ⟨rfl, hd, b, r, Nat.blt_eq.mp hb, h1, hr', Nat.beq_eq.mp hr⟩)) h2 hK hC
    · cases hr
  case invokestatic i =>
    rw [Bool.and_eq_true] at hen
    obtain ⟨hl, hc⟩ := hen
    have hl := Nat.beq_eq.mp hl
    subst hl
    simp only [fr_sem] at h
    have hnb : ∀ k, a ≠ k → Nat.beq a k = false := by
      intro k hk
      cases hq : Nat.beq a k with
      | false => rfl
      | true => exact absurd (Nat.beq_eq.mp hq) hk
    obtain ⟨o, ho1, ho2⟩ := X.2.2.2.1
    have hRf := X.2.2.2.2.2.2.1
    by_cases ha : a = 998
    · rw [if_pos ha] at hc
      subst ha
      simp only [Bool.and_eq_true] at hc
      obtain ⟨⟨hm, hf⟩, ho⟩ := hc
      simp only [show Nat.beq 998 998 = true from rfl, cond_true] at h
      split at h
      · next n dp kd sp ks r =>
        obtain ⟨t0, n0, h1, h2⟩ := fr_arr_e h
        obtain ⟨t1, n1, h3, h4⟩ := fr_arr_e h2
        obtain ⟨h5, h6, h7⟩ := fr_cond_e h4
        simp only [Bool.and_eq_true] at h5
        have e0 := Nat.beq_eq.mp h5.1
        have e1 := Nat.beq_eq.mp h5.2.1
        subst e0; subst e1
        exact fr_s_copy X hm (Nat.le_of_ble_eq_true hf) (Nat.le_of_ble_eq_true ho) h1 h3 (Nat.le_of_ble_eq_true h5.2.2) h6 hd (hK _ _ _ _ _ _ h7)
      · exact h.elim
    · rw [if_neg ha] at hc
      rw [hnb 998 ha] at h
      by_cases ha5 : a = 995
      · subst ha5
        rw [if_pos (Or.inl rfl)] at hc
        simp only [Bool.and_eq_true] at hc
        obtain ⟨⟨hm, hf⟩, ho⟩ := hc
        have q1 := Nat.le_of_ble_eq_true hf
        have q2 := Nat.le_of_ble_eq_true ho
        obtain ⟨x, y, r, rfl, h1⟩ := fr_b2_e (show fr_b2 st (fun x y r => cond (Nat.ble (fr_wd r) 8) (K ls (.inl (min x y) :: r) sh M bc bs) False) from h)
        obtain ⟨h2, h3⟩ := fr_cond_e h1
        have q3 := Nat.le_of_ble_eq_true h2
        intro ls' H locs cells slots S
        have hy : fr_in y := fr_okh S.2.2.1
        have hx : fr_in x := fr_okh (fr_okt S.2.2.1)
        have hRc := S.2.2.2.2.2.2.1
        have hRs := S.2.2.2.2.2.2.2
        refine va_mmin X.1 X.2.1 (X.2.2.1.trans S.1.2.1.symm) ho2 (X.w (fr_link ho1 hm) rfl) (X.w fr_w_smin rfl) (X.w fr_w_mi rfl) (X.w fr_w_cmin rfl) (Nat.le_trans q1 hRf.1) (by rw [fr_wd_sum]; omega) (by omega) (by omega) hd ?_
        rw [fr_min hx hy]
        exact hK _ _ _ _ _ _ h3 ls' H locs cells slots (S.stk (fr_okc (fr_in_min hx hy) (fr_okt (fr_okt S.2.2.1))))
      · rw [hnb 995 ha5] at h
        by_cases ha6 : a = 996
        · subst ha6
          rw [if_pos (Or.inr (Or.inl rfl))] at hc
          simp only [Bool.and_eq_true] at hc
          obtain ⟨⟨hm, hf⟩, ho⟩ := hc
          have q1 := Nat.le_of_ble_eq_true hf
          have q2 := Nat.le_of_ble_eq_true ho
          obtain ⟨x, y, r, rfl, h1⟩ := fr_b2_e (show fr_b2 st (fun x y r => cond (Nat.ble (fr_wd r) 8) (K ls (.inl (max x y) :: r) sh M bc bs) False) from h)
          obtain ⟨h2, h3⟩ := fr_cond_e h1
          have q3 := Nat.le_of_ble_eq_true h2
          intro ls' H locs cells slots S
          have hy : fr_in y := fr_okh S.2.2.1
          have hx : fr_in x := fr_okh (fr_okt S.2.2.1)
          have hRc := S.2.2.2.2.2.2.1
          have hRs := S.2.2.2.2.2.2.2
          refine va_mmax X.1 X.2.1 (X.2.2.1.trans S.1.2.1.symm) ho2 (X.w (fr_link ho1 hm) rfl) (X.w fr_w_smax rfl) (X.w fr_w_mi rfl) (X.w fr_w_cmax rfl) (Nat.le_trans q1 hRf.1) (by rw [fr_wd_sum]; omega) (by omega) (by omega) hd ?_
          rw [fr_max hx hy]
          exact hK _ _ _ _ _ _ h3 ls' H locs cells slots (S.stk (fr_okc (fr_in_max hx hy) (fr_okt (fr_okt S.2.2.1))))
        · rw [hnb 996 ha6] at h
          by_cases ha7 : a = 997
          · subst ha7
            rw [if_pos (Or.inr (Or.inr rfl))] at hc
            simp only [Bool.and_eq_true] at hc
            obtain ⟨⟨hm, hf⟩, ho⟩ := hc
            have q1 := Nat.le_of_ble_eq_true hf
            have q2 := Nat.le_of_ble_eq_true ho
            obtain ⟨x, r, rfl, h1⟩ := fr_u1_e (show fr_u1 st (fun x r => cond (Nat.ble (fr_wd r) 8) ((0 ≤ x → K ls (.inl x :: r) sh M bc bs) ∧ (¬ 0 ≤ x → fr_in (-x) ∧ K ls (.inl (-x) :: r) sh M bc bs)) False) from h)
            obtain ⟨h2, h3, h4⟩ := fr_cond_e h1
            have q3 := Nat.le_of_ble_eq_true h2
            intro ls' H locs cells slots S
            have hx : fr_in x := fr_okh S.2.2.1
            have hRc := S.2.2.2.2.2.2.1
            have hRs := S.2.2.2.2.2.2.2
            refine va_mabs X.1 X.2.1 (X.2.2.1.trans S.1.2.1.symm) ho2 (X.w (fr_link ho1 hm) rfl) (X.w fr_w_sabs rfl) (X.w fr_w_mi rfl) (X.w fr_w_cabs rfl) (Nat.le_trans q1 hRf.1) (by rw [fr_wd_sum]; omega) (by omega) (by omega) hd ?_
            by_cases h0 : 0 ≤ x
            · rw [if_pos ((fr_0le hx).mpr h0)]
              exact hK _ _ _ _ _ _ (h3 h0) ls' H locs cells slots (S.stk (fr_okc hx (fr_okt S.2.2.1)))
            · rw [if_neg (fun q => h0 ((fr_0le hx).mp q)), show (0 : Int32) - Int32.ofInt x = Int32.ofInt (-x) by rw [Int32.ofInt_neg]; simp]
              exact hK _ _ _ _ _ _ (h4 h0).2 ls' H locs cells slots (S.stk (fr_okc (h4 h0).1 (fr_okt S.2.2.1)))
          · rw [hnb 997 ha7] at h
            rw [if_neg (by omega)] at hc
            exact fr_s_inv X hc (Or.inl ⟨rfl, hd⟩) h hK hC
  case ireturn =>
    rw [Bool.and_eq_true] at hen
    obtain ⟨hl, hc⟩ := hen
    have hl := Nat.beq_eq.mp hl
    subst hl
    simp only [fr_sem] at h
    split at h
    · next x =>
      split at hc
      · next hr =>
        have e := Nat.beq_eq.mp hc
        subst e
        exact hR (some (.inl x)) h ⟨hd, Or.inl hr⟩
      · next hr =>
        have e := Nat.beq_eq.mp hc
        subst e
        exact hR (some (.inl x)) h.2 ⟨hd, Or.inr ⟨hr, h.1⟩⟩
      · cases hc
    · exact h.elim
  case areturn =>
    rw [Bool.and_eq_true] at hen
    obtain ⟨hl, hc⟩ := hen
    have hl := Nat.beq_eq.mp hl
    subst hl
    simp only [fr_sem] at h
    split at h
    · next k =>
      split at hc
      · next n hr => exact hR (some (.inr (.inl k))) h ⟨hd, n, hr⟩
      · cases hc
    · exact h.elim
  case return_ =>
    rw [Bool.and_eq_true] at hen
    obtain ⟨hl, hc⟩ := hen
    have hl := Nat.beq_eq.mp hl
    subst hl
    simp only [fr_sem] at h
    split at h
    · split at hc
      · next hr => exact hR none h ⟨hd, hr⟩
      · cases hc
    · exact h.elim
end FrSound
