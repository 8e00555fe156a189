/-! ===== fields, rows, new cells ===== -/
theorem fr_decl_all : vwCl.all (fun r => (List.range r.2.2).all (fun b => decide ((r.2.1 b).1 = r.1))) = true := by decide +kernel
theorem fr_decl {a b : Nat} {r : vw_C} (h : vwCl[a]? = some r) (hb : b < r.2.2) : (r.2.1 b).1 = r.1 := of_decide_eq_true (List.all_eq_true.mp (List.all_eq_true.mp fr_decl_all r (List.mem_of_getElem? h)) b (List.mem_range.mpr hb))
def fr_tyk (ty : FieldType) : Bool := match ty with
  | .int => true
  | .boolean => true
  | .object _ => true
  | .array _ => true
  | _ => false
theorem fr_tyg_all : (List.range 13).all (fun a => (List.range (fr_cnt a)).all (fun j => fr_tyk (fr_fty a j))) = true := by decide +kernel
theorem fr_tyg {a j : Nat} {rr : vw_C} (h : vwCl[a]? = some rr) (hj : j < rr.2.2) : fr_tyk (fr_fty a j) = true := by
  have ha : a < 13 := (List.getElem?_eq_some_iff.mp h).1
  refine List.all_eq_true.mp (List.all_eq_true.mp fr_tyg_all a (List.mem_range.mpr ha)) j (List.mem_range.mpr ?_)
  unfold fr_cnt
  simp only [fr_nth_eq, h]
  exact hj
section FrMem
variable {p : Program} {l : Launch} {e : Env} {R : Room} {s : State} {m : MethodId} {args : Array Value} {below : List Frame} {meth : Method} {c : Code} {Z : State → Prop} {G : fr_G} {rc : fr_T} {scr : Option (Nat × (Int → Int))}
variable {ls : fr_L} {st : List fr_V} {sh : fr_H} {M : fr_M} {bc bs pc : Nat}
theorem fr_wf0 {own : Nat} {o : String} {i a b : Nat} {r : vw_C} (ho : fr_own[own]? = some o) (h : fr_mem own (0, i, a, b, 0) = true) (hr : vwCl[a]? = some r) : Cond.fieldLink o i (r.2.1 b).1 (r.2.1 b).2.1 (r.2.1 b).2.2.1 ∈ lw_tbl := by
  have h1 := fr_link ho h
  unfold fr_word at h1
  simp only [fr_nth_eq, hr] at h1
  exact h1
theorem fr_s_get (X : fr_X rc p R s m args meth c G scr) {i a b k : Nat} {ci : Int} {fs : fr_F} {v : fr_V} {r : List fr_V} (hk : sh[k]? = some (.inr (a, fs))) (hd : decode rc.2.2.1 pc = .ok (.getfield i, 3)) (hm : fr_mem rc.1 (0, i, a, b, 0) = true) (hb : b < fr_cnt a) (hci : ci = (b : Int))
    (hv : (fs[b]? = some none ∧ v = .inl (M k ci)) ∨ ∃ q, fs[b]? = some (some (some q)) ∧ v = .inr (.inl q))
    (k2 : fr_Wt p l e R s m args below meth c Z G rc.2.2.2.1 (pc + 3) ls (v :: r) sh M bc bs) : fr_Wt p l e R s m args below meth c Z G rc.2.2.2.1 pc ls (.inr (.inl k) :: r) sh M bc bs := by
  intro ls' H locs cells slots S
  obtain ⟨o, ho1, ho2⟩ := X.2.2.2.1
  obtain ⟨rr, h1, h2, cell, q1, q2, q3, q4⟩ := S.2.2.2.2.1.2 k _ hk
  have hcl := fr_cls h1
  have hin := fr_lays_good hcl.1
  have hbN : b < rr.2.2 := by
    unfold fr_cnt at hb
    simp only [fr_nth_eq, h1] at hb
    exact hb
  obtain ⟨hS, hfc, kC, hkC, hkind⟩ := X.2.2.2.2.2.1.1 a _ h1
  obtain ⟨cf, kf, fi, f, hi, hsl⟩ := hS b hbN
  have hlink := X.w (fr_wf0 ho1 hm h1) rfl
  refine W.getf (v := fr_rv G v) X.1 X.2.1 ho2 hlink hi (u_facts hfc hkC (u_lays X.2.2.2.2.1 hin hbN) hi).1 q1 (by rw [q3]; exact fun h => by cases h) ?_ rfl rfl hd ?_
  · rw [hsl, q4 b hbN]
    unfold fr_fv
    rcases hv with ⟨e1, e2⟩ | ⟨q, e1, e2⟩
    · rw [e1, e2, hci]; rfl
    · rw [e1, e2]; rfl
  · refine k2 ls' H locs cells slots (S.stk (fr_okc ?_ (fr_okt S.2.2.1)))
    rcases hv with ⟨e1, e2⟩ | ⟨q, e1, e2⟩
    · rw [e2]; exact S.2.2.2.1 _ _
    · rw [e2]; trivial
/-- a field is written: what the heap holds then -/
theorem fr_P.fput {H H1 : Heap} {k a b : Nat} {fs fs2 : fr_F} {M2 : fr_M} {rr : vw_C} {cell : Cell} {v : Value} {iS : Nat} (h : fr_P G sh M H) (hk : sh[k]? = some (.inr (a, fs))) (h1 : vwCl[a]? = some rr) (hl : fs2.length = rr.2.2) (q2 : cell.cls = G.2.2.1.1 a) (q3 : cell.vm = .none) (q4 : ∀ j, j < rr.2.2 → cell.slots[G.2.2.1.2 a j]? = some (fr_fv G fs (M k) j)) (hap : ∀ x y, x < rr.2.2 → y < rr.2.2 → x ≠ y → G.2.2.1.2 a x ≠ G.2.2.1.2 a y) (hb : b < rr.2.2) (hsl : iS = G.2.2.1.2 a b)
    (e1 : H1[G.1 + k]? = some (cell.setSlot iS v)) (e2 : H1.size = H.size) (e3 : ∀ q, q ≠ G.1 + k → H1[q]? = H[q]?) (hv : ∀ j, j < rr.2.2 → updV (fr_fv G fs (M k)) b v j = fr_fv G fs2 (M2 k) j) (hM : ∀ j, j ≠ k → M2 j = M j) : fr_P G (sh.set k (.inr (a, fs2))) M2 H1 := by
  subst hsl
  refine ⟨by rw [e2, h.1, List.length_set], fun j cl hj => ?_⟩
  have hlt : k < sh.length := (List.getElem?_eq_some_iff.mp hk).1
  by_cases hjk : j = k
  · subst hjk
    rw [List.getElem?_set_self hlt] at hj
    cases hj
    exact ⟨rr, h1, hl, t_OB.to ⟨_, e1, q2, q3, t_set q4 hap hb v⟩ hv⟩
  · rw [List.getElem?_set_ne (fun q => hjk q.symm)] at hj
    exact (h.2 j cl hj).kept (e3 _ (by omega)) (hM j hjk).symm
theorem fr_set_self {α : Type} {l : List α} {k : Nat} {a : α} (h : l[k]? = some a) : l.set k a = l := by
  apply List.ext_getElem?
  intro j
  by_cases e : k = j
  · subst e
    rw [List.getElem?_set_self (List.getElem?_eq_some_iff.mp h).1, h]
  · rw [List.getElem?_set_ne e]
/-- a field's type and the kind that the machine keeps of it -/
theorem fr_s_put (X : fr_X rc p R s m args meth c G scr) {i a b k : Nat} {fs fs2 : fr_F} {M2 : fr_M} {v : fr_V} {r : List fr_V} (hk : sh[k]? = some (.inr (a, fs))) (hd : decode rc.2.2.1 pc = .ok (.putfield i, 3)) (hm : fr_mem rc.1 (0, i, a, b, 0) = true) (hb : b < fr_cnt a) (hfin : fr_final a b = true → rc.2.2.2.2.2.2.2.1 = 2 ∧ rc.1 = a)
    (hn : narrow (fr_fty a b) (fr_rv G v) = fr_rv G v) (hfit : fits (fr_fty a b) (fr_rv G v) = true) (hl : fs2.length = fs.length) (hv : ∀ j, j < fs.length → updV (fr_fv G fs (M k)) b (fr_rv G v) j = fr_fv G fs2 (M2 k) j) (hM : ∀ j, j ≠ k → M2 j = M j) (hMi : (∀ k i, fr_in (M k i)) → fr_ok v → ∀ k i, fr_in (M2 k i))
    (k2 : fr_Wt p l e R s m args below meth c Z G rc.2.2.2.1 (pc + 3) ls r (sh.set k (.inr (a, fs2))) M2 bc bs) : fr_Wt p l e R s m args below meth c Z G rc.2.2.2.1 pc ls (v :: .inr (.inl k) :: r) sh M bc bs := by
  intro ls' H locs cells slots S
  obtain ⟨o, ho1, ho2⟩ := X.2.2.2.1
  obtain ⟨rr, h1, h2, cell, q1, q2, q3, q4⟩ := S.2.2.2.2.1.2 k _ hk
  have hcl := fr_cls h1
  have hin := fr_lays_good hcl.1
  have hts := X.2.2.2.2.1
  have hbN : b < rr.2.2 := by
    unfold fr_cnt at hb
    simp only [fr_nth_eq, h1] at hb
    exact hb
  have hKK := X.2.2.2.2.2.1
  have hap := va_apart (own := o) hts hin (fr_fty a) hcl.2.1 hcl.2.2 hKK h1
  obtain ⟨hS, hfc, kC, hkC, hkind⟩ := hKK.1 a _ h1
  obtain ⟨cf, kf, fi, f, hi, hsl⟩ := hS b hbN
  have hlink := X.w (fr_wf0 ho1 hm h1) rfl
  have hlay := hts _ (hin _ (u_in_lay hbN))
  have hst := (u_facts hfc hkC (u_lays hts hin hbN) hi).1
  have fin : ∀ H' : Heap, H'[G.1 + k]? = some (cell.setSlot f.slot (fr_rv G v)) → H'.size = H.size → (∀ q, q ≠ G.1 + k → H'[q]? = H[q]?) → W p l e R s m args below meth c H' (locs ++ [⟨G.1 + k, f.slot⟩]) cells slots Z (F0 m (pc + 3) ls' (r.map (fr_rv G))) := by
    intro H' e1 e2 e3
    refine k2 ls' H' _ cells slots ⟨S.1, S.2.1, fr_okt (fr_okt S.2.2.1), hMi S.2.2.2.1 (fr_okh S.2.2.1), S.2.2.2.2.1.fput hk h1 (hl.trans h2) q2 q3 q4 hap hbN hsl e1 e2 e3 (fun j hj => hv j (by rw [h2]; exact hj)) hM, S.2.2.2.2.2.1.put e2 e3 (Nat.le_add_right _ _), S.2.2.2.2.2.2⟩
  have hfe : fr_final a b = (rr.2.1 b).2.2.2 := by
    unfold fr_final
    simp only [fr_nth_eq, h1]
  cases hf : (rr.2.1 b).2.2.2 with
  | false =>
    unfold u_lay at hlay
    rw [if_neg (by rw [hf]; decide)] at hlay
    have h6 := u_store hfc hkC hkind hlay hi (hcl.2.1 b hbN) hn hfit
    exact W.putK X.1 X.2.1 (f := f) ⟨ho2, hlink, ⟨_, _, _, hi⟩, hst⟩ (by rw [q2]; exact h6) q1 q3 (by rw [hsl]; exact k2_hasslot (q4 b hbN)) rfl rfl hd fin
  | true =>
    obtain ⟨f1, f2⟩ := hfin (hfe.trans hf)
    unfold u_lay at hlay
    rw [if_pos hf] at hlay
    have hoC : o = rr.1 := by
      rw [f2, (fr_cls2 h1).1] at ho1
      exact (Option.some.inj ho1).symm
    have hcf : m.cls = cf := by
      obtain ⟨_, _, c', _, _, _, -, -, hf', -, -, -, hown2, -⟩ := Cond.laysFinal_spec hlay
      have e1 : c' = cf := by have := hi.symm.trans hf'; simp at this; exact this.1.symm
      have hdecl : (rr.2.1 b).1 = rr.1 := fr_decl h1 hbN
      rw [hdecl] at hown2
      rw [← e1]; exact Option.some.inj ((hoC ▸ ho2).symm.trans hown2)
    have h6 := u_fits hfc hkC hkind (Or.inr hlay) hi (hcl.2.1 b hbN) hn hfit
    exact W.putFinK X.1 X.2.1 ho2 hlink hi hst hcf (X.2.2.2.2.2.2.2.2.1 f1) (by rw [q2]; exact h6) q1 q3 (by rw [hsl]; exact k2_hasslot (q4 b hbN)) rfl rfl hd fin
theorem fr_rowin {H : Heap} {k t n : Nat} {i : Int} (hi : fr_in i) (h : 0 ≤ i ∧ i < (n : Int)) : ¬ (Int32.ofInt i < 0 ∨ (fr_row G t n (M k)).slots.size ≤ (Int32.ofInt i).toNatClampNeg) := by
  unfold fr_row
  rw [arrV_size]
  exact fr_vin hi h
theorem fr_rowat {k t n : Nat} {i : Int} (hi : fr_in i) (h : 0 ≤ i ∧ i < (n : Int)) : (fr_row G t n (M k)).slots[(Int32.ofInt i).toNatClampNeg]? = some (.int (Int32.ofInt (M k i))) := by
  unfold fr_row
  rw [fr_cl hi, arrV_read _ _ (by omega)]
  have : ((i.toNat : Nat) : Int) = i := by omega
  rw [this]
theorem fr_s_ald (X : fr_X rc p R s m args meth c G scr) {k t n : Nat} {i : Int} {r : List fr_V} (hk : sh[k]? = some (.inl (t, n))) (hi : 0 ≤ i ∧ i < (n : Int)) (hd : (t = 0 ∧ decode rc.2.2.1 pc = .ok (.iaload, 1)) ∨ ((t = 1 ∨ t = 2) ∧ decode rc.2.2.1 pc = .ok (.baload, 1)))
    (k2 : fr_Wt p l e R s m args below meth c Z G rc.2.2.2.1 (pc + 1) ls (.inl (M k i) :: r) sh M bc bs) : fr_Wt p l e R s m args below meth c Z G rc.2.2.2.1 pc ls (.inl i :: .inr (.inl k) :: r) sh M bc bs := by
  intro ls' H locs cells slots S
  obtain ⟨h1, h2, h3⟩ := S.2.2.2.2.1.2 k _ hk
  have hi' : fr_in i := fr_okh S.2.2.1
  have kk := k2 ls' H locs cells slots (S.stk (fr_okc (S.2.2.2.1 k i) (fr_okt (fr_okt S.2.2.1))))
  have ha := X.2.2.2.2.2.1.arr h2
  rcases hd with ⟨rfl, hd⟩ | ⟨rfl | rfl, hd⟩
  · exact W.iald X.1 X.2.1 h3 (ha n _) (fun q => by cases q) (fr_rowin (H := H) hi' hi) (fr_rowat hi' hi) rfl rfl hd kk
  · exact W.zald X.1 X.2.1 h3 (ha n _) (fun q => by cases q) (fr_rowin (H := H) hi' hi) (fr_rowat hi' hi) rfl rfl hd kk
  · exact W.bald X.1 X.2.1 h3 (ha n _) (fun q => by cases q) (fr_rowin (H := H) hi' hi) (fr_rowat hi' hi) rfl rfl hd kk
theorem fr_nar1 {x : Int} (h : 0 ≤ x ∧ x ≤ 1) : narrow .boolean (.int (Int32.ofInt x)) = .int (Int32.ofInt x) := by
  rcases (show x = 0 ∨ x = 1 by omega) with rfl | rfl <;> rfl
theorem fr_nar2 {x : Int} (h : -128 ≤ x ∧ x ≤ 127) : narrow .byte (.int (Int32.ofInt x)) = .int (Int32.ofInt x) := by
  have e := vp_nar_byte (Int32.ofInt x)
  have hx : fr_in x := ⟨by omega, by omega⟩
  have h2 : (Int32.ofInt x).toInt8.toInt32 = Int32.ofInt x := by
    apply Int32.toInt_inj.mp
    rw [Int8.toInt_toInt32, Int32.toInt_toInt8, fr_ti hx]
    unfold Int.bmod
    simp only [Int8.size] at *
    split <;> omega
  show Value.int ((Int32.ofInt x).toInt8.toInt32) = _
  rw [h2]
theorem fr_s_ast (X : fr_X rc p R s m args meth c G scr) {k t n : Nat} {i x : Int} {r : List fr_V} (hk : sh[k]? = some (.inl (t, n))) (hi : 0 ≤ i ∧ i < (n : Int)) (hd : (t = 0 ∧ decode rc.2.2.1 pc = .ok (.iastore, 1)) ∨ (t = 1 ∧ (0 ≤ x ∧ x ≤ 1) ∧ decode rc.2.2.1 pc = .ok (.bastore, 1)) ∨ (t = 2 ∧ (-128 ≤ x ∧ x ≤ 127) ∧ decode rc.2.2.1 pc = .ok (.bastore, 1)))
    (k2 : fr_Wt p l e R s m args below meth c Z G rc.2.2.2.1 (pc + 1) ls r sh (fr_up M k i x) bc bs) : fr_Wt p l e R s m args below meth c Z G rc.2.2.2.1 pc ls (.inl x :: .inl i :: .inr (.inl k) :: r) sh M bc bs := by
  intro ls' H locs cells slots S
  obtain ⟨h1, h2, h3⟩ := S.2.2.2.2.1.2 k _ hk
  have hi' : fr_in i := fr_okh (fr_okt S.2.2.1)
  have hx' : fr_in x := fr_okh S.2.2.1
  have ha := X.2.2.2.2.2.1.arr h2
  have fin : ∀ H' : Heap, H'[G.1 + k]? = some ((fr_row G t n (M k)).setSlot (Int32.ofInt i).toNatClampNeg (.int (Int32.ofInt x))) → H'.size = H.size → (∀ q, q ≠ G.1 + k → H'[q]? = H[q]?) → W p l e R s m args below meth c H' (locs ++ [⟨G.1 + k, (Int32.ofInt i).toNatClampNeg⟩]) cells slots Z (F0 m (pc + 1) ls' (r.map (fr_rv G))) := by
    intro H' e1 e2 e3
    rw [fr_cl hi'] at e1
    exact k2 ls' H' _ cells slots ⟨S.1, S.2.1, fr_okt (fr_okt (fr_okt S.2.2.1)), fr_up_in S.2.2.2.1 hx', S.2.2.2.2.1.put hk hi e1 e2 e3, S.2.2.2.2.2.1.put e2 e3 (Nat.le_add_right _ _), S.2.2.2.2.2.2⟩
  rcases hd with ⟨rfl, hd⟩ | ⟨rfl, hn, hd⟩ | ⟨rfl, hn, hd⟩
  · exact W.iast X.1 X.2.1 h3 (ha n _) (fun q => by cases q) (fr_rowin (H := H) hi' hi) rfl rfl hd fin
  · exact W.zast X.1 X.2.1 h3 (ha n _) (fun q => by cases q) (fr_rowin (H := H) hi' hi) rfl rfl hd (fun H' e1 => fin H' (by rw [← fr_nar1 hn]; exact e1))
  · exact W.bast X.1 X.2.1 h3 (ha n _) (fun q => by cases q) (fr_rowin (H := H) hi' hi) rfl rfl hd (fun H' e1 => fin H' (by rw [← fr_nar2 hn]; exact e1))
theorem fr_s_alen (X : fr_X rc p R s m args meth c G scr) {k t n : Nat} {r : List fr_V} (hk : sh[k]? = some (.inl (t, n))) (hd : decode rc.2.2.1 pc = .ok (.arraylength, 1))
    (k2 : fr_Wt p l e R s m args below meth c Z G rc.2.2.2.1 (pc + 1) ls (.inl (n : Int) :: r) sh M bc bs) : fr_Wt p l e R s m args below meth c Z G rc.2.2.2.1 pc ls (.inr (.inl k) :: r) sh M bc bs := by
  intro ls' H locs cells slots S
  obtain ⟨h1, h2, h3⟩ := S.2.2.2.2.1.2 k _ hk
  have ha := X.2.2.2.2.2.1.arr h2
  refine W.alen (n := Int32.ofInt (n : Int)) X.1 X.2.1 h3 (ha n _) (by unfold fr_row; rw [arrV_size]; rfl) rfl rfl hd (k2 ls' H locs cells slots (S.stk (fr_okc ⟨by omega, by omega⟩ (fr_okt S.2.2.1))))
theorem fr_s_sld (X : fr_X rc p R s m args meth c G scr) {n : Nat} {f : Int → Int} {i : Int} {r : List fr_V} {u : Unit} (hs : scr = some (n, f)) (hi : 0 ≤ i ∧ i < (n : Int)) (hd : decode rc.2.2.1 pc = .ok (.iaload, 1))
    (k2 : fr_Wt p l e R s m args below meth c Z G rc.2.2.2.1 (pc + 1) ls (.inl (f i) :: r) sh M bc bs) : fr_Wt p l e R s m args below meth c Z G rc.2.2.2.1 pc ls (.inl i :: .inr (.inr (.inr u)) :: r) sh M bc bs := by
  intro ls' H locs cells slots S
  obtain ⟨x1, x2, x3, x4⟩ := X.2.2.2.2.2.2.2.2.2 n f hs
  have hi' : fr_in i := fr_okh S.2.2.1
  refine va_sld X.1 X.2.1 x4 (Nat.lt_of_lt_of_le x3 X.2.2.2.2.2.2.2.1) (A := fun q => G.1 ≤ q) (Nat.not_le.mpr x3) S.2.2.2.2.2.1 (fr_vin hi' hi) hd ?_
  rw [fr_cl hi', show ((i.toNat : Nat) : Int) = i by omega]
  exact k2 ls' H locs cells slots (S.stk (fr_okc (x2 i) (fr_okt (fr_okt S.2.2.1))))
theorem fr_s_slen (X : fr_X rc p R s m args meth c G scr) {n : Nat} {f : Int → Int} {r : List fr_V} {u : Unit} (hs : scr = some (n, f)) (hn : fr_in (n : Int)) (hd : decode rc.2.2.1 pc = .ok (.arraylength, 1))
    (k2 : fr_Wt p l e R s m args below meth c Z G rc.2.2.2.1 (pc + 1) ls (.inl (n : Int) :: r) sh M bc bs) : fr_Wt p l e R s m args below meth c Z G rc.2.2.2.1 pc ls (.inr (.inr (.inr u)) :: r) sh M bc bs := by
  intro ls' H locs cells slots S
  obtain ⟨x1, x2, x3, x4⟩ := X.2.2.2.2.2.2.2.2.2 n f hs
  exact va_slen X.1 X.2.1 x4 (Nat.lt_of_lt_of_le x3 X.2.2.2.2.2.2.2.1) (A := fun q => G.1 ≤ q) (Nat.not_le.mpr x3) S.2.2.2.2.2.1 hd (k2 ls' H locs cells slots (S.stk (fr_okc hn (fr_okt S.2.2.1))))
theorem fr_s_newa (X : fr_X rc p R s m args meth c G scr) {t : ArrayType} {a : Nat} {n : Int} {r : List fr_V} (ht : newarray.typeOf t = fr_aty a) (ha : a ≤ 2) (hn : 0 ≤ n ∧ n ≤ 100000) (hbc : 1 ≤ bc) (hbs : n.toNat ≤ bs) (hd : decode rc.2.2.1 pc = .ok (.newarray t, 2))
    (k2 : fr_Wt p l e R s m args below meth c Z G rc.2.2.2.1 (pc + 2) ls (.inr (.inl sh.length) :: r) (sh ++ [.inl (a, n.toNat)]) (fr_zr M sh.length) (bc - 1) (bs - n.toNat)) : fr_Wt p l e R s m args below meth c Z G rc.2.2.2.1 pc ls (.inl n :: r) sh M bc bs := by
  intro ls' H locs cells slots S
  have hn' : fr_in n := fr_okh S.2.2.1
  have hw : (Cond.arrayClass (newarray.typeOf t)).before args s = true := by
    rw [ht]
    rcases (show a = 0 ∨ a = 1 ∨ a = 2 by omega) with rfl | rfl | rfl
    · exact X.w fr_w_aint rfl
    · exact X.w fr_w_aboolean rfl
    · exact X.w fr_w_abyte rfl
  have hcb : componentBytes (newarray.typeOf t) ≤ 8 := by
    rw [ht]
    rcases (show a = 0 ∨ a = 1 ∨ a = 2 by omega) with rfl | rfl | rfl <;> decide
  have hmul : n.toNat * componentBytes (newarray.typeOf t) ≤ 100000 * 8 := Nat.mul_le_mul (by omega) hcb
  have hRc := S.2.2.2.2.2.2.1
  have hRs := S.2.2.2.2.2.2.2
  refine va_newaK X.1 X.2.1 hw rfl hd rfl (N := n.toNat) (by rw [fr_lt0 hn']; omega) (fr_cl hn') (by omega) (by omega) (by omega) (h := H.size) rfl fun H1 cA e1 z1 o1 hAr hNm => ?_
  have hcA : cA = G.2.2.2 a := by
    have hra : va_RA s (G.2.2.2 a) (fr_aty a) := by
      rcases (show a = 0 ∨ a = 1 ∨ a = 2 by omega) with rfl | rfl | rfl
      · exact (X.2.2.2.2.2.1.2 0 _ rfl).2
      · exact (X.2.2.2.2.2.1.2 1 _ rfl).2
      · exact (X.2.2.2.2.2.1.2 2 _ rfl).2
    have hra2 : s.vm.findClass ("[" ++ (fr_aty a).toString) = some (G.2.2.2 a) := by
      rcases (show a = 0 ∨ a = 1 ∨ a = 2 by omega) with rfl | rfl | rfl <;> exact hra
    rw [ht] at hNm
    exact Option.some.inj (hNm.symm.trans hra2)
  subst hcA
  have hsz := S.2.2.2.2.1.1
  have hdef : defaultValue (newarray.typeOf t) = .int (Int32.ofInt 0) := by
    rw [ht]
    rcases (show a = 0 ∨ a = 1 ∨ a = 2 by omega) with rfl | rfl | rfl <;> rfl
  have hP := S.2.2.2.2.1.push (cell := .inl (a, n.toNat)) (H1 := H1) ⟨by omega, ha, by rw [← hsz, e1, hdef]; rfl⟩ z1 o1
  have hk := k2 ls' H1 locs (cells + 1) (slots + n.toNat) ⟨S.1, S.2.1, fr_okc trivial (fr_okt S.2.2.1), fr_zr_in S.2.2.2.1, hP, ⟨Nat.le_trans S.2.2.2.2.2.1.1 (by omega), fun q g1 g2 => (o1 q (Nat.lt_of_lt_of_le g1 S.2.2.2.2.2.1.1)).trans (S.2.2.2.2.2.1.2.1 q g1 g2), S.2.2.2.2.2.1.2.2⟩, by omega, by omega⟩
  rw [hsz]
  exact hk
theorem fr_kd_V {a : Nat} {rr : vw_C} (h : vwCl[a]? = some rr) : (fr_kind fr_kd a).length = rr.2.2 ∧ ∀ j, j < rr.2.2 → defaultValue (fr_fty a j) = fr_fv G (fr_kind fr_kd a) (fun _ => 0) j := by
  have e := (fr_cls2 h).2.2.2
  refine ⟨by rw [e]; simp, fun j hj => ?_⟩
  unfold fr_fv
  rw [e, List.getElem?_map, List.getElem?_range hj]
  have hty := (fr_cls h).2.1 j hj
  show defaultValue (fr_fty a j) = match (some (fr_fk (fr_fty a j)) : Option (Option (Option Nat))) with
    | some (some none) => Value.null
    | some (some (some q)) => .ref (G.1 + q)
    | _ => .int (Int32.ofInt 0)
  have hgood : (match fr_fty a j with
    | .int => true
    | .boolean => true
    | .object _ => true
    | .array _ => true
    | _ => false) = true := fr_tyg h hj
  generalize fr_fty a j = ty at hgood ⊢
  cases ty <;> first | rfl | cases hgood
theorem fr_s_new (X : fr_X rc p R s m args meth c G scr) {i a b : Nat} (hm : fr_mem rc.1 (4, i, a, 0, 0) = true) (hb : b = fr_cnt a) (ha : a < 13) (hbc : 1 ≤ bc) (hbs : b ≤ bs) (hd : decode rc.2.2.1 pc = .ok (.new i, 3))
    (k2 : fr_Wt p l e R s m args below meth c Z G rc.2.2.2.1 (pc + 3) ls (.inr (.inl sh.length) :: st) (sh ++ [.inr (a, fr_kind fr_kd a)]) (fr_zr M sh.length) (bc - 1) (bs - b)) : fr_Wt p l e R s m args below meth c Z G rc.2.2.2.1 pc ls st sh M bc bs := by
  intro ls' H locs cells slots S
  obtain ⟨o, ho1, ho2⟩ := X.2.2.2.1
  obtain ⟨rr, h1⟩ : ∃ rr, vwCl[a]? = some rr := ⟨_, List.getElem?_eq_getElem (show a < vwCl.length from ha)⟩
  have hc2 := fr_cls2 h1
  have hcl := fr_cls h1
  have hbN : b = rr.2.2 := by
    rw [hb]
    unfold fr_cnt
    simp only [fr_nth_eq, h1]
  have hlink : (Cond.classLink o i rr.1).before args s = true := by
    have h2 := fr_link ho1 hm
    unfold fr_word at h2
    simp only [fr_nth_eq, hc2.1] at h2
    exact X.w h2 rfl
  have hKn := X.2.2.2.2.2.1.1 a _ h1
  have hRc := S.2.2.2.2.2.2.1
  have hRs := S.2.2.2.2.2.2.2
  have hsz := S.2.2.2.2.1.1
  subst hbN
  refine W.newcK X.1 X.2.1 ho2 hlink (X.w hc2.2.1 rfl) (X.w hc2.2.2.1 rfl) rfl hd (by omega) (by omega) hKn.2.1 (h := H.size) rfl fun H1 kC hkC e1 z1 o1 => ?_
  have hob := u_born (fr_fty a) X.2.2.2.2.1 (fr_lays_good hcl.1) hKn hkC e1 hcl.2.1
  have hP := S.2.2.2.2.1.push (cell := .inr (a, fr_kind fr_kd a)) (H1 := H1) ⟨rr, h1, (fr_kd_V (G := G) h1).1, by rw [← hsz]; exact hob.to (fr_kd_V (G := G) h1).2⟩ z1 o1
  have hk := k2 ls' H1 locs (cells + 1) (slots + rr.2.2) ⟨S.1, S.2.1, fr_okc trivial S.2.2.1, fr_zr_in S.2.2.2.1, hP, ⟨Nat.le_trans S.2.2.2.2.2.1.1 (by omega), fun q g1 g2 => (o1 q (Nat.lt_of_lt_of_le g1 S.2.2.2.2.2.1.1)).trans (S.2.2.2.2.2.1.2.1 q g1 g2), S.2.2.2.2.2.1.2.2⟩, by omega, by omega⟩
  show W p l e R s m args below meth c H1 locs (cells + 1) (slots + rr.2.2) Z (F0 m (pc + 3) ls' (.ref H.size :: st.map (fr_rv G)))
  rw [hsz]
  exact hk
end FrMem
