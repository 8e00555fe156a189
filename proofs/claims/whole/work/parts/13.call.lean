/-! ===== calls, copies, answers ===== -/
theorem fr_pc0_all : fr_tab.all (fun r => Nat.beq (fr_tg r.2.2.2.2.2.1 0) 0) = true := by decide +kernel
theorem fr_pc0 {mj : Nat} {r : fr_T} (h : fr_tab[mj]? = some r) : fr_tg r.2.2.2.2.2.1 0 = 0 := Nat.beq_eq.mp (List.all_eq_true.mp fr_pc0_all r (List.mem_of_getElem? h))
section FrCall
variable {p : Program} {l : Launch} {e : Env} {R : Room} {s : State} {m : MethodId} {args : Array Value} {below : List Frame} {meth : Method} {c : Code} {Z : State → Prop} {G : fr_G} {rc : fr_T} {scr : Option (Nat × (Int → Int))}
variable {ls : fr_L} {st : List fr_V} {sh : fr_H} {M : fr_M} {bc bs pc : Nat}
theorem fr_wd_sum (G : fr_G) (r : List fr_V) : ((r.map (fr_rv G)).map fun v => v.category).sum = fr_wd r := by
  induction r with
  | nil => rfl
  | cons v r ih =>
    simp only [List.map_cons, List.sum_cons, ih, fr_cat_rv]
    rfl
theorem fr_nfw : nativeFrameWords "java/lang/System" "arraycopy" 5 ≤ 40 := by decide +kernel
theorem fr_P.copy {H H1 : Heap} {ks kd n0 n1 : Nat} {sp dp n : Int} (h : fr_P G sh M H) (hk : sh[kd]? = some (.inl (0, n1))) (h0 : 0 ≤ n ∧ 0 ≤ sp ∧ 0 ≤ dp ∧ sp + n ≤ (n0 : Int) ∧ dp + n ≤ (n1 : Int))
    (e : H1[G.1 + kd]? = some (arrV (G.2.2.2 0) n1 (fun j => .int (va_cpy (fun j : Nat => Int32.ofInt (M ks (j : Int))) (fun j : Nat => Int32.ofInt (M kd (j : Int))) sp.toNat dp.toNat n.toNat j)))) (z : H1.size = H.size) (o : ∀ q, q ≠ G.1 + kd → H1[q]? = H[q]?) : fr_P G sh (fr_cp M ks sp kd dp n) H1 := by
  refine ⟨z.trans h.1, fun j cell hj => ?_⟩
  by_cases hjk : j = kd
  · subst hjk
    cases hk.symm.trans hj
    obtain ⟨h1, h2, h3⟩ := h.2 j _ hk
    refine ⟨h1, h2, ?_⟩
    rw [e]
    unfold fr_row
    congr 2
    funext q
    unfold va_cpy fr_cp
    rw [if_pos rfl]
    by_cases hq : dp ≤ (q : Int) ∧ (q : Int) < dp + n
    · rw [if_pos (by omega), if_pos hq]
      have e9 : ((sp.toNat + (q - dp.toNat) : Nat) : Int) = sp + ((q : Int) - dp) := by omega
      show Value.int (Int32.ofInt (M ks ((sp.toNat + (q - dp.toNat) : Nat) : Int))) = _
      rw [e9]
    · rw [if_neg (by omega), if_neg hq]
  · exact (h.2 j cell hj).kept (o _ (by omega)) (by funext q; unfold fr_cp; rw [if_neg hjk])
theorem fr_s_copy (X : fr_X rc p R s m args meth c G scr) {i ks kd n0 n1 : Nat} {sp dp n : Int} {r : List fr_V} (hm : fr_mem rc.1 (2, i, 0, 0, 0) = true) (hfr : 1 ≤ rc.2.2.2.2.2.2.1.frames) (hlo : 60 ≤ rc.2.2.2.2.2.2.1.locals) (hks : sh[ks]? = some (.inl (0, n0))) (hkd : sh[kd]? = some (.inl (0, n1))) (hr : fr_wd r ≤ 8) (h0 : 0 ≤ n ∧ 0 ≤ sp ∧ 0 ≤ dp ∧ sp + n ≤ (n0 : Int) ∧ dp + n ≤ (n1 : Int)) (hd : decode rc.2.2.1 pc = .ok (.invokestatic i, 3))
    (k2 : fr_Wt p l e R s m args below meth c Z G rc.2.2.2.1 (pc + 3) ls r sh (fr_cp M ks sp kd dp n) bc bs) : fr_Wt p l e R s m args below meth c Z G rc.2.2.2.1 pc ls (.inl n :: .inl dp :: .inr (.inl kd) :: .inl sp :: .inr (.inl ks) :: r) sh M bc bs := by
  intro ls' H locs cells slots S
  obtain ⟨o, ho1, ho2⟩ := X.2.2.2.1
  obtain ⟨a1, a2, hc0⟩ := S.2.2.2.2.1.2 ks _ hks
  obtain ⟨b1, b2, hc1⟩ := S.2.2.2.2.1.2 kd _ hkd
  have in1 : fr_in n := fr_okh S.2.2.1
  have in2 : fr_in dp := fr_okh (fr_okt S.2.2.1)
  have in3 : fr_in sp := fr_okh (fr_okt (fr_okt (fr_okt S.2.2.1)))
  have hlink : (Cond.methodLink o i arraycopyName).before args s = true := X.w (fr_link ho1 hm) rfl
  intro T hT Xs
  obtain ⟨-, k0, hk0, cm0, hkk0⟩ := X.2.2.2.2.2.1.arr a2 n0 (fun j => .int (Int32.ofInt (M ks (j : Int))))
  obtain ⟨-, k1, hk1, cm1, hkk1⟩ := X.2.2.2.2.2.1.arr b2 n1 (fun j => .int (Int32.ofInt (M kd (j : Int))))
  have hnf := fr_nfw
  obtain ⟨vm', X', step⟩ := Xs.arraycopy X.1 ho2 hlink (X.w fr_w_an rfl) (X.w fr_w_as rfl) (X.w fr_w_ai rfl) (src := G.1 + ks) (dst := G.1 + kd) (cs := fr_row G 0 n0 (M ks)) (cd := fr_row G 0 n1 (M kd)) (srcPos := Int32.ofInt sp) (destPos := Int32.ofInt dp) (n := Int32.ofInt n) (by rw [hT]; exact hc0) (by rw [hT]; exact hc1)
    (fun _ h => by cases h) (fun _ h => by cases h) (fun h => by cases h) (fun h => by cases h) hk0 hk1 hkk0 hkk1 (by rfl) (by rw [fr_lt0 in3]; omega) (by rw [fr_lt0 in2]; omega) (by rw [fr_lt0 in1]; omega)
    (by rw [fr_ti in3, fr_ti in1]; unfold fr_row; rw [arrV_size]; omega)
    (by rw [fr_ti in2, fr_ti in1]; unfold fr_row; rw [arrV_size]; omega)
    (fun vm₁ _ i hi => by
      have e : (fr_row G 0 n0 (M ks)).slots.getD ((Int32.ofInt sp).toNatClampNeg + i) .null = .int (Int32.ofInt (M ks (((Int32.ofInt sp).toNatClampNeg + i : Nat) : Int))) := by
        rw [fr_cl in1] at hi
        unfold fr_row
        rw [Array.getD_eq_getD_getElem?, arrV_read _ _ (by rw [fr_cl in3]; omega)]
        rfl
      rw [e]
      exact ⟨rfl, trivial⟩)
    (g := F0 m pc ls' (.int (Int32.ofInt n) :: .int (Int32.ofInt dp) :: .ref (G.1 + kd) :: .int (Int32.ofInt sp) :: .ref (G.1 + ks) :: r.map (fr_rv G))) rfl (by rw [X.2.2.1]; exact S.1.2.1) (rest := r.map (fr_rv G)) rfl (by rw [X.2.1]; exact hd) (Nat.le_trans hfr X.2.2.2.2.2.2.1.1) (by rw [fr_wd_sum]; show 2 * 0 + _ + _ ≤ _; have := X.2.2.2.2.2.2.1.2; omega)
  have e1 : copied (fr_row G 0 n0 (M ks)) (fr_row G 0 n1 (M kd)) (Int32.ofInt sp) (Int32.ofInt dp) (Int32.ofInt n) = arrV (G.2.2.2 0) n1 (fun j => .int (va_cpy (fun j : Nat => Int32.ofInt (M ks (j : Int))) (fun j : Nat => Int32.ofInt (M kd (j : Int))) sp.toNat dp.toNat n.toNat j)) := by
    have := va_copied (fun z => Value.int z) (G.2.2.2 0) (G.2.2.2 0) (n0 := n0) (n1 := n1) (sp := (Int32.ofInt sp).toNatClampNeg) (dp := (Int32.ofInt dp).toNatClampNeg) (n := (Int32.ofInt n).toNatClampNeg) (fun j : Nat => Int32.ofInt (M ks (j : Int))) (fun j : Nat => Int32.ofInt (M kd (j : Int))) (by rw [fr_cl in3, fr_cl in1]; omega)
    rw [fr_cl in3, fr_cl in1, fr_cl in2] at this
    unfold copied
    rw [fr_cl in3, fr_cl in1, fr_cl in2]
    exact this
  rw [e1] at X' step
  have hl : G.1 + kd < H.size := (Array.getElem?_eq_some_iff.mp hc1).1
  have hheap : ∀ x, ((T.setVm vm').setCell (G.1 + kd) x).heap = H.setIfInBounds (G.1 + kd) x := fun x => by rw [← hT]; rfl
  have oq : ∀ x (q : Nat), q ≠ G.1 + kd → (H.setIfInBounds (G.1 + kd) x)[q]? = H[q]? := fun x q hq => by simp [Array.getElem?_setIfInBounds, Ne.symm hq]
  obtain ⟨t, a1', b1'⟩ := k2 ls' _ _ cells slots ⟨S.1, S.2.1, fr_okt (fr_okt (fr_okt (fr_okt (fr_okt S.2.2.1)))), fr_cp_in S.2.2.2.1, S.2.2.2.2.1.copy (ks := ks) (n0 := n0) hkd h0 (H1 := H.setIfInBounds (G.1 + kd) _) (by simp [Array.getElem?_setIfInBounds, hl]) (by simp) (oq _), S.2.2.2.2.2.1.put' (a := G.1 + kd) (by simp) (oq _) (Nat.le_add_right _ _) (fun q hq => by
      obtain ⟨z, -, hz⟩ := List.mem_map.mp hq
      rw [← hz]
      exact Nat.le_add_right _ _), S.2.2.2.2.2.2⟩ _ (hheap _) X'
  exact ⟨t, step t a1', b1'⟩
theorem fr_sl_len (G : fr_G) (as : List fr_V) : (lg_sl (as.map (fr_rv G))).length = fr_wd as := by
  induction as with
  | nil => rfl
  | cons v r ih =>
    have e : lg_sl ((v :: r).map (fr_rv G)) = (if (fr_rv G v).category = 2 then [.val (fr_rv G v), .second] else [.val (fr_rv G v)]) ++ lg_sl (r.map (fr_rv G)) := by
      simp [lg_sl]
    rw [e, List.length_append, ih, fr_cat_rv]
    show _ = fr_cat v + fr_wd r
    rcases v with x | k | l | u <;> rfl
theorem fr_ini_len : ∀ (as : List fr_V) (n : Nat), fr_wd as ≤ n → (fr_ini n as).length = n
  | [], n, _ => by simp [fr_ini]
  | v :: vs, n, h => by
    have hw : fr_wd (v :: vs) = fr_cat v + fr_wd vs := rfl
    rcases v with x | k | l | u
    · have := fr_ini_len vs (n - 1) (by rw [hw] at h; simp only [fr_cat] at h; omega)
      simp only [fr_ini, fr_cat, List.length_cons, this]
      rw [hw] at h; simp only [fr_cat] at h; omega
    · have := fr_ini_len vs (n - 1) (by rw [hw] at h; simp only [fr_cat] at h; omega)
      simp only [fr_ini, fr_cat, List.length_cons, this]
      rw [hw] at h; simp only [fr_cat] at h; omega
    · have := fr_ini_len vs (n - 2) (by rw [hw] at h; simp only [fr_cat] at h; omega)
      simp only [fr_ini, fr_cat, List.length_cons, this]
      rw [hw] at h; simp only [fr_cat] at h; omega
    · have := fr_ini_len vs (n - 1) (by rw [hw] at h; simp only [fr_cat] at h; omega)
      simp only [fr_ini, fr_cat, List.length_cons, this]
      rw [hw] at h; simp only [fr_cat] at h; omega
theorem fr_ini_in (G : fr_G) : ∀ (as : List fr_V) (n off i : Nat) (v : fr_V), (fr_ini n as)[i]? = some (some v) → (off + i, fr_rv G v) ∈ lv_args off (as.map (fr_rv G)) ∧ v ∈ as
  | [], n, off, i, v, h => by
    simp only [fr_ini] at h
    have := List.eq_of_mem_replicate (List.mem_of_getElem? h)
    cases this
  | w :: vs, n, off, i, v, h => by
    have hc := fr_cat_rv G w
    by_cases h2 : fr_cat w = 2
    · have e : fr_ini n (w :: vs) = some w :: none :: fr_ini (n - 2) vs := by simp only [fr_ini, h2]
      have e2 : lv_args off ((w :: vs).map (fr_rv G)) = (off, fr_rv G w) :: lv_args (off + 2) (vs.map (fr_rv G)) := by
        simp only [List.map_cons, lv_args, hc, h2, if_true]
      rw [e] at h
      rw [e2]
      match i, h with
      | 0, h => cases h; exact ⟨List.mem_cons_self, List.mem_cons_self⟩
      | 1, h => cases h
      | i + 2, h =>
        obtain ⟨g1, g2⟩ := fr_ini_in G vs (n - 2) (off + 2) i v h
        refine ⟨List.mem_cons_of_mem _ ?_, List.mem_cons_of_mem _ g2⟩
        rw [show off + (i + 2) = off + 2 + i by omega]
        exact g1
    · have e : fr_ini n (w :: vs) = some w :: fr_ini (n - 1) vs := by
        rcases w with x | k | l | u
        · rfl
        · rfl
        · exact absurd rfl h2
        · rfl
      have e2 : lv_args off ((w :: vs).map (fr_rv G)) = (off, fr_rv G w) :: lv_args (off + 1) (vs.map (fr_rv G)) := by
        simp only [List.map_cons, lv_args, hc, h2, if_false]
      rw [e] at h
      rw [e2]
      match i, h with
      | 0, h => cases h; exact ⟨List.mem_cons_self, List.mem_cons_self⟩
      | i + 1, h =>
        obtain ⟨g1, g2⟩ := fr_ini_in G vs (n - 1) (off + 1) i v h
        refine ⟨List.mem_cons_of_mem _ ?_, List.mem_cons_of_mem _ g2⟩
        rw [show off + (i + 1) = off + 1 + i by omega]
        exact g1
def fr_Pc (G : fr_G) (as : List fr_V) (sh : fr_H) (M : fr_M) : Array Value → State → Prop := fun v U => v = (as.map (fr_rv G)).toArray ∧ fr_P G sh M U.heap ∧ fr_KK G U
def fr_Qc (G : fr_G) (q : Option fr_V → fr_H → fr_M → Prop) : Array Value → State → Outcome → State → Prop := fun _ st oc t => ∃ (r : Option fr_V) (sh : fr_H) (M : fr_M), oc = .returned (r.map (fr_rv G)) ∧ q r sh M ∧ (∀ v, r = some v → fr_ok v) ∧ (∀ k i, fr_in (M k i)) ∧ fr_P G sh M t.heap ∧ va_F (fun q => G.1 ≤ q) st t
/-- a method that the machine of whole numbers runs is met by the real one -/
theorem fr_met (l : Launch) {mj : Nat} {r : fr_T} {as : List fr_V} {q : Option fr_V → fr_H → fr_M → Prop} (hc : fr_Call mj as sh M q) (hr : fr_tab[mj]? = some r) (hk : r.2.2.2.2.2.2.2.1 ≠ 3) (has : ∀ v ∈ as, fr_ok v) (hM : ∀ k i, fr_in (M k i)) (hw : fr_wd as ≤ r.2.2.2.1) (G : fr_G) :
    Met l r.2.1 (Cond.code r.2.1 r.2.2.1 r.2.2.2.1 r.2.2.2.2.1 :: lw_gd) r.2.2.2.2.2.2.1 (fr_Pc G as sh M) (fr_Qc G q) r.2.2.2.2.2.2.1.cells r.2.2.2.2.2.2.1.slots (fun q => G.1 ≤ q) := by
  obtain ⟨m1, m2⟩ := fr_meth hr
  obtain ⟨m3, m4, m5, m6, m7, m8, m9, m10⟩ := m2 hk
  refine Met.ofW (cc := r.2.2.1) (maxL := r.2.2.2.1) (ret := r.2.2.2.2.1) m6 rfl ?_
  intro p e s m args below meth c s₁ B hml hv
  obtain ⟨rfl, hP, hK⟩ := hv
  have hts := atoms_spec (ws := Cond.code r.2.1 r.2.2.1 r.2.2.2.1 r.2.2.2.2.1 :: lw_gd) B.pre
  have hown : s.vm.findClass r.2.1.cls = some m.cls := findClass_of_methodNamed B.named
  have hnm := (name_of_methodNamed B.named B.method).1
  have hlocks := B.notSynchronized
  have hret := B.returns
  have X : fr_X r p r.2.2.2.2.2.2.1 s m (as.map (fr_rv G)).toArray meth c G none := ⟨B.exec, B.bytes, hml, ⟨_, m1, hown⟩, fun w h => hts w (List.mem_cons_of_mem _ h), hK, ⟨Nat.le_refl _, Nat.le_refl _⟩, by rw [hP.1]; exact Nat.le_add_right _ _, fun h2 => by rw [hnm]; exact m10 h2, fun n f h => by cases h⟩
  have hRt : fr_Rt r p l e r.2.2.2.2.2.2.1 s m (as.map (fr_rv G)).toArray below meth c (MQ below (fr_Qc G q) (as.map (fr_rv G)).toArray s r.2.2.2.2.2.2.1.cells r.2.2.2.2.2.2.1.slots (fun q => G.1 ≤ q)) G q := by
    intro pc ls v sh2 M2 bc2 bs2 hq hrd ls' H locs cells slots S
    have hcell := S.2.2.2.2.2.2.1
    have hslot := S.2.2.2.2.2.2.2
    refine W.widen (k := r.2.2.2.2.2.2.1.cells) (n := r.2.2.2.2.2.2.1.slots) (by omega) (by omega) ?_
    have hQ : ∀ t : State, t.heap = H → s.WarmedH t.vm → fr_Qc G q (as.map (fr_rv G)).toArray s (.returned (v.map (fr_rv G))) t := fun t ht _ => ⟨v, sh2, M2, rfl, hq, fun w hw => S.2.2.1 w (by rw [hw]; exact List.mem_singleton.mpr rfl), S.2.2.2.1, by rw [ht]; exact S.2.2.2.2.1, S.2.2.2.2.2.1.F ht⟩
    match v, hrd, hQ with
    | none, hrd, hQ => exact W.vret B.exec B.bytes (hret.trans hrd.2) hQ S.2.2.2.2.2.1.2.2 hrd.1 hlocks
    | some (.inl x), hrd, hQ =>
      rcases hrd.2 with h | ⟨h, hx⟩
      · exact W.iret B.exec B.bytes (hret.trans h) hQ S.2.2.2.2.2.1.2.2 hrd.1 hlocks
      · exact W.zret B.exec B.bytes (hret.trans h) (fr_nar1 hx) hQ S.2.2.2.2.2.1.2.2 hrd.1 hlocks
    | some (.inr (.inl k)), hrd, hQ =>
      obtain ⟨n, hn⟩ := hrd.2
      exact W.aret B.exec B.bytes (hret.trans hn) (Or.inl ⟨n, rfl⟩) (Or.inr ⟨_, rfl⟩) hQ S.2.2.2.2.2.1.2.2 hrd.1 hlocks
    | some (.inr (.inr _)), hrd, _ => exact hrd.elim
  have hW := hc r p l e r.2.2.2.2.2.2.1 s m (as.map (fr_rv G)).toArray below meth c _ G hr X hRt
  rw [lg_entry_eq]
  have hle := fr_sl_len G as
  have hen := lv_entry (as.map (fr_rv G)) (n := r.2.2.2.1) (by omega)
  have hmx : fr_mx mj = r.2.2.2.1 := by unfold fr_mx; rw [fr_nth_eq, hr]
  have hpc : fr_tg r.2.2.2.2.2.1 0 = 0 := fr_pc0 hr
  have hW2 := hW _ s.heap [] 0 0 ⟨⟨(fr_ini_len as (fr_mx mj) (by rw [hmx]; exact hw)).trans hmx, hen.1, hen.2.1, fun i v hv => hen.2.2 (i, fr_rv G v) (by have := (fr_ini_in G as _ 0 i v hv).1; rw [Nat.zero_add] at this; exact this)⟩, fun v hv => by
      obtain ⟨i, hi⟩ := List.getElem?_of_mem hv
      exact has v (fr_ini_in G as _ 0 i v hi).2, fun v h => (by cases h), hM, hP, va_S.rf, (by unfold fr_mcc; rw [fr_nth_eq, hr]; simp), (by unfold fr_mss; rw [fr_nth_eq, hr]; simp)⟩
  rw [hpc] at hW2
  exact hW2
end FrCall
