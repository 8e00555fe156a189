theorem fr_inone_all : fr_tab.all (fun r => (!(Nat.beq r.2.2.2.2.2.2.2.1 2)) || r.2.2.2.2.1.isNone) = true := by decide +kernel
theorem fr_inone {mj : Nat} {r : fr_T} (h : fr_tab[mj]? = some r) (h2 : r.2.2.2.2.2.2.2.1 = 2) : r.2.2.2.2.1 = none := by
  have h3 := List.all_eq_true.mp fr_inone_all r (List.mem_of_getElem? h)
  rw [h2] at h3
  exact Option.isNone_iff_eq_none.mp h3
theorem fr_recv_e {as st rest : List fr_V} {n : Nat} {v : fr_V} (a1 : st = as.reverse ++ rest) (a3 : as.length = n) (hn : 0 < n) (h : fr_nth st (n - 1) = some v) : ∃ As, as = v :: As := by
  cases as with
  | nil => simp at a3; omega
  | cons w As =>
    refine ⟨As, ?_⟩
    rw [fr_nth_eq, a1, List.reverse_cons, List.append_assoc] at h
    have hl : As.reverse.length = n - 1 := by simp at a3 ⊢; omega
    rw [List.getElem?_append_right (by omega), hl, Nat.sub_self] at h
    cases h
    rfl
section FrInv
variable {p : Program} {l : Launch} {e : Env} {R : Room} {s : State} {m : MethodId} {args : Array Value} {below : List Frame} {meth : Method} {c : Code} {Z : State → Prop} {G : fr_G} {rc : fr_T} {scr : Option (Nat × (Int → Int))}
variable {ls : fr_L} {st : List fr_V} {sh : fr_H} {M : fr_M} {bc bs pc : Nat}
theorem fr_goon {nL : Nat} {H : Heap} {locs : List Loc} {cells slots : Nat} {ls' : Array Slot} {rest : List fr_V} {st0 : List Value} {mc ms : Nat} {q : Option fr_V → fr_H → fr_M → Prop} {a : Array Value}
    (hr : va_Run p l e R s m args below meth c H locs cells slots mc ms (F0 m pc ls' st0) (rest.map (fr_rv G)) (fr_Qc G q a) (fun q => G.1 ≤ q)) (S : fr_S nL R s G ls st sh M bc bs ls' H locs cells slots) (hrest : ∀ v ∈ rest, fr_ok v) (h1 : mc ≤ bc) (h2 : ms ≤ bs)
    (hq : ∀ r sh M, q r sh M → fr_Wt p l e R s m args below meth c Z G nL (pc + 3) ls (r.toList ++ rest) sh M (bc - mc) (bs - ms)) : W p l e R s m args below meth c H locs cells slots Z (F0 m pc ls' st0) := by
  intro T hT Xs
  obtain ⟨v, st₀, t, T', L, h0, X', hL, e1, e2, ⟨r, sh2, M2, hv, hq1, hok, hM2, hP2, hF⟩, st⟩ := hr T hT Xs
  cases hv
  have hc := S.2.2.2.2.2.2.1
  have hs := S.2.2.2.2.2.2.2
  obtain ⟨f1, f2⟩ := hF
  rw [h0] at f1 f2
  have S' : fr_S nL R s G ls (r.toList ++ rest) sh2 M2 (bc - mc) (bs - ms) ls' T'.heap (locs ++ L) (cells + mc) (slots + ms) := by
    refine ⟨S.1, S.2.1, fun w hw => ?_, hM2, by rw [e1]; exact hP2, ⟨?_, fun q g1 g2 => ?_, fun q hq => ?_⟩, by omega, by omega⟩
    · rcases List.mem_append.mp hw with h | h
      · cases r with
        | none => cases h
        | some u => exact hok w (by rw [List.mem_singleton.mp h])
      · exact hrest w h
    · rw [e1]; exact Nat.le_trans S.2.2.2.2.2.1.1 f1
    · rw [e1, f2 q (Nat.lt_of_lt_of_le g1 S.2.2.2.2.2.1.1) g2]
      exact S.2.2.2.2.2.1.2.1 q g1 g2
    · rcases List.mem_append.mp hq with h | h
      · exact S.2.2.2.2.2.1.2.2 q h
      · exact hL q h
  obtain ⟨t2, a1, b1⟩ := hq r sh2 M2 hq1 ls' T'.heap (locs ++ L) _ _ S' T' rfl X'
  refine ⟨t2, st t2 ?_, b1⟩
  cases r <;> exact a1
theorem fr_args_e : ∀ (n : Nat) (st acc : List fr_V), n ≤ st.length → st = (fr_args n st []).reverse ++ fr_rest n st ∧ fr_args n st acc = fr_args n st [] ++ acc ∧ (fr_args n st []).length = n
  | 0, st, acc, _ => ⟨rfl, rfl, rfl⟩
  | n + 1, [], acc, h => by simp at h
  | n + 1, v :: st, acc, h => by
    have hn : n ≤ st.length := by simp at h; omega
    obtain ⟨a1, a2, a3⟩ := fr_args_e n st [v] hn
    obtain ⟨b1, b2, b3⟩ := fr_args_e n st (v :: acc) hn
    refine ⟨?_, ?_, ?_⟩
    · show v :: st = (fr_args n st [v]).reverse ++ fr_rest n st
      rw [a2, List.reverse_append]
      show v :: st = v :: ((fr_args n st []).reverse ++ fr_rest n st)
      rw [← a1]
    · show fr_args n st (v :: acc) = fr_args n st [v] ++ acc
      rw [b2, a2, List.append_assoc]
      rfl
    · show (fr_args n st [v]).length = n + 1
      rw [a2, List.length_append, a3]
      rfl
theorem fr_gin {w0 : Cond} (h : w0 ∈ lw_gd) : GoodIn lw_gd (w0 :: lw_gd) := by
  have hg : ∀ w ∈ lw_gd, (w.onTables && w.keeps) = true ∨ ∃ ty, w = .arrayClass ty := fun w hw => good_of_word (List.mem_filter.mp hw).2
  intro w hw
  rcases List.mem_cons.mp hw with rfl | hw
  · exact ⟨h, hg _ h⟩
  · exact ⟨hw, hg w hw⟩
theorem fr_blind {as : List fr_V} : FrameBlind (fr_Pc G as sh M) := fun a U g mk q => ⟨q.1, q.2.1, va_K.moved (u := U) (U := U.calling g mk a) (Vm.Alike.refl U.vm) q.2.2⟩
theorem fr_pre {H : Heap} {as : List fr_V} (X : fr_X rc p R s m args meth c G scr) (hP : fr_P G sh M H) : ∀ U : State, U.heap = H → s.WarmedH U.vm → fr_Pc G as sh M (as.map (fr_rv G)).toArray U := fun U hU hW => ⟨rfl, by rw [hU]; exact hP, va_K.moved hW.alike X.2.2.2.2.2.1⟩
theorem fr_s_inv (X : fr_X rc p R s m args meth c G scr) {i a kind : Nat} {d : List Nat} {K : fr_L → List fr_V → fr_H → fr_M → Nat → Nat → Prop} {C : Nat → List fr_V → (Option fr_V → fr_H → fr_M → Prop) → Prop} (hcal : fr_cal rc i a d kind = true)
    (hd : (kind = 0 ∧ decode rc.2.2.1 pc = .ok (.invokestatic i, 3)) ∨ (kind = 2 ∧ (∃ k, fr_nth st (d.headD 0 - 1) = some (.inr (.inl k))) ∧ decode rc.2.2.1 pc = .ok (.invokespecial i, 3)) ∨ (kind = 1 ∧ decode rc.2.2.1 pc = .ok (.invokevirtual i, 3) ∧ ∃ b r, b < 13 ∧ fr_rcv sh b (fr_nth st (d.headD 0 - 1)) = true ∧ fr_tab[a]? = some r ∧ r.1 = b))
    (h : fr_call d ls st bc bs a K C) (hK : ∀ ls st sh M bc bs, K ls st sh M bc bs → fr_Wt p l e R s m args below meth c Z G rc.2.2.2.1 (pc + 3) ls st sh M bc bs) (hC : ∀ mj as q, C mj as q → fr_Call mj as sh M q) : fr_Wt p l e R s m args below meth c Z G rc.2.2.2.1 pc ls st sh M bc bs := by
  intro ls' H locs cells slots S
  obtain ⟨o, ho1, ho2⟩ := X.2.2.2.1
  unfold fr_cal at hcal
  rw [Bool.and_eq_true] at hcal
  obtain ⟨hmem, hcal⟩ := hcal
  split at hcal
  · next r hr =>
    rw [fr_nth_eq] at hr
    simp only [Bool.and_eq_true] at hcal
    obtain ⟨⟨⟨c1, c2⟩, c3⟩, c4⟩ := hcal
    have c1 := Nat.beq_eq.mp c1
    have c2 := Nat.le_of_ble_eq_true c2
    have c3 := Nat.le_of_ble_eq_true c3
    have c4 := of_decide_eq_true c4
    have hk3 : r.2.2.2.2.2.2.2.1 ≠ 3 := by
      rcases hd with ⟨k0, -⟩ | ⟨k0, -⟩ | ⟨k0, -⟩ <;> omega
    obtain ⟨m1, m2⟩ := fr_meth hr
    obtain ⟨m3, m4, m5, m6, m7, m8, m9, m10⟩ := m2 hk3
    rw [c4] at h
    obtain ⟨hb, hCa⟩ := fr_cond_e h
    simp only [Bool.and_eq_true] at hb
    obtain ⟨b1, b2, b3, b4, b5⟩ := hb
    have b1 := Nat.le_of_ble_eq_true b1
    have b2 := Nat.le_of_ble_eq_true b2
    have b3 := Nat.le_of_ble_eq_true b3
    have b4 := Nat.le_of_ble_eq_true b4
    have b5 := Nat.le_of_ble_eq_true b5
    have hlink : (Cond.methodLink o i r.2.1).before args s = true := by
      have h2 := fr_link ho1 hmem
      unfold fr_word at h2
      simp only [fr_nth_eq, hr] at h2
      exact X.w h2 rfl
    generalize hn : (if kind = 0 then r.2.2.2.2.2.2.2.2 else r.2.2.2.2.2.2.2.2 + 1) = n at *
    obtain ⟨a1, -, a3⟩ := fr_args_e n st [] b1
    generalize fr_args n st [] = as at *
    generalize fr_rest n st = rest at *
    have has : ∀ v ∈ as, fr_ok v := fun v hv => S.2.2.1 v (by rw [a1]; exact List.mem_append_left _ (List.mem_reverse.mpr hv))
    have hrs : ∀ v ∈ rest, fr_ok v := fun v hv => S.2.2.1 v (by rw [a1]; exact List.mem_append_right _ hv)
    have hM := fr_met l (hC _ _ _ hCa) hr hk3 has S.2.2.2.1 b3 G
    have hgood : Cond.code r.2.1 r.2.2.1 r.2.2.2.1 r.2.2.2.2.1 ∈ lw_gd := lw_gd_in m3 rfl
    have hRf := X.2.2.2.2.2.2.1
    have cb := callB_of (R := R) (own := o) (index := i) r.2.2.2.2.2.2.2.2 X.2.2.2.2.1 (fr_gin hgood) rfl (rm := r.2.2.2.2.2.2.1) rfl rfl (X.w m4 rfl) hlink m5 ⟨Nat.le_trans c2 hRf.1, Nat.le_trans c3 hRf.2⟩
    have hRc := S.2.2.2.2.2.2.1
    have hRs := S.2.2.2.2.2.2.2
    have hf : cells + r.2.2.2.2.2.2.1.cells ≤ R.cells ∧ slots + r.2.2.2.2.2.2.1.slots ≤ R.slots := ⟨by omega, by omega⟩
    have hroom : 2 * (F0 m pc ls' (st.map (fr_rv G))).monitorRoom + ((rest.map (fr_rv G)).map fun v => v.category).sum ≤ 8 := lv_room (by rw [fr_wd_sum]; exact b2)
    have hgo : ∀ (r2 : Option fr_V) (sh2 : fr_H) (M2 : fr_M), (match r2 with
        | none => cond (Nat.beq (if r.2.2.2.2.1.isSome then 1 else 0) 0) (K ls rest sh2 M2 (bc - r.2.2.2.2.2.2.1.cells) (bs - r.2.2.2.2.2.2.1.slots)) False
        | some v => cond (Nat.beq (if r.2.2.2.2.1.isSome then 1 else 0) 1) (K ls (v :: rest) sh2 M2 (bc - r.2.2.2.2.2.2.1.cells) (bs - r.2.2.2.2.2.2.1.slots)) False) → fr_Wt p l e R s m args below meth c Z G rc.2.2.2.1 (pc + 3) ls (r2.toList ++ rest) sh2 M2 (bc - r.2.2.2.2.2.2.1.cells) (bs - r.2.2.2.2.2.2.1.slots) := by
      intro r2 sh2 M2 hq
      cases r2 with
      | none => exact hK _ _ _ _ _ _ (fr_cond_e hq).2
      | some v => exact hK _ _ _ _ _ _ (fr_cond_e hq).2
    rcases hd with ⟨k0, hd⟩ | ⟨k0, ⟨kr, hkr⟩, hd⟩ | ⟨k0, hd, b, r', hb13, hrcv, hr', hrb⟩
    · subst k0
      rw [if_pos rfl] at hn
      exact fr_goon (va_runS (As := as.map (fr_rv G)) ⟨X.1, X.2.1, X.2.2.1, ho2, X.2.2.2.2.1⟩ hM ⟨cb, X.w (m7 c1) rfl⟩ ⟨fr_blind, fr_pre X S.2.2.2.2.1⟩ rfl (by rw [List.length_map, a3, hn]) S.1.2.1 (by show st.map (fr_rv G) = _; rw [a1, List.map_append, List.map_reverse]) hroom hd hf) S hrs b4 b5 hgo
    · subst k0
      have hhead : ∃ As, as = .inr (.inl kr) :: As := fr_recv_e a1 a3 (by rw [if_neg (by decide)] at hn; omega) (by rw [c4] at hkr; exact hkr)
      obtain ⟨As, rfl⟩ := hhead
      have hname := m10 c1
      rw [if_neg (by decide)] at hn
      have hnone : r.2.2.2.2.1 = none := fr_inone hr c1
      rw [hnone] at cb hM hgo
      exact fr_goon (va_runI (b := G.1 + kr) (As := As.map (fr_rv G)) ⟨X.1, X.2.1, X.2.2.1, ho2, X.2.2.2.2.1⟩ hM ⟨cb, hname, X.w (m8 (by omega)) rfl⟩ ⟨fr_blind, fr_pre X S.2.2.2.2.1⟩ rfl (by rw [List.length_map]; simp at a3; omega) S.1.2.1 (by show st.map (fr_rv G) = _; rw [a1, List.map_append, List.reverse_cons, List.map_append, List.append_assoc, List.map_reverse]; rfl) hroom hd hf) S hrs b4 b5 hgo
    · subst k0
      rw [if_neg (by decide)] at hn
      cases hr.symm.trans hr'
      have hrcv' := hrcv
      unfold fr_rcv at hrcv
      split at hrcv
      · next kr hkr =>
        have hhead : ∃ As, as = .inr (.inl kr) :: As := fr_recv_e a1 a3 (by omega) (by rw [c4] at hkr; exact hkr)
        obtain ⟨As, rfl⟩ := hhead
        split at hrcv
        · next ci fs hsh =>
          rw [fr_nth_eq] at hsh
          have hci := Nat.beq_eq.mp hrcv
          subst hci
          obtain ⟨rr, h1, h2, cell, q1, q2, q3, q4⟩ := S.2.2.2.2.1.2 kr _ hsh
          have hC : rr.1 = r.2.1.cls := by
            have := (fr_cls2 h1).1
            rw [← hrb, m1] at this
            exact (Option.some.inj this).symm
          have hrec : ∃ cellB : Cell, H[G.1 + kr]? = some cellB ∧ cellB.vm.isStatics = false ∧ s.vm.findClass r.2.1.cls = some cellB.cls := ⟨cell, q1, by rw [q3]; rfl, by rw [q2, ← hC]; exact (X.2.2.2.2.2.1.1 ci _ h1).2.1⟩
          exact fr_goon (va_runV (b := G.1 + kr) (As := As.map (fr_rv G)) ⟨X.1, X.2.1, X.2.2.1, ho2, X.2.2.2.2.1⟩ hM ⟨cb, X.w (m8 (by omega)) rfl, X.w (m9 c1) rfl⟩ ⟨fr_blind, hrec, fr_pre X S.2.2.2.2.1⟩ rfl (by rw [List.length_map]; simp at a3; omega) S.1.2.1 (by show st.map (fr_rv G) = _; rw [a1, List.map_append, List.reverse_cons, List.map_append, List.append_assoc, List.map_reverse]; rfl) hroom hd hf) S hrs b4 b5 hgo
        · cases hrcv
      · cases hrcv
  · cases hcal
end FrInv
