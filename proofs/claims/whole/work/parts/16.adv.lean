/-! ===== many instructions at once: up to a cut, a call, an answer ===== -/
def fr_fd : List Nat → Nat → Option Nat
  | [], _ => none
  | a :: l, n => cond (Nat.beq a n) (some a) (fr_fd l n)
def fr_ne (cs : List fr_E) : Bool := match cs with
  | [] => false
  | _ => true
def fr_adv (mi : Nat) (scr : Option (Nat × (Int → Int))) (cuts : List Nat) (cd : List fr_E) (Q : Option fr_V → fr_H → fr_M → Prop) : Nat → Nat → List fr_E → fr_L → List fr_V → fr_H → fr_M → Nat → Nat → Prop
  | 0, ix, _, ls, st, sh, M, bc, bs => fr_Run mi scr ix ls st sh M bc bs Q
  | _ + 1, _, [], _, _, _, _, _, _ => False
  | n + 1, ix, en :: cs, ls, st, sh, M, bc, bs => fr_sem fr_kd scr en ls st sh M bc bs
      (fun ls st sh M bc bs => cond (fr_ne cs) (match fr_fd cuts (ix + 1) with
        | some t => fr_Run mi scr t ls st sh M bc bs Q
        | none => fr_adv mi scr cuts cd Q n (ix + 1) cs ls st sh M bc bs) False)
      (fun t st => match fr_fd cuts t with
        | some t => fr_Run mi scr t ls st sh M bc bs Q
        | none => fr_adv mi scr cuts cd Q n t (cd.drop t) ls st sh M bc bs)
      (fun mj as q => fr_Call mj as sh M q)
      (fun r => Q r sh M)
theorem fr_fd_e : ∀ {l : List Nat} {n t : Nat}, fr_fd l n = some t → t = n
  | [], n, t, h => by cases h
  | a :: l, n, t, h => by
    unfold fr_fd at h
    cases hq : Nat.beq a n with
    | true =>
      rw [hq] at h
      cases h
      exact Nat.beq_eq.mp hq
    | false =>
      rw [hq] at h
      exact fr_fd_e h
theorem fr_seq_e : ∀ {l : List fr_E} {i : Nat} {e1 e2 : fr_E}, fr_seq l = true → l[i]? = some e1 → l[i + 1]? = some e2 → e1.1 + e1.2.2.1 = e2.1
  | [], i, e1, e2, h, h1, h2 => by simp at h1
  | [a], i, e1, e2, h, h1, h2 => by simp at h2
  | a :: b :: l, 0, e1, e2, h, h1, h2 => by
    unfold fr_seq at h
    rw [Bool.and_eq_true] at h
    cases h1; cases h2
    exact Nat.beq_eq.mp h.1
  | a :: b :: l, i + 1, e1, e2, h, h1, h2 => by
    unfold fr_seq at h
    rw [Bool.and_eq_true] at h
    exact fr_seq_e (l := b :: l) (i := i) h.2 h1 h2
theorem fr_adv_ok {mi : Nat} {scr : Option (Nat × (Int → Int))} {cuts : List Nat} {cd : List fr_E} {Q : Option fr_V → fr_H → fr_M → Prop} (hcd : ∀ rc, fr_tab[mi]? = some rc → rc.2.2.2.2.2.1 = cd) : ∀ (n ix : Nat) (cs : List fr_E) (ls : fr_L) (st : List fr_V) (sh : fr_H) (M : fr_M) (bc bs : Nat), cs = cd.drop ix → fr_adv mi scr cuts cd Q n ix cs ls st sh M bc bs → fr_Run mi scr ix ls st sh M bc bs Q
  | 0, ix, cs, ls, st, sh, M, bc, bs, hcs, h => h
  | n + 1, ix, [], ls, st, sh, M, bc, bs, hcs, h => h.elim
  | n + 1, ix, en :: cs, ls, st, sh, M, bc, bs, hcs, h => by
    intro rc p l e R s m args below meth c Z G hrc X hRt
    have hcode := hcd rc hrc
    have hix : cd[ix]? = some en := by
      have : (cd.drop ix)[0]? = some en := by rw [← hcs]; rfl
      rw [List.getElem?_drop] at this
      simpa using this
    have hcs2 : cs = cd.drop (ix + 1) := by
      rw [← List.drop_drop, ← hcs]
      rfl
    have hok := fr_rcc_of hrc
    unfold fr_rcc at hok
    rw [Bool.and_eq_true, hcode] at hok
    have hen := List.all_eq_true.mp hok.2 en (List.mem_of_getElem? hix)
    have htg : fr_tg rc.2.2.2.2.2.1 ix = en.1 := by
      unfold fr_tg
      rw [hcode, fr_nth_eq, hix]
    rw [htg]
    refine fr_step X hen h ?_ ?_ ?_ ?_
    · intro ls st sh M bc bs hk
      obtain ⟨h1, h2⟩ := fr_cond_e hk
      have hnext : en.1 + en.2.2.1 = fr_tg rc.2.2.2.2.2.1 (ix + 1) := by
        unfold fr_tg
        rw [hcode, fr_nth_eq]
        cases cs with
        | nil => cases h1
        | cons e2 l =>
          have hix2 : cd[ix + 1]? = some e2 := by
            have : (cd.drop (ix + 1))[0]? = some e2 := by rw [← hcs2]; rfl
            rw [List.getElem?_drop] at this
            simpa using this
          rw [hix2]
          exact fr_seq_e hok.1 hix hix2
      rw [hnext]
      split at h2
      · next t ht =>
        have := fr_fd_e ht
        subst this
        exact h2 rc p l e R s m args below meth c Z G hrc X hRt
      · exact fr_adv_ok hcd n (ix + 1) cs ls st sh M bc bs hcs2 h2 rc p l e R s m args below meth c Z G hrc X hRt
    · intro t st hj
      split at hj
      · next t' ht =>
        have := fr_fd_e ht
        subst this
        exact hj rc p l e R s m args below meth c Z G hrc X hRt
      · exact fr_adv_ok hcd n t (cd.drop t) ls st sh M bc bs rfl hj rc p l e R s m args below meth c Z G hrc X hRt
    · intro mj as q hq
      exact hq
    · intro r hr hrd
      exact hRt en.1 ls r sh M bc bs hr hrd
def fr_code (mi : Nat) : List fr_E := match fr_nth fr_tab mi with
  | some r => r.2.2.2.2.2.1
  | none => []
theorem fr_go {mi : Nat} {scr : Option (Nat × (Int → Int))} {Q : Option fr_V → fr_H → fr_M → Prop} {ix : Nat} {ls : fr_L} {st : List fr_V} {sh : fr_H} {M : fr_M} {bc bs : Nat} (cd : List fr_E) (cuts : List Nat) (n : Nat) (h1 : fr_code mi = cd) (h : fr_adv mi scr cuts cd Q n ix (cd.drop ix) ls st sh M bc bs) : fr_Run mi scr ix ls st sh M bc bs Q :=
  fr_adv_ok (fun rc hrc => by rw [← h1]; unfold fr_code; rw [fr_nth_eq, hrc]) n ix _ ls st sh M bc bs rfl h
theorem fr_cgo {mj : Nat} {as : List fr_V} {sh : fr_H} {M : fr_M} {Q : Option fr_V → fr_H → fr_M → Prop} (cd : List fr_E) (ls : fr_L) (bc bs : Nat) (cuts : List Nat) (n : Nat) (h1 : fr_code mj = cd) (h2 : fr_ini (fr_mx mj) as = ls) (h3 : fr_mcc mj = bc) (h4 : fr_mss mj = bs) (h : fr_adv mj none cuts cd Q n 0 cd ls [] sh M bc bs) : fr_Call mj as sh M Q := by
  subst h2; subst h3; subst h4
  exact fr_go cd cuts n h1 h
