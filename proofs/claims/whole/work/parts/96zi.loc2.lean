def codeL (n : Int) (rk : Int → Int) : List Int := (List.range (n.toNat - 1)).map (fun i : Nat => rk ((i : Int) + 1))
theorem codeL_eq {n : Int} {rk rk' : Int → Int} (h : Pm n rk) (h' : Pm n rk') (e : codeL n rk = codeL n rk') : ∀ a, 0 ≤ a → a < n → rk a = rk' a := by
  intro a a0 a1
  unfold codeL at e
  rw [List.map_inj_left] at e
  by_cases ea : a = 0
  · rw [ea, h.1, h'.1]
  · have := e (a - 1).toNat (List.mem_range.mpr (by omega))
    rw [show (((a - 1).toNat : Nat) : Int) + 1 = a by omega] at this
    exact this
theorem codeL_ok {n : Int} {rk : Int → Int} (h : Pm n rk) : (codeL n rk).length = n.toNat - 1 ∧ (codeL n rk).Nodup ∧ ∀ x ∈ codeL n rk, x ∈ (List.range (n.toNat - 1)).map (fun i : Nat => ((i : Int) + 1)) := by
  refine ⟨by unfold codeL; rw [List.length_map, List.length_range], ?_, fun x hx => ?_⟩
  · unfold codeL List.Nodup
    rw [List.pairwise_map]
    refine List.Pairwise.imp_of_mem ?_ (List.nodup_range (n := n.toNat - 1))
    intro a b ha hb hab e
    have ha := List.mem_range.mp ha
    have hb := List.mem_range.mp hb
    have := h.2.2 ((a : Int) + 1) ((b : Int) + 1) (by omega) (by omega) (by omega) (by omega) e
    omega
  · obtain ⟨i, hi, rfl⟩ := List.mem_map.mp hx
    have hi := List.mem_range.mp hi
    have a := h.2.1 ((i : Int) + 1) (by omega) (by omega)
    have b : rk ((i : Int) + 1) ≠ 0 := fun q => by
      have := h.2.2 ((i : Int) + 1) 0 (by omega) (by omega) (by omega) (by omega) (by rw [q, h.1])
      omega
    refine List.mem_map.mpr ⟨(rk ((i : Int) + 1) - 1).toNat, List.mem_range.mpr (by omega), ?_⟩
    show (((rk ((i : Int) + 1) - 1).toNat : Nat) : Int) + 1 = _
    omega
def VL (f : Int → Int → Int) (n : Int) (rk : Int → Int) (L : List (List Int)) : Prop := L.Nodup ∧ ∀ l ∈ L, ∃ rk1, Pm n rk1 ∧ codeL n rk1 = l ∧ ws f n rk n.toNat < ws f n rk1 n.toNat
theorem VL.new {f : Int → Int → Int} {n : Int} {rk : Int → Int} {L : List (List Int)} (hp : Pm n rk) (h : VL f n rk L) : (codeL n rk :: L).Nodup := by
  rw [List.nodup_cons]
  refine ⟨fun hm => ?_, h.1⟩
  obtain ⟨rk1, p1, e, lt⟩ := h.2 _ hm
  have a := codeL_eq p1 hp e
  by_cases hn : 0 ≤ n
  · have := ws_cg (f := f) (f' := f) (n := n) (rk := rk1) (rk' := rk) (fun i i0 i1 => ⟨a i i0 i1, p1.2.1 i i0 i1⟩) (fun _ _ _ _ _ => rfl) n.toNat (by omega)
    omega
  · rw [show n.toNat = 0 by omega] at lt
    simp [ws] at lt
theorem VL.len {f : Int → Int → Int} {n : Int} {rk : Int → Int} {L : List (List Int)} (hn : 0 < n ∧ n ≤ 9) (hp : Pm n rk) (h : VL f n rk L) : L.length + 1 ≤ 40320 := by
  have a := cntp (n.toNat - 1) ((List.range (n.toNat - 1)).map (fun i : Nat => ((i : Int) + 1))) (codeL n rk :: L) (by rw [List.length_map, List.length_range]) (h.new hp) (fun l hl => by
    cases hl with
    | head => exact codeL_ok hp
    | tail _ hl =>
      obtain ⟨rk1, p1, e, -⟩ := h.2 _ hl
      rw [← e]
      exact codeL_ok p1)
  rw [List.length_cons] at a
  have b : fct (n.toNat - 1) ≤ 40320 := by
    rcases (show n.toNat - 1 = 0 ∨ n.toNat - 1 = 1 ∨ n.toNat - 1 = 2 ∨ n.toNat - 1 = 3 ∨ n.toNat - 1 = 4 ∨ n.toNat - 1 = 5 ∨ n.toNat - 1 = 6 ∨ n.toNat - 1 = 7 ∨ n.toNat - 1 = 8 by omega) with e | e | e | e | e | e | e | e | e <;> rw [e] <;> decide
  omega
theorem VL.step {f : Int → Int → Int} {n s i j : Int} {rk : Int → Int} {L : List (List Int)} (hp : Pm n rk) (h : VL f n rk L) (hF : FI f n rk s i j) : VL f n (trf s i j rk) (codeL n rk :: L) := by
  refine ⟨h.new hp, fun l hl => ?_⟩
  have hg : ws f n (trf s i j rk) n.toNat < ws f n rk n.toNat := hF.2.1
  cases hl with
  | head => exact ⟨rk, hp, rfl, hg⟩
  | tail _ hl =>
    obtain ⟨rk1, p1, e, lt⟩ := h.2 _ hl
    exact ⟨rk1, p1, e, by omega⟩
theorem LocN.pm {f : Int → Int → Int} {n : Int} (hn : 0 < n) : ∀ (k : Nat) {rk rk' : Int → Int}, Pm n rk → LocN f n k rk rk' → Pm n rk'
  | 0, rk, rk', hp, h => by
    obtain ⟨-, e⟩ := h
    refine ⟨by rw [e 0 (by omega) hn]; exact hp.1, fun i i0 i1 => by rw [e i i0 i1]; exact hp.2.1 i i0 i1, fun i j i0 i1 j0 j1 q => ?_⟩
    rw [e i i0 i1, e j j0 j1] at q
    exact hp.2.2 i j i0 i1 j0 j1 q
  | k + 1, rk, rk', hp, h => by
    obtain ⟨s, i, j, hF, h⟩ := h
    exact LocN.pm hn k (hp.trf hF.1) h
set_option maxHeartbeats 4000000 in
set_option maxRecDepth 100000 in
theorem c_im_l {M : fr_M} {f : Int → Int → Int} {n : Int} {Q : Option fr_V → fr_H → fr_M → Prop} (hn : M 18 2 = n ∧ 0 < n ∧ n ≤ 9) (hf : ∀ i j, 0 ≤ i → i < n → 0 ≤ f i j ∧ f i j ≤ 6000000) (hp : PT f n n (M 19)) : ∀ (t : Nat) (c : Int) (X : fr_M) (rk : Int → Int) (L : List (List Int)), c = (L.length : Int) → c + t = 40320 → (∀ k i, ¬ (k = 23 ∨ k = 74) → X k i = M k i) → Pm n rk → (∀ a, 0 ≤ a → a < n → X 74 a = rk a) → VL f n rk L → (∀ X' k, (∀ k i, ¬ (k = 23 ∨ k = 74) → X' k i = M k i) → LocN f n k rk (X' 74) → Q none sh0 X') → fr_Run 43 none 2 [some (.inr (.inl 22)), some (.inr (.inl 74)), some (.inl c)] [] sh0 X 0 0 Q := by
  intro t
  induction t with
  | zero =>
    intro c X rk L q0 q1 q2 q3 q4 q5 h
    exfalso
    have := q5.len hn.2 q3
    omega
  | succ t ih =>
    intro c X rk L q0 q1 q2 q3 q4 q5 h
    have e19 : X 19 = M 19 := funext (fun i => q2 19 i (by omega))
    refine fr_go k43 [2] 400 rfl ?_
    repeat' (first | (refine And.intro (by first | omega | (simp (disch := decide) only [up_n, up_s, cp_n, rw_n, rw_s, up1_, if_true, if_false, ite_true, ite_false, reduceIte, eq_self, Int.reduceEq, true_and, and_true, not_true_eq_false, not_false_eq_true]; omega)) ?_) | (refine And.intro (fun hc => ?_) (fun hc => ?_) <;> (try (simp (disch := decide) only [up_n, up_s, cp_n, rw_n, rw_s, up1_, if_true, if_false, ite_true, ite_false, reduceIte, eq_self, Int.reduceEq, true_and, and_true, not_true_eq_false, not_false_eq_true] at hc)) <;> (try (exfalso; omega))) | (refine fun (hc : ¬ _) => ?_; try (simp (disch := decide) only [up_n, up_s, cp_n, rw_n, rw_s, up1_, if_true, if_false, ite_true, ite_false, reduceIte, eq_self, Int.reduceEq, true_and, and_true, not_true_eq_false, not_false_eq_true] at hc)) | (refine fun (hc : _ = _) => ?_; try (simp (disch := decide) only [up_n, up_s, cp_n, rw_n, rw_s, up1_, if_true, if_false, ite_true, ite_false, reduceIte, eq_self, Int.reduceEq, true_and, and_true, not_true_eq_false, not_false_eq_true] at hc)))
    all_goals first | (exfalso; omega) | skip
    refine c_improveOnce (f := f) (rk := rk) ⟨by rw [q2 18 2 (by omega)]; exact hn.1, hn.2⟩ (fun a a0 a1 => ⟨q4 a a0 a1, q3.2.1 a a0 a1⟩) hf (by rw [e19]; exact hp) (fun s i j g23 g74 hF hg => ?_) (fun g23 hN => ?_)
    · have hh := ih (c + 1) (rw_ (rw_ X 23 g23) 74 g74) (trf s i j rk) (codeL n rk :: L) (by rw [List.length_cons]; omega) (by omega) (fun k i hk => by rw [rw_n (by omega), rw_n (by omega)]; exact q2 k i hk) (q3.trf hF.1) (fun a a0 a1 => by
        have x := ip_rng hF.1 ⟨a0, a1⟩
        rw [rw_at, hg a a0 (by omega), q4 _ x.1 x.2]
        rfl) (q5.step q3 hF) (fun X' k fr loc => h X' (k + 1) fr ⟨s, i, j, hF, loc⟩)
      clear ih h q5 q3 q4 hg hF
      repeat' (first | (refine And.intro (by first | omega | (simp (disch := decide) only [up_n, up_s, cp_n, rw_n, rw_s, up1_, if_true, if_false, ite_true, ite_false, reduceIte, eq_self, Int.reduceEq, true_and, and_true, not_true_eq_false, not_false_eq_true]; omega)) ?_) | (refine And.intro (fun hc => ?_) (fun hc => ?_) <;> (try (simp (disch := decide) only [up_n, up_s, cp_n, rw_n, rw_s, up1_, if_true, if_false, ite_true, ite_false, reduceIte, eq_self, Int.reduceEq, true_and, and_true, not_true_eq_false, not_false_eq_true] at hc)) <;> (try (exfalso; omega))) | (refine fun (hc : ¬ _) => ?_; try (simp (disch := decide) only [up_n, up_s, cp_n, rw_n, rw_s, up1_, if_true, if_false, ite_true, ite_false, reduceIte, eq_self, Int.reduceEq, true_and, and_true, not_true_eq_false, not_false_eq_true] at hc)) | (refine fun (hc : _ = _) => ?_; try (simp (disch := decide) only [up_n, up_s, cp_n, rw_n, rw_s, up1_, if_true, if_false, ite_true, ite_false, reduceIte, eq_self, Int.reduceEq, true_and, and_true, not_true_eq_false, not_false_eq_true] at hc)))
      all_goals first | (exfalso; omega) | exact hh
    · have hh := h (rw_ X 23 g23) 0 (fun k i hk => by rw [rw_n (by omega)]; exact q2 k i hk) ⟨hN, fun a a0 a1 => q4 a a0 a1⟩
      clear ih h q5 q3 q4 hN
      repeat' (first | (refine And.intro (by first | omega | (simp (disch := decide) only [up_n, up_s, cp_n, rw_n, rw_s, up1_, if_true, if_false, ite_true, ite_false, reduceIte, eq_self, Int.reduceEq, true_and, and_true, not_true_eq_false, not_false_eq_true]; omega)) ?_) | (refine And.intro (fun hc => ?_) (fun hc => ?_) <;> (try (simp (disch := decide) only [up_n, up_s, cp_n, rw_n, rw_s, up1_, if_true, if_false, ite_true, ite_false, reduceIte, eq_self, Int.reduceEq, true_and, and_true, not_true_eq_false, not_false_eq_true] at hc)) <;> (try (exfalso; omega))) | (refine fun (hc : ¬ _) => ?_; try (simp (disch := decide) only [up_n, up_s, cp_n, rw_n, rw_s, up1_, if_true, if_false, ite_true, ite_false, reduceIte, eq_self, Int.reduceEq, true_and, and_true, not_true_eq_false, not_false_eq_true] at hc)) | (refine fun (hc : _ = _) => ?_; try (simp (disch := decide) only [up_n, up_s, cp_n, rw_n, rw_s, up1_, if_true, if_false, ite_true, ite_false, reduceIte, eq_self, Int.reduceEq, true_and, and_true, not_true_eq_false, not_false_eq_true] at hc)))
      all_goals first | (exfalso; omega) | exact hh
set_option maxHeartbeats 4000000 in
set_option maxRecDepth 100000 in
theorem c_improve {M : fr_M} {f : Int → Int → Int} {n : Int} {rk : Int → Int} {Q : Option fr_V → fr_H → fr_M → Prop} (hn : M 18 2 = n ∧ 0 < n ∧ n ≤ 9) (hf : ∀ i j, 0 ≤ i → i < n → 0 ≤ f i j ∧ f i j ≤ 6000000) (hp : PT f n n (M 19)) (hk : Pm n rk) (hr : ∀ a, 0 ≤ a → a < n → M 74 a = rk a) (h : ∀ X' k, (∀ k i, ¬ (k = 23 ∨ k = 74) → X' k i = M k i) → LocN f n k rk (X' 74) → Q none sh0 X') : fr_Call 43 [.inr (.inl 22), .inr (.inl 74)] sh0 M Q := by
  refine fr_cgo k43 [some (.inr (.inl 22)), some (.inr (.inl 74)), none] 0 0 [2] 400 rfl rfl rfl rfl ?_
  repeat' (first | (refine And.intro (by first | omega | (simp (disch := decide) only [up_n, up_s, cp_n, rw_n, rw_s, up1_, if_true, if_false, ite_true, ite_false, reduceIte, eq_self, Int.reduceEq, true_and, and_true, not_true_eq_false, not_false_eq_true]; omega)) ?_) | (refine And.intro (fun hc => ?_) (fun hc => ?_) <;> (try (simp (disch := decide) only [up_n, up_s, cp_n, rw_n, rw_s, up1_, if_true, if_false, ite_true, ite_false, reduceIte, eq_self, Int.reduceEq, true_and, and_true, not_true_eq_false, not_false_eq_true] at hc)) <;> (try (exfalso; omega))) | (refine fun (hc : ¬ _) => ?_; try (simp (disch := decide) only [up_n, up_s, cp_n, rw_n, rw_s, up1_, if_true, if_false, ite_true, ite_false, reduceIte, eq_self, Int.reduceEq, true_and, and_true, not_true_eq_false, not_false_eq_true] at hc)) | (refine fun (hc : _ = _) => ?_; try (simp (disch := decide) only [up_n, up_s, cp_n, rw_n, rw_s, up1_, if_true, if_false, ite_true, ite_false, reduceIte, eq_self, Int.reduceEq, true_and, and_true, not_true_eq_false, not_false_eq_true] at hc)))
  refine c_im_l hn hf hp 40320 0 M rk [] rfl (by omega) (fun k i _ => rfl) hk hr ⟨List.nodup_nil, fun l hl => by cases hl⟩ h
