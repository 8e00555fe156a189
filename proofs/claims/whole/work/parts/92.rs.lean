/-! ===== a run, as whole numbers: where it is, CHOICES, open CALLS, the most of them, WAYS taken, JUMPS, TESTS that jumped, that stayed ===== -/
abbrev RS : Type := Int × Int × List Int × Int × (Int → Int) × Int × Int × Int
def tpf (M : fr_M) : Int → Int := fun i => if i < M 75 17 then M 87 i else 0
/-- WAY w of a BLOCK is taken -/
def tkw (p : fr_M) (ch : Int) (st : List Int) (mo : Int) (tk : Int → Int) (jm tj ts : Int) (f w : Int) : RS := (p 84 (4 * f + w), ch, st, mo, up1 tk (4 * f + w) (tk (4 * f + w) + 1), if p 82 f = 3 then (if (if tu p f = 1 then w = 1 else w = 0) then jm else if tg1 p f ≠ -1 then jm + 1 else jm) else if p 82 f ≠ 4 ∧ w = 0 ∧ tg1 p f ≠ -1 then jm + 1 else jm, if p 82 f = 3 ∧ (if tu p f = 1 then w = 1 else w = 0) then tj + 1 else tj, if p 82 f = 3 ∧ ¬ (if tu p f = 1 then w = 1 else w = 0) then ts + 1 else ts)
def wy (p : fr_M) (tp : Int → Int) (b ch : Int) : Int := if p 82 b = 3 then tp ch % 2 else if p 82 b = 4 then tp ch % p 83 b else if p 82 b = 6 then (if tp ch = 255 then 1 else 0) else 0
def stp (p : fr_M) (tp : Int → Int) (s : RS) : RS := match s with
  | (b, ch, st, mo, tk, jm, tj, ts) => if p 82 b = 1 then (-2, ch, st, mo, tk, jm, tj, ts) else if p 82 b = 5 then (if st.length = 8 then (-3, ch, st, mo, tk, jm, tj, ts) else (p 77 (9 * p 86 b), ch, b :: st, max mo ((st.length : Int) + 1), tk, jm, tj, ts)) else if p 82 b = 0 then (match st with
    | [] => (-1, ch, [], mo, tk, jm, tj, ts)
    | f :: r => tkw p ch r mo tk jm tj ts f 0) else tkw p (if p 82 b = 2 then ch else ch + 1) st mo tk jm tj ts b (wy p tp b ch)
def rs (p : fr_M) (tp : Int → Int) (b : Int) : Nat → RS
  | 0 => (b, 0, [], 0, fun _ => 0, 0, 0, 0)
  | k + 1 => if (rs p tp b k).1 < 0 then rs p tp b k else stp p tp (rs p tp b k)
/-- what holds of it -/
def SI (p : fr_M) (k : Nat) (s : RS) : Prop := (-3 ≤ s.1 ∧ s.1 < p 75 4) ∧ (0 ≤ s.2.1 ∧ s.2.1 ≤ (k : Int)) ∧ (∀ x ∈ s.2.2.1, (0 ≤ x ∧ x < p 75 4) ∧ p 82 x = 5) ∧ s.2.2.1.length ≤ 8 ∧ (0 ≤ s.2.2.2.1 ∧ s.2.2.2.1 ≤ 8) ∧ (∀ i, 0 ≤ s.2.2.2.2.1 i ∧ s.2.2.2.2.1 i ≤ (k : Int)) ∧ (0 ≤ s.2.2.2.2.2.1 ∧ s.2.2.2.2.2.1 ≤ (k : Int)) ∧ (0 ≤ s.2.2.2.2.2.2.1 ∧ s.2.2.2.2.2.2.1 ≤ (k : Int)) ∧ (0 ≤ s.2.2.2.2.2.2.2 ∧ s.2.2.2.2.2.2.2 ≤ (k : Int))
theorem tkw_si {p : fr_M} {k : Nat} {ch : Int} {st : List Int} {mo : Int} {tk : Int → Int} {jm tj ts f w : Int} (hat : 0 ≤ p 84 (4 * f + w) ∧ p 84 (4 * f + w) < p 75 4) (h2 : 0 ≤ ch ∧ ch ≤ (k : Int) + 1) (h3 : ∀ x ∈ st, (0 ≤ x ∧ x < p 75 4) ∧ p 82 x = 5) (h4 : st.length ≤ 8) (h5 : 0 ≤ mo ∧ mo ≤ 8) (h6 : ∀ i, 0 ≤ tk i ∧ tk i ≤ (k : Int)) (h7 : 0 ≤ jm ∧ jm ≤ (k : Int)) (h8 : 0 ≤ tj ∧ tj ≤ (k : Int)) (h9 : 0 ≤ ts ∧ ts ≤ (k : Int)) : SI p (k + 1) (tkw p ch st mo tk jm tj ts f w) := by
  refine ⟨⟨?_, hat.2⟩, ?_, h3, h4, h5, fun i => ?_, ?_, ?_, ?_⟩
  · show -3 ≤ p 84 (4 * f + w)
    omega
  · show 0 ≤ ch ∧ ch ≤ ((k + 1 : Nat) : Int)
    omega
  · show 0 ≤ up1 tk (4 * f + w) (tk (4 * f + w) + 1) i ∧ up1 tk (4 * f + w) (tk (4 * f + w) + 1) i ≤ ((k + 1 : Nat) : Int)
    rw [up1_]
    have a := h6 i
    have b := h6 (4 * f + w)
    split <;> omega
  · simp only [tkw]
    split
    · split
      · omega
      · split <;> omega
    · split <;> omega
  · simp only [tkw]
    split <;> omega
  · simp only [tkw]
    split <;> omega
theorem stp_si {p : fr_M} (hw : WF p) {tp : Int → Int} (ht : ∀ i, 0 ≤ i → 0 ≤ tp i ∧ tp i ≤ 255) {k : Nat} {s : RS} (h : SI p k s) (h0 : 0 ≤ s.1) : SI p (k + 1) (stp p tp s) := by
  obtain ⟨b, ch, st, mo, tk, jm, tj, ts⟩ := s
  obtain ⟨h1, h2, h3, h4, h5, h6, h7, h8, h9⟩ := h
  have hb : 0 ≤ b ∧ b < p 75 4 := ⟨h0, h1.2⟩
  have h2 : 0 ≤ ch ∧ ch ≤ (k : Int) := h2
  have h7 : 0 ≤ jm ∧ jm ≤ (k : Int) := h7
  have h8 : 0 ≤ tj ∧ tj ≤ (k : Int) := h8
  have h9 : 0 ≤ ts ∧ ts ≤ (k : Int) := h9
  have h5 : 0 ≤ mo ∧ mo ≤ 8 := h5
  have h4 : st.length ≤ 8 := h4
  have h6 : ∀ i, 0 ≤ tk i ∧ tk i ≤ (k : Int) := h6
  obtain ⟨w1', w2', w3', w4', w5', w6', w7', w8'⟩ := hw.2.2.2.2.2.1 b hb.1 hb.2
  have hwy := hw.2.2.2.2.2.2
  have h40 := hw.1.1
  have same : ∀ e : Int, -3 ≤ e → e < 0 → SI p (k + 1) (e, ch, st, mo, tk, jm, tj, ts) := by
    intro e he he2
    refine ⟨⟨he, ?_⟩, ?_, h3, h4, h5, fun i => ?_, ?_, ?_, ?_⟩
    · show e < p 75 4
      omega
    · show 0 ≤ ch ∧ ch ≤ ((k + 1 : Nat) : Int)
      omega
    · have := h6 i
      show 0 ≤ tk i ∧ tk i ≤ ((k + 1 : Nat) : Int)
      omega
    · show 0 ≤ jm ∧ jm ≤ ((k + 1 : Nat) : Int)
      omega
    · show 0 ≤ tj ∧ tj ≤ ((k + 1 : Nat) : Int)
      omega
    · show 0 ≤ ts ∧ ts ≤ ((k + 1 : Nat) : Int)
      omega
  unfold stp
  simp only
  by_cases k1 : p 82 b = 1
  · rw [if_pos k1]
    exact same (-2) (by omega) (by omega)
  · rw [if_neg k1]
    by_cases k5 : p 82 b = 5
    · rw [if_pos k5]
      by_cases k8 : st.length = 8
      · rw [if_pos k8]
        exact same (-3) (by omega) (by omega)
      · rw [if_neg k8]
        have hc := w8' k5
        refine ⟨⟨?_, hc.2.2.2⟩, ?_, ?_, ?_, ?_, fun i => ?_, ?_, ?_, ?_⟩
        · show -3 ≤ p 77 (9 * p 86 b)
          omega
        · show 0 ≤ ch ∧ ch ≤ ((k + 1 : Nat) : Int)
          omega
        · intro x hx
          rcases List.mem_cons.mp hx with e | e
          · rw [e]
            exact ⟨hb, k5⟩
          · exact h3 x e
        · show (b :: st).length ≤ 8
          rw [List.length_cons]
          omega
        · show 0 ≤ max mo ((st.length : Int) + 1) ∧ max mo ((st.length : Int) + 1) ≤ 8
          omega
        · have := h6 i
          show 0 ≤ tk i ∧ tk i ≤ ((k + 1 : Nat) : Int)
          omega
        · show 0 ≤ jm ∧ jm ≤ ((k + 1 : Nat) : Int)
          omega
        · show 0 ≤ tj ∧ tj ≤ ((k + 1 : Nat) : Int)
          omega
        · show 0 ≤ ts ∧ ts ≤ ((k + 1 : Nat) : Int)
          omega
    · rw [if_neg k5]
      by_cases k0 : p 82 b = 0
      · rw [if_pos k0]
        cases st with
        | nil => exact same (-1) (by omega) (by omega)
        | cons f r =>
          have hf := h3 f (List.mem_cons_self ..)
          have hn := (hw.2.2.2.2.2.1 f hf.1.1 hf.1.2).2.2.2.2.1 (Or.inr hf.2)
          have hq := hwy f 0 hf.1.1 hf.1.2 (by omega) (by omega)
          rw [List.length_cons] at h4
          exact tkw_si hq (by omega) (fun x hx => h3 x (List.mem_cons_of_mem _ hx)) (by omega) h5 h6 h7 h8 h9
      · rw [if_neg k0]
        have hwr : 0 ≤ wy p tp b ch ∧ wy p tp b ch < p 83 b := by
          have := ht ch h2.1
          unfold wy
          split
          · omega
          · split
            · next q =>
              have := w7' q
              exact ⟨Int.emod_nonneg _ (by omega), Int.emod_lt_of_pos _ (by omega)⟩
            · split
              · split <;> omega
              · omega
        have hq := hwy b _ hb.1 hb.2 hwr.1 hwr.2
        refine tkw_si hq ?_ h3 h4 h5 h6 h7 h8 h9
        split <;> omega
theorem rs_si {p : fr_M} (hw : WF p) {tp : Int → Int} (ht : ∀ i, 0 ≤ i → 0 ≤ tp i ∧ tp i ≤ 255) {b : Int} (hb : 0 ≤ b ∧ b < p 75 4) : ∀ k : Nat, SI p k (rs p tp b k)
  | 0 => by
    have h8 : (0 : Int) ≤ 8 := by omega
    have h3 : -3 ≤ b := by omega
    have hz : (0 : Int) ≤ 0 := Int.le_refl 0
    exact And.intro ⟨h3, hb.2⟩ (And.intro ⟨hz, hz⟩ (And.intro (fun x hx => by cases hx) (And.intro (Nat.zero_le 8) (And.intro ⟨hz, h8⟩ (And.intro (fun i => ⟨hz, hz⟩) (And.intro ⟨hz, hz⟩ (And.intro ⟨hz, hz⟩ ⟨hz, hz⟩)))))))
  | k + 1 => by
    have ih := rs_si hw ht hb k
    rw [rs]
    split
    · obtain ⟨h1, h2, h3, h4, h5, h6, h7, h8, h9⟩ := ih
      exact ⟨h1, by omega, h3, h4, h5, fun i => by have := h6 i; omega, by omega, by omega, by omega⟩
    · exact stp_si hw ht ih (by omega)
