set_option maxHeartbeats 4000000 in
set_option maxRecDepth 100000 in
theorem law_loop {L : Nat} {f : Int → Int} (hL : L ≤ 3584) (hf : ∀ i, fr_in (f i)) : ∀ (t : Nat) (n i : Int) (M : fr_M), i = 7 * n → 0 ≤ n → (L : Int) - i < 7 * (t : Int) → Rel n M → fr_Run 206 (some (L, f)) 10 [some (.inr (.inr (.inr ()))), some (.inr (.inl 0)), some (.inr (.inl 75)), some (.inl i)] [] sh0 M 0 0 (fun r _ _ => r = some (.inl 1)) := by
  intro t
  induction t with
  | zero =>
    intro n i M hi hn ht hR
    refine fr_go k206 [10] 100 rfl ?_
    refine And.intro (by omega) ?_
    refine And.intro (by omega) ?_
    refine And.intro (fun hc => ?_) (fun hc => ?_)
    · exact And.intro (by omega) rfl
    · exact absurd hc (by omega)
  | succ t ih =>
    intro n i M hi hn ht hR
    refine fr_go k206 [10] 100 rfl ?_
    refine And.intro (by omega) ?_
    refine And.intro (by omega) ?_
    refine And.intro (fun hc => ?_) (fun hc => ?_)
    · exact And.intro (by omega) rfl
    have hn5 : n ≤ 512 := by omega
    have fin : ∀ M2, Rel (n + 1) M2 → fr_Run 206 (some (L, f)) 10 [some (.inr (.inr (.inr ()))), some (.inr (.inl 0)), some (.inr (.inl 75)), some (.inl (i + 7))] [] sh0 M2 0 0 (fun r _ _ => r = some (.inl 1)) := fun M2 h2 => ih (n + 1) (i + 7) M2 (by omega) (by omega) (by omega) h2
    refine And.intro (by omega) ?_
    refine And.intro (fun hk => ?_) (fun hk => ?_)
    · -- routine
      refine fr_Call.mono (op_routine hR hn5) ?_
      rintro _ _ M1 ⟨rfl, v, rfl, h2⟩
      refine fr_Call.mono h2 ?_
      rintro _ _ M2 ⟨rfl, rfl, hR2⟩
      refine And.intro (fun _ => ?_) (fun hc => absurd rfl hc)
      refine And.intro (by omega) ?_
      exact fin M2 hR2
    refine And.intro (fun hk => ?_) (fun hk => ?_)
    · -- block
      refine And.intro (by omega) ?_
      refine And.intro (by omega) ?_
      refine And.intro (by omega) ?_
      refine And.intro (by omega) ?_
      refine fr_Call.mono (op_block hR hn5 _ _ (hf _) (hf _)) ?_
      rintro _ _ M1 ⟨rfl, v, rfl, h2⟩
      refine And.intro (by omega) ?_
      refine And.intro (by omega) ?_
      refine And.intro (by omega) ?_
      refine And.intro (by omega) ?_
      refine fr_Call.mono h2 ?_
      rintro _ _ M2 ⟨rfl, rfl, hR2⟩
      refine And.intro (fun _ => ?_) (fun hc => absurd rfl hc)
      refine And.intro (by omega) ?_
      exact fin M2 hR2
    refine And.intro (fun hk => ?_) (fun hk => ?_)
    · -- end
      refine And.intro (by omega) ?_
      refine And.intro (by omega) ?_
      refine And.intro (by omega) ?_
      refine And.intro (by omega) ?_
      refine And.intro (by omega) ?_
      refine And.intro (by omega) ?_
      refine And.intro (by omega) ?_
      refine And.intro (by omega) ?_
      refine And.intro (by omega) ?_
      refine And.intro (by omega) ?_
      refine And.intro (by omega) ?_
      refine And.intro (by omega) ?_
      refine fr_Call.mono (op_end hR hn5 _ _ _ _ _ _ (hf _) (hf _) (hf _) (hf _) (hf _) (hf _)) ?_
      rintro _ _ M1 ⟨rfl, v, rfl, h2⟩
      refine And.intro (by omega) ?_
      refine And.intro (by omega) ?_
      refine And.intro (by omega) ?_
      refine And.intro (by omega) ?_
      refine And.intro (by omega) ?_
      refine And.intro (by omega) ?_
      refine And.intro (by omega) ?_
      refine And.intro (by omega) ?_
      refine And.intro (by omega) ?_
      refine And.intro (by omega) ?_
      refine And.intro (by omega) ?_
      refine And.intro (by omega) ?_
      refine fr_Call.mono h2 ?_
      rintro _ _ M2 ⟨rfl, rfl, hR2⟩
      refine And.intro (fun _ => ?_) (fun hc => absurd rfl hc)
      refine And.intro (by omega) ?_
      exact fin M2 hR2
    refine And.intro (fun hk => ?_) (fun hk => ?_)
    · -- count
      refine And.intro (by omega) ?_
      refine And.intro (by omega) ?_
      refine And.intro (by omega) ?_
      refine And.intro (by omega) ?_
      refine And.intro (by omega) ?_
      refine And.intro (by omega) ?_
      refine fr_Call.mono (op_count hR hn5 _ _ _ (hf _) (hf _) (hf _)) ?_
      rintro _ _ M1 ⟨rfl, v, rfl, h2⟩
      refine And.intro (by omega) ?_
      refine And.intro (by omega) ?_
      refine And.intro (by omega) ?_
      refine And.intro (by omega) ?_
      refine And.intro (by omega) ?_
      refine And.intro (by omega) ?_
      refine fr_Call.mono h2 ?_
      rintro _ _ M2 ⟨rfl, rfl, hR2⟩
      refine And.intro (fun _ => ?_) (fun hc => absurd rfl hc)
      refine And.intro (by omega) ?_
      exact fin M2 hR2
    refine And.intro (fun hk => ?_) (fun hk => ?_)
    · -- cold
      refine And.intro (by omega) ?_
      refine And.intro (by omega) ?_
      refine And.intro (by omega) ?_
      refine And.intro (by omega) ?_
      refine And.intro (fun hz => ?_) (fun hz => ?_)
      · refine fr_Call.mono (op_cold hR hn5 _ _ (hf _) (Or.inl rfl)) ?_
        rintro _ _ M1 ⟨rfl, v, rfl, h2⟩
        refine And.intro (by omega) ?_
        refine And.intro (by omega) ?_
        refine And.intro (by omega) ?_
        refine And.intro (by omega) ?_
        refine And.intro (fun hz2 => ?_) (fun hz2 => ?_)
        · refine fr_Call.mono h2 ?_
          rintro _ _ M2 ⟨rfl, rfl, hR2⟩
          refine And.intro (fun _ => ?_) (fun hc => absurd rfl hc)
          refine And.intro (by omega) ?_
          exact fin M2 hR2
        · exact absurd hz (by omega)
      · refine fr_Call.mono (op_cold hR hn5 _ _ (hf _) (Or.inr rfl)) ?_
        rintro _ _ M1 ⟨rfl, v, rfl, h2⟩
        refine And.intro (by omega) ?_
        refine And.intro (by omega) ?_
        refine And.intro (by omega) ?_
        refine And.intro (by omega) ?_
        refine And.intro (fun hz2 => ?_) (fun hz2 => ?_)
        · exact absurd hz2 (by omega)
        · refine fr_Call.mono h2 ?_
          rintro _ _ M2 ⟨rfl, rfl, hR2⟩
          refine And.intro (fun _ => ?_) (fun hc => absurd rfl hc)
          refine And.intro (by omega) ?_
          exact fin M2 hR2
    refine And.intro (fun hk => ?_) (fun hk => ?_)
    · -- about
      refine And.intro (by omega) ?_
      refine And.intro (by omega) ?_
      refine And.intro (by omega) ?_
      refine And.intro (by omega) ?_
      refine fr_Call.mono (op_about hR hn5 _ _ (hf _) (hf _)) ?_
      rintro _ _ M1 ⟨rfl, v, rfl, h2⟩
      refine And.intro (by omega) ?_
      refine And.intro (by omega) ?_
      refine And.intro (by omega) ?_
      refine And.intro (by omega) ?_
      refine fr_Call.mono h2 ?_
      rintro _ _ M2 ⟨rfl, rfl, hR2⟩
      refine And.intro (fun _ => ?_) (fun hc => absurd rfl hc)
      refine And.intro (by omega) ?_
      exact fin M2 hR2
    refine And.intro (fun hk => ?_) (fun hk => ?_)
    · -- move
      refine And.intro (by omega) ?_
      refine And.intro (by omega) ?_
      refine And.intro (by omega) ?_
      refine And.intro (by omega) ?_
      refine fr_Call.mono (op_move hR hn5 _ _ (hf _) (hf _)) ?_
      rintro _ _ M1 ⟨rfl, v, rfl, h2⟩
      refine And.intro (by omega) ?_
      refine And.intro (by omega) ?_
      refine And.intro (by omega) ?_
      refine And.intro (by omega) ?_
      refine fr_Call.mono h2 ?_
      rintro _ _ M2 ⟨rfl, rfl, hR2⟩
      refine And.intro (fun _ => ?_) (fun hc => absurd rfl hc)
      refine And.intro (by omega) ?_
      exact fin M2 hR2
    refine And.intro (fun hk => ?_) (fun hk => ?_)
    · -- swap
      refine And.intro (by omega) ?_
      refine And.intro (by omega) ?_
      refine And.intro (by omega) ?_
      refine And.intro (by omega) ?_
      refine fr_Call.mono (op_swap hR hn5 _ _ (hf _) (hf _)) ?_
      rintro _ _ M1 ⟨rfl, v, rfl, h2⟩
      refine And.intro (by omega) ?_
      refine And.intro (by omega) ?_
      refine And.intro (by omega) ?_
      refine And.intro (by omega) ?_
      refine fr_Call.mono h2 ?_
      rintro _ _ M2 ⟨rfl, rfl, hR2⟩
      refine And.intro (fun _ => ?_) (fun hc => absurd rfl hc)
      refine And.intro (by omega) ?_
      exact fin M2 hR2
    refine And.intro (fun hk => ?_) (fun hk => ?_)
    · -- order
      refine And.intro (by omega) ?_
      refine And.intro (by omega) ?_
      refine And.intro (by omega) ?_
      refine And.intro (by omega) ?_
      refine fr_Call.mono (op_order hR hn5 _ _ (hf _) (hf _)) ?_
      rintro _ _ M1 ⟨rfl, v, rfl, h2⟩
      refine And.intro (by omega) ?_
      refine And.intro (by omega) ?_
      refine And.intro (by omega) ?_
      refine And.intro (by omega) ?_
      refine fr_Call.mono h2 ?_
      rintro _ _ M2 ⟨rfl, rfl, hR2⟩
      refine And.intro (fun _ => ?_) (fun hc => absurd rfl hc)
      refine And.intro (by omega) ?_
      exact fin M2 hR2
    refine And.intro (fun hk => ?_) (fun hk => ?_)
    · -- undo
      refine fr_Call.mono (op_undo hR hn5) ?_
      rintro _ _ M1 ⟨rfl, v, rfl, h2⟩
      refine fr_Call.mono h2 ?_
      rintro _ _ M2 ⟨rfl, rfl, hR2⟩
      refine And.intro (fun _ => ?_) (fun hc => absurd rfl hc)
      refine And.intro (by omega) ?_
      exact fin M2 hR2
    refine And.intro (fun hk => ?_) (fun hk => ?_)
    · -- set
      refine And.intro (by omega) ?_
      refine And.intro (by omega) ?_
      refine And.intro (by omega) ?_
      refine And.intro (by omega) ?_
      refine fr_Call.mono (op_set hR hn5 _ _ (hf _) (hf _)) ?_
      rintro _ _ M1 ⟨rfl, v, rfl, h2⟩
      refine And.intro (by omega) ?_
      refine And.intro (by omega) ?_
      refine And.intro (by omega) ?_
      refine And.intro (by omega) ?_
      refine fr_Call.mono h2 ?_
      rintro _ _ M2 ⟨rfl, rfl, hR2⟩
      refine And.intro (fun _ => ?_) (fun hc => absurd rfl hc)
      refine And.intro (by omega) ?_
      exact fin M2 hR2
    refine And.intro (fun hk => ?_) (fun hk => ?_)
    · -- weight
      refine And.intro (by omega) ?_
      refine And.intro (by omega) ?_
      refine And.intro (by omega) ?_
      refine And.intro (by omega) ?_
      refine fr_Call.mono (op_weight hR hn5 _ _ (hf _) (hf _)) ?_
      rintro _ _ M1 ⟨rfl, v, rfl, h2⟩
      refine And.intro (by omega) ?_
      refine And.intro (by omega) ?_
      refine And.intro (by omega) ?_
      refine And.intro (by omega) ?_
      refine fr_Call.mono h2 ?_
      rintro _ _ M2 ⟨rfl, rfl, hR2⟩
      refine And.intro (fun _ => ?_) (fun hc => absurd rfl hc)
      refine And.intro (by omega) ?_
      exact fin M2 hR2
    refine And.intro (fun hk => ?_) (fun hk => ?_)
    · -- row
      refine And.intro (by omega) ?_
      refine And.intro (by omega) ?_
      refine fr_Call.mono (op_row hR hn5 _ (hf _)) ?_
      rintro _ _ M1 ⟨rfl, v, rfl, h2⟩
      refine And.intro (by omega) ?_
      refine And.intro (by omega) ?_
      refine fr_Call.mono h2 ?_
      rintro _ _ M2 ⟨rfl, rfl, hR2⟩
      refine And.intro (fun _ => ?_) (fun hc => absurd rfl hc)
      refine And.intro (by omega) ?_
      exact fin M2 hR2
    refine And.intro (fun hk => ?_) (fun hk => ?_)
    · -- laid
      refine And.intro (by omega) ?_
      refine And.intro (by omega) ?_
      refine And.intro (by omega) ?_
      refine And.intro (by omega) ?_
      refine fr_Call.mono (op_laid hR hn5 _ _ (hf _) (hf _)) ?_
      rintro _ _ M1 ⟨rfl, v, rfl, h2⟩
      refine And.intro (by omega) ?_
      refine And.intro (by omega) ?_
      refine And.intro (by omega) ?_
      refine And.intro (by omega) ?_
      refine fr_Call.mono h2 ?_
      rintro _ _ M2 ⟨rfl, rfl, hR2⟩
      refine And.intro (fun _ => ?_) (fun hc => absurd rfl hc)
      refine And.intro (by omega) ?_
      exact fin M2 hR2
    refine And.intro (fun hk => ?_) (fun hk => ?_)
    · -- image
      refine And.intro (by omega) ?_
      refine And.intro (by omega) ?_
      refine fr_Call.mono (op_image hR hn5 _ (hf _)) ?_
      rintro _ _ M1 ⟨rfl, v, rfl, h2⟩
      refine And.intro (by omega) ?_
      refine And.intro (by omega) ?_
      refine fr_Call.mono h2 ?_
      rintro _ _ M2 ⟨rfl, rfl, hR2⟩
      refine And.intro (fun _ => ?_) (fun hc => absurd rfl hc)
      refine And.intro (by omega) ?_
      exact fin M2 hR2
    refine And.intro (fun hk => ?_) (fun hk => ?_)
    · -- told
      refine And.intro (by omega) ?_
      refine And.intro (by omega) ?_
      refine fr_Call.mono (op_told hR hn5 _ (hf _)) ?_
      rintro _ _ M1 ⟨rfl, v, rfl, h2⟩
      refine And.intro (by omega) ?_
      refine And.intro (by omega) ?_
      refine fr_Call.mono h2 ?_
      rintro _ _ M2 ⟨rfl, rfl, hR2⟩
      refine And.intro (fun _ => ?_) (fun hc => absurd rfl hc)
      refine And.intro (by omega) ?_
      exact fin M2 hR2
    refine And.intro (fun hk => ?_) (fun hk => ?_)
    · -- say
      refine And.intro (by omega) ?_
      refine And.intro (by omega) ?_
      refine And.intro (by omega) ?_
      refine And.intro (by omega) ?_
      refine And.intro (by omega) ?_
      refine And.intro (by omega) ?_
      refine fr_Call.mono (op_say hR hn5 _ _ (hf _)) ?_
      rintro _ _ M1 ⟨rfl, v, rfl, h2⟩
      refine And.intro (by omega) ?_
      refine And.intro (by omega) ?_
      refine And.intro (by omega) ?_
      refine And.intro (by omega) ?_
      refine And.intro (by omega) ?_
      refine And.intro (by omega) ?_
      refine fr_Call.mono h2 ?_
      rintro _ _ M2 ⟨rfl, rfl, hR2⟩
      refine And.intro (fun _ => ?_) (fun hc => absurd rfl hc)
      refine And.intro (by omega) ?_
      exact fin M2 hR2
    refine And.intro (fun hk => ?_) (fun hk => ?_)
    · -- tear
      refine fr_Call.mono (op_tear hR hn5) ?_
      rintro _ _ M1 ⟨rfl, v, rfl, h2⟩
      refine fr_Call.mono h2 ?_
      rintro _ _ M2 ⟨rfl, rfl, hR2⟩
      refine And.intro (fun _ => ?_) (fun hc => absurd rfl hc)
      refine And.intro (by omega) ?_
      exact fin M2 hR2
    refine And.intro (fun hk => ?_) (fun hk => ?_)
    · -- run
      refine And.intro (by omega) ?_
      refine And.intro (by omega) ?_
      refine And.intro (by omega) ?_
      refine And.intro (by omega) ?_
      refine fr_Call.mono (op_run hR hn5 _ _ (hf _) (hf _)) ?_
      rintro _ _ M1 ⟨rfl, v, rfl, h2⟩
      refine And.intro (by omega) ?_
      refine And.intro (by omega) ?_
      refine And.intro (by omega) ?_
      refine And.intro (by omega) ?_
      refine fr_Call.mono h2 ?_
      rintro _ _ M2 ⟨rfl, rfl, hR2⟩
      refine And.intro (fun _ => ?_) (fun hc => absurd rfl hc)
      refine And.intro (by omega) ?_
      exact fin M2 hR2
    refine And.intro (fun hk => ?_) (fun hk => ?_)
    · -- ran
      refine And.intro (by omega) ?_
      refine And.intro (by omega) ?_
      refine And.intro (by omega) ?_
      refine And.intro (by omega) ?_
      refine fr_Call.mono (op_ran hR hn5 _ _ (hf _) (hf _)) ?_
      rintro _ _ M1 ⟨rfl, v, rfl, h2⟩
      refine And.intro (by omega) ?_
      refine And.intro (by omega) ?_
      refine And.intro (by omega) ?_
      refine And.intro (by omega) ?_
      refine fr_Call.mono h2 ?_
      rintro _ _ M2 ⟨rfl, rfl, hR2⟩
      refine And.intro (fun _ => ?_) (fun hc => absurd rfl hc)
      refine And.intro (by omega) ?_
      exact fin M2 hR2
    refine And.intro (fun hk => ?_) (fun hk => ?_)
    · -- passed
      refine And.intro (by omega) ?_
      refine And.intro (by omega) ?_
      refine And.intro (by omega) ?_
      refine And.intro (by omega) ?_
      refine fr_Call.mono (op_passed hR hn5 _ _ (hf _) (hf _)) ?_
      rintro _ _ M1 ⟨rfl, v, rfl, h2⟩
      refine And.intro (by omega) ?_
      refine And.intro (by omega) ?_
      refine And.intro (by omega) ?_
      refine And.intro (by omega) ?_
      refine fr_Call.mono h2 ?_
      rintro _ _ M2 ⟨rfl, rfl, hR2⟩
      refine And.intro (fun _ => ?_) (fun hc => absurd rfl hc)
      refine And.intro (by omega) ?_
      exact fin M2 hR2
    refine And.intro (fun hk => ?_) (fun hk => ?_)
    · -- learn
      refine fr_Call.mono (op_learn hR hn5) ?_
      rintro _ _ M1 ⟨rfl, v, rfl, h2⟩
      refine fr_Call.mono h2 ?_
      rintro _ _ M2 ⟨rfl, rfl, hR2⟩
      refine And.intro (fun _ => ?_) (fun hc => absurd rfl hc)
      refine And.intro (by omega) ?_
      exact fin M2 hR2
    refine And.intro (fun hk => ?_) (fun hk => ?_)
    · -- pages
      refine And.intro (by omega) ?_
      refine And.intro (by omega) ?_
      refine fr_Call.mono (op_pages hR hn5 _ (hf _)) ?_
      rintro _ _ M1 ⟨rfl, v, rfl, h2⟩
      refine And.intro (by omega) ?_
      refine And.intro (by omega) ?_
      refine fr_Call.mono h2 ?_
      rintro _ _ M2 ⟨rfl, rfl, hR2⟩
      refine And.intro (fun _ => ?_) (fun hc => absurd rfl hc)
      refine And.intro (by omega) ?_
      exact fin M2 hR2
    refine And.intro (fun hk => ?_) (fun hk => ?_)
    · -- differ
      refine fr_Call.mono (op_differ hR hn5) ?_
      rintro _ _ M1 ⟨rfl, v, rfl, h2⟩
      refine fr_Call.mono h2 ?_
      rintro _ _ M2 ⟨rfl, rfl, hR2⟩
      refine And.intro (fun _ => ?_) (fun hc => absurd rfl hc)
      refine And.intro (by omega) ?_
      exact fin M2 hR2
    refine And.intro (fun hk => ?_) (fun hk => ?_)
    · -- has
      refine And.intro (by omega) ?_
      refine And.intro (by omega) ?_
      refine fr_Call.mono (op_has hR hn5 _ (hf _)) ?_
      rintro _ _ M1 ⟨rfl, v, rfl, h2⟩
      refine And.intro (by omega) ?_
      refine And.intro (by omega) ?_
      refine fr_Call.mono h2 ?_
      rintro _ _ M2 ⟨rfl, rfl, hR2⟩
      refine And.intro (fun _ => ?_) (fun hc => absurd rfl hc)
      refine And.intro (by omega) ?_
      exact fin M2 hR2
    refine And.intro (by omega) ?_
    exact fin M (hR.next)
set_option maxHeartbeats 4000000 in
set_option maxRecDepth 100000 in
theorem law_run {L : Nat} {f : Int → Int} (hL : L ≤ 3584) (hf : ∀ i, fr_in (f i)) : fr_Run 206 (some (L, f)) 0 [some (.inr (.inr (.inr ()))), none, none, none] [] [] (fun _ _ => 0) 119 24412 (fun r _ _ => r = some (.inl 1)) := by
  refine fr_go k206 [10] 100 rfl ?_
  refine c_of (ci_0 ?_) rfl rfl (by repeat (first | (with_reducible exact rfl) | refine e_un ?_ | refine e_up ?_ rfl | refine e_zr ?_ (fun _ => rfl)))
  refine c_of (ci_15 ?_) rfl rfl (by repeat (first | (with_reducible exact rfl) | refine e_un ?_ | refine e_up ?_ rfl | refine e_zr ?_ (fun _ => rfl)))
  exact law_loop hL hf (L + 1) 0 0 Z4 rfl (by omega) (by omega) rel_init
