/-- THE LAW, over the machine of whole numbers -/
theorem law_run {L : Nat} {f : Int → Int} (hL : L ≤ 3584) (hf : ∀ i, fr_in (f i)) : fr_Run 206 (some (L, f)) 0 [some (.inr (.inr (.inr ()))), none, none, none] [] [] (fun _ _ => 0) 119 24412 (fun r _ _ => r = some (.inl 1)) := sorry
