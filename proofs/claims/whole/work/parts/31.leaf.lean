/-! ===== small methods ===== -/
theorem up_s {M : fr_M} {k : Nat} {i x j : Int} : fr_up M k i x k j = if j = i then x else M k j := fr_up_s j
theorem up_n {M : fr_M} {k k' : Nat} {i x j : Int} (h : k' ≠ k) : fr_up M k i x k' j = M k' j := by rw [fr_up_o h]
set_option maxHeartbeats 4000000 in
set_option maxRecDepth 100000 in
theorem c_isRoutine {M : fr_M} {r : Int} {Q : Option fr_V → fr_H → fr_M → Prop} (h1 : 0 ≤ r ∧ r < M 1 0 → Q (some (.inl 1)) sh0 M) (h0 : ¬ (0 ≤ r ∧ r < M 1 0) → Q (some (.inl 0)) sh0 M) : fr_Call 73 [.inr (.inl 1), .inl r] sh0 M Q := by
  refine fr_cgo k73 [some (.inr (.inl 1)), some (.inl r)] 0 0 [] 400 rfl rfl rfl rfl ?_
  repeat' (first | (refine And.intro (by omega) ?_) | (refine And.intro (fun hc => ?_) (fun hc => ?_)) | (refine fun (hc : ¬ _) => ?_) | (refine fun (hc : _ = _) => ?_))
  all_goals first | exact h1 (by omega) | exact h0 (by omega)
set_option maxHeartbeats 4000000 in
set_option maxRecDepth 100000 in
theorem c_hasBlocks {M : fr_M} {r : Int} {Q : Option fr_V → fr_H → fr_M → Prop} (hP : 0 ≤ M 1 0 ∧ M 1 0 ≤ 6) (h1 : (0 ≤ r ∧ r < M 1 0) ∧ 0 < M 2 r → Q (some (.inl 1)) sh0 M) (h0 : ¬ ((0 ≤ r ∧ r < M 1 0) ∧ 0 < M 2 r) → Q (some (.inl 0)) sh0 M) : fr_Call 74 [.inr (.inl 1), .inl r] sh0 M Q := by
  refine fr_cgo k74 [some (.inr (.inl 1)), some (.inl r)] 0 0 [] 400 rfl rfl rfl rfl ?_
  repeat' (first | (refine And.intro (by omega) ?_) | (refine c_isRoutine (fun hc => ?_) (fun hc => ?_)) | (refine And.intro (fun hc => ?_) (fun hc => ?_)) | (refine fun (hc : ¬ _) => ?_) | (refine fun (hc : _ = _) => ?_))
  all_goals first | exact h1 (by omega) | exact h0 (by omega) | omega
set_option maxHeartbeats 4000000 in
set_option maxRecDepth 100000 in
theorem c_isBlock {M : fr_M} {b : Int} {Q : Option fr_V → fr_H → fr_M → Prop} (h1 : 0 ≤ b ∧ b < M 1 1 → Q (some (.inl 1)) sh0 M) (h0 : ¬ (0 ≤ b ∧ b < M 1 1) → Q (some (.inl 0)) sh0 M) : fr_Call 61 [.inr (.inl 1), .inl b] sh0 M Q := by
  refine fr_cgo k61 [some (.inr (.inl 1)), some (.inl b)] 0 0 [] 400 rfl rfl rfl rfl ?_
  repeat' (first | (refine And.intro (by omega) ?_) | (refine And.intro (fun hc => ?_) (fun hc => ?_)) | (refine fun (hc : ¬ _) => ?_) | (refine fun (hc : _ = _) => ?_))
  all_goals first | exact h1 (by omega) | exact h0 (by omega)
set_option maxHeartbeats 4000000 in
set_option maxRecDepth 100000 in
theorem c_isBlockOf {M : fr_M} {r b : Int} {Q : Option fr_V → fr_H → fr_M → Prop} (hP : 0 ≤ M 1 1 ∧ M 1 1 ≤ 40) (h1 : (0 ≤ b ∧ b < M 1 1) ∧ M 4 b = r → Q (some (.inl 1)) sh0 M) (h0 : ¬ ((0 ≤ b ∧ b < M 1 1) ∧ M 4 b = r) → Q (some (.inl 0)) sh0 M) : fr_Call 75 [.inr (.inl 1), .inl r, .inl b] sh0 M Q := by
  refine fr_cgo k75 [some (.inr (.inl 1)), some (.inl r), some (.inl b)] 0 0 [] 400 rfl rfl rfl rfl ?_
  repeat' (first | (refine And.intro (by omega) ?_) | (refine c_isBlock (fun hc => ?_) (fun hc => ?_)) | (refine And.intro (fun hc => ?_) (fun hc => ?_)) | (refine fun (hc : ¬ _) => ?_) | (refine fun (hc : _ = _) => ?_))
  all_goals first | exact h1 (by omega) | exact h0 (by omega) | omega
set_option maxHeartbeats 4000000 in
set_option maxRecDepth 100000 in
theorem c_ownBlock {M : fr_M} {r w : Int} {Q : Option fr_V → fr_H → fr_M → Prop} (hr : 0 ≤ r ∧ r < 6) (hw : 0 ≤ w ∧ w < 9) (h : Q (some (.inl (M 3 (r * 9 + w)))) sh0 M) : fr_Call 8 [.inr (.inl 1), .inl r, .inl w] sh0 M Q := by
  refine fr_cgo k8 [some (.inr (.inl 1)), some (.inl r), some (.inl w)] 0 0 [] 400 rfl rfl rfl rfl ?_
  repeat' (first | (refine And.intro (by omega) ?_) | (refine And.intro (fun hc => ?_) (fun hc => ?_)) | (refine fun (hc : ¬ _) => ?_) | (refine fun (hc : _ = _) => ?_))
  exact h
set_option maxHeartbeats 4000000 in
set_option maxRecDepth 100000 in
theorem c_wayOf {M : fr_M} {b w : Int} {Q : Option fr_V → fr_H → fr_M → Prop} (hb : 0 ≤ b ∧ b < 40) (hw : 0 ≤ w ∧ w < 4) (h1 : w < M 8 b → Q (some (.inl (M 11 (b * 4 + w)))) sh0 M) (h0 : ¬ w < M 8 b → Q (some (.inl (-1))) sh0 M) : fr_Call 13 [.inr (.inl 1), .inl b, .inl w] sh0 M Q := by
  refine fr_cgo k13 [some (.inr (.inl 1)), some (.inl b), some (.inl w)] 0 0 [] 400 rfl rfl rfl rfl ?_
  repeat' (first | (refine And.intro (by omega) ?_) | (refine And.intro (fun hc => ?_) (fun hc => ?_)) | (refine fun (hc : ¬ _) => ?_) | (refine fun (hc : _ = _) => ?_))
  all_goals first | exact h1 (by omega) | exact h0 (by omega)
set_option maxHeartbeats 4000000 in
set_option maxRecDepth 100000 in
theorem c_countOf {M : fr_M} {b w : Int} {Q : Option fr_V → fr_H → fr_M → Prop} (hb : 0 ≤ b ∧ b < 40) (hw : 0 ≤ w ∧ w < 4) (h1 : w < M 8 b → Q (some (.inl (M 12 (b * 4 + w)))) sh0 M) (h0 : ¬ w < M 8 b → Q (some (.inl 0)) sh0 M) : fr_Call 10 [.inr (.inl 1), .inl b, .inl w] sh0 M Q := by
  refine fr_cgo k10 [some (.inr (.inl 1)), some (.inl b), some (.inl w)] 0 0 [] 400 rfl rfl rfl rfl ?_
  repeat' (first | (refine And.intro (by omega) ?_) | (refine And.intro (fun hc => ?_) (fun hc => ?_)) | (refine fun (hc : ¬ _) => ?_) | (refine fun (hc : _ = _) => ?_))
  all_goals first | exact h1 (by omega) | exact h0 (by omega)
set_option maxHeartbeats 4000000 in
set_option maxRecDepth 100000 in
theorem c_goesOn {M : fr_M} {b : Int} {Q : Option fr_V → fr_H → fr_M → Prop} (hb : 0 ≤ b ∧ b < 40) (h1 : M 7 b = 2 ∨ M 7 b = 5 ∨ M 7 b = 6 → Q (some (.inl 1)) sh0 M) (h0 : ¬ (M 7 b = 2 ∨ M 7 b = 5 ∨ M 7 b = 6) → Q (some (.inl 0)) sh0 M) : fr_Call 9 [.inr (.inl 1), .inl b] sh0 M Q := by
  refine fr_cgo k9 [some (.inr (.inl 1)), some (.inl b)] 0 0 [] 400 rfl rfl rfl rfl ?_
  repeat' (first | (refine And.intro (by omega) ?_) | (refine And.intro (fun hc => ?_) (fun hc => ?_)) | (refine fun (hc : ¬ _) => ?_) | (refine fun (hc : _ = _) => ?_))
  all_goals first | exact h1 (by omega) | exact h0 (by omega)
set_option maxHeartbeats 4000000 in
set_option maxRecDepth 100000 in
theorem c_disturb {M : fr_M} {Q : Option fr_V → fr_H → fr_M → Prop} (h : Q none sh0 (fr_up M 29 18 0)) : fr_Call 26 [.inr (.inl 29)] sh0 M Q := by
  refine fr_cgo k26 [some (.inr (.inl 29))] 0 0 [] 400 rfl rfl rfl rfl ?_
  repeat' (first | (refine And.intro (by omega) ?_) | (refine And.intro (fun hc => ?_) (fun hc => ?_)) | (refine fun (hc : ¬ _) => ?_) | (refine fun (hc : _ = _) => ?_))
  exact h
set_option maxHeartbeats 4000000 in
set_option maxRecDepth 100000 in
theorem c_put {M : fr_M} {r p b : Int} {Q : Option fr_V → fr_H → fr_M → Prop} (hr : 0 ≤ r ∧ r < 6) (hw : 0 ≤ p ∧ p < 9) (hb : 0 ≤ b ∧ b < 40) (h : Q none sh0 (fr_up (fr_up M 14 (r * 9 + p) b) 15 b p)) : fr_Call 45 [.inr (.inl 13), .inl r, .inl p, .inl b] sh0 M Q := by
  refine fr_cgo k45 [some (.inr (.inl 13)), some (.inl r), some (.inl p), some (.inl b)] 0 0 [] 400 rfl rfl rfl rfl ?_
  repeat' (first | (refine And.intro (by omega) ?_) | (refine And.intro (fun hc => ?_) (fun hc => ?_)) | (refine fun (hc : ¬ _) => ?_) | (refine fun (hc : _ = _) => ?_))
  exact h
set_option maxHeartbeats 4000000 in
set_option maxRecDepth 100000 in
theorem c_asNumber {M : fr_M} {z : Int} {Q : Option fr_V → fr_H → fr_M → Prop} (hz : z = 0 ∨ z = 1) (h : Q (some (.inl z)) sh0 M) : fr_Call 113 [.inl z] sh0 M Q := by
  refine fr_cgo k113 [some (.inl z)] 0 0 [] 400 rfl rfl rfl rfl ?_
  repeat' (first | (refine And.intro (by omega) ?_) | (refine And.intro (fun hc => ?_) (fun hc => ?_)) | (refine fun (hc : ¬ _) => ?_) | (refine fun (hc : _ = _) => ?_))
  all_goals (rcases hz with rfl | rfl <;> first | exact h | omega)
set_option maxHeartbeats 4000000 in
set_option maxRecDepth 100000 in
theorem c_isMovable {M : fr_M} {b : Int} {Q : Option fr_V → fr_H → fr_M → Prop} (hP : 0 ≤ M 1 1 ∧ M 1 1 ≤ 40) (h1 : (0 ≤ b ∧ b < M 1 1) ∧ 0 < M 5 b → Q (some (.inl 1)) sh0 M) (h0 : ¬ ((0 ≤ b ∧ b < M 1 1) ∧ 0 < M 5 b) → Q (some (.inl 0)) sh0 M) : fr_Call 112 [.inr (.inl 0), .inl b] sh0 M Q := by
  refine fr_cgo k112 [some (.inr (.inl 0)), some (.inl b)] 0 0 [] 400 rfl rfl rfl rfl ?_
  repeat' (first | (refine And.intro (by omega) ?_) | (refine c_isBlock (fun hc => ?_) (fun hc => ?_)) | (refine And.intro (fun hc => ?_) (fun hc => ?_)) | (refine fun (hc : ¬ _) => ?_) | (refine fun (hc : _ = _) => ?_))
  all_goals first | exact h1 (by omega) | exact h0 (by omega) | omega
/-! the reference's -/
set_option maxHeartbeats 4000000 in
set_option maxRecDepth 100000 in
theorem m_in {M : fr_M} {v lo hi : Int} {Q : Option fr_V → fr_H → fr_M → Prop} (h1 : lo ≤ v ∧ v ≤ hi → Q (some (.inl 1)) sh0 M) (h0 : ¬ (lo ≤ v ∧ v ≤ hi) → Q (some (.inl 0)) sh0 M) : fr_Call 140 [.inl v, .inl lo, .inl hi] sh0 M Q := by
  refine fr_cgo k140 [some (.inl v), some (.inl lo), some (.inl hi)] 0 0 [] 400 rfl rfl rfl rfl ?_
  repeat' (first | (refine And.intro (by omega) ?_) | (refine And.intro (fun hc => ?_) (fun hc => ?_)) | (refine fun (hc : ¬ _) => ?_) | (refine fun (hc : _ = _) => ?_))
  all_goals first | exact h1 (by omega) | exact h0 (by omega)
set_option maxHeartbeats 4000000 in
set_option maxRecDepth 100000 in
theorem m_isRoutine {M : fr_M} {r : Int} {Q : Option fr_V → fr_H → fr_M → Prop} (hP : 0 ≤ M 75 0 ∧ M 75 0 ≤ 6) (h1 : 0 ≤ r ∧ r < M 75 0 → Q (some (.inl 1)) sh0 M) (h0 : ¬ (0 ≤ r ∧ r < M 75 0) → Q (some (.inl 0)) sh0 M) : fr_Call 141 [.inr (.inl 75), .inl r] sh0 M Q := by
  refine fr_cgo k141 [some (.inr (.inl 75)), some (.inl r)] 0 0 [] 400 rfl rfl rfl rfl ?_
  repeat' (first | (refine And.intro (by omega) ?_) | (refine m_in (fun hc => ?_) (fun hc => ?_)) | (refine And.intro (fun hc => ?_) (fun hc => ?_)) | (refine fun (hc : ¬ _) => ?_) | (refine fun (hc : _ = _) => ?_))
  all_goals first | exact h1 (by omega) | exact h0 (by omega)
set_option maxHeartbeats 4000000 in
set_option maxRecDepth 100000 in
theorem m_isBlock {M : fr_M} {b : Int} {Q : Option fr_V → fr_H → fr_M → Prop} (hP : 0 ≤ M 75 4 ∧ M 75 4 ≤ 40) (h1 : 0 ≤ b ∧ b < M 75 4 → Q (some (.inl 1)) sh0 M) (h0 : ¬ (0 ≤ b ∧ b < M 75 4) → Q (some (.inl 0)) sh0 M) : fr_Call 142 [.inr (.inl 75), .inl b] sh0 M Q := by
  refine fr_cgo k142 [some (.inr (.inl 75)), some (.inl b)] 0 0 [] 400 rfl rfl rfl rfl ?_
  repeat' (first | (refine And.intro (by omega) ?_) | (refine m_in (fun hc => ?_) (fun hc => ?_)) | (refine And.intro (fun hc => ?_) (fun hc => ?_)) | (refine fun (hc : ¬ _) => ?_) | (refine fun (hc : _ = _) => ?_))
  all_goals first | exact h1 (by omega) | exact h0 (by omega)
set_option maxHeartbeats 4000000 in
set_option maxRecDepth 100000 in
theorem m_isFirst {M : fr_M} {b : Int} {Q : Option fr_V → fr_H → fr_M → Prop} (hb : 0 ≤ b ∧ b < 40) (hr : 0 ≤ M 79 b ∧ M 79 b < 6) (h1 : M 77 (9 * M 79 b) = b → Q (some (.inl 1)) sh0 M) (h0 : ¬ M 77 (9 * M 79 b) = b → Q (some (.inl 0)) sh0 M) : fr_Call 143 [.inr (.inl 75), .inl b] sh0 M Q := by
  refine fr_cgo k143 [some (.inr (.inl 75)), some (.inl b)] 0 0 [] 400 rfl rfl rfl rfl ?_
  repeat' (first | (refine And.intro (by omega) ?_) | (refine And.intro (fun hc => ?_) (fun hc => ?_)) | (refine fun (hc : ¬ _) => ?_) | (refine fun (hc : _ = _) => ?_))
  all_goals first | exact h1 (by omega) | exact h0 (by omega)
