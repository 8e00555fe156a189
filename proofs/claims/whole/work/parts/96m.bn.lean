theorem bn_of {n : Int} {M : fr_M} (hR : Rel n M) {T : Nat} (hT : LayP (pg M) T M) (hP : PicP (pg M) (lgT (pg M) T) M) : BN (pg M) (lgT (pg M) T) M := by
  obtain ⟨h0, h1, h2, h3, h4, h5, h6, h7, h8, o1, o2, o3, k1, k2, k3, k4, k5, t1, t2, s1, r1, r1', r2, r2', r3, r4, l⟩ := hR
  refine ⟨h1.2.2.2.1, fun b q0 q1 => ?_, hP, fun s q0 q1 q2 q3 => ?_, fun s => lg_01⟩
  · have a := hT.2.2.2.1 b q0 q1
    exact ⟨a.1, a.2.1, a.2.2.1, (h4 b q0 q1).2.2.2.2.2.2.1⟩
  · have hd := hT.1.1 s q0 q1
    apply Classical.byContradiction
    intro hc
    exact hd ⟨q2, q3, hc⟩
