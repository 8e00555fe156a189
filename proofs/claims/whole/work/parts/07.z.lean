theorem fr_rl_seq : fr_seq k206 = true := by decide +kernel
theorem fr_lchunk {a n i : Nat} {r : fr_E} (h : ((k206.drop a).take n).all (fr_ch fr_law) = true) (h1 : a ≤ i) (h2 : i < a + n) (hr : k206[i]? = some r) : fr_ch fr_law r = true := by
  refine List.all_eq_true.mp h r (List.mem_of_getElem? (i := i - a) ?_)
  rw [List.getElem?_take, if_pos (by omega), List.getElem?_drop, show a + (i - a) = i by omega]
  exact hr
set_option maxRecDepth 100000 in
theorem fr_rc_law : fr_rcc fr_law = true := by
  unfold fr_rcc
  rw [Bool.and_eq_true]
  refine ⟨fr_rl_seq, List.all_eq_true.mpr fun r hr => ?_⟩
  obtain ⟨i, hi⟩ := List.getElem?_of_mem hr
  have hi : k206[i]? = some r := hi
  have hl : i < 633 := (List.getElem?_eq_some_iff.mp hi).1
  if h0 : i < 48 then exact fr_lchunk fr_rl_0 (by omega) (by omega) hi else
  if h48 : i < 96 then exact fr_lchunk fr_rl_48 (by omega) (by omega) hi else
  if h96 : i < 144 then exact fr_lchunk fr_rl_96 (by omega) (by omega) hi else
  if h144 : i < 192 then exact fr_lchunk fr_rl_144 (by omega) (by omega) hi else
  if h192 : i < 240 then exact fr_lchunk fr_rl_192 (by omega) (by omega) hi else
  if h240 : i < 288 then exact fr_lchunk fr_rl_240 (by omega) (by omega) hi else
  if h288 : i < 336 then exact fr_lchunk fr_rl_288 (by omega) (by omega) hi else
  if h336 : i < 384 then exact fr_lchunk fr_rl_336 (by omega) (by omega) hi else
  if h384 : i < 432 then exact fr_lchunk fr_rl_384 (by omega) (by omega) hi else
  if h432 : i < 480 then exact fr_lchunk fr_rl_432 (by omega) (by omega) hi else
  if h480 : i < 528 then exact fr_lchunk fr_rl_480 (by omega) (by omega) hi else
  if h528 : i < 576 then exact fr_lchunk fr_rl_528 (by omega) (by omega) hi else
  if h576 : i < 624 then exact fr_lchunk fr_rl_576 (by omega) (by omega) hi else
  exact fr_lchunk fr_rl_624 (by omega) (by omega) hi
theorem fr_chunk {a n i : Nat} {r : fr_T} (h : ((fr_tab.drop a).take n).all fr_rcc = true) (h1 : a ≤ i) (h2 : i < a + n) (hr : fr_tab[i]? = some r) : fr_rcc r = true := by
  refine List.all_eq_true.mp h r (List.mem_of_getElem? (i := i - a) ?_)
  rw [List.getElem?_take, if_pos (by omega), List.getElem?_drop, show a + (i - a) = i by omega]
  exact hr
set_option maxRecDepth 100000 in
theorem fr_rc_all : fr_tab.all fr_rcc = true := by
  refine List.all_eq_true.mpr fun r hr => ?_
  obtain ⟨i, hi⟩ := List.getElem?_of_mem hr
  have hl : i < 207 := (List.getElem?_eq_some_iff.mp hi).1
  if h0 : i < 12 then exact fr_chunk fr_rc_0 (by omega) (by omega) hi else
  if h12 : i < 19 then exact fr_chunk fr_rc_12 (by omega) (by omega) hi else
  if h19 : i < 25 then exact fr_chunk fr_rc_19 (by omega) (by omega) hi else
  if h25 : i < 32 then exact fr_chunk fr_rc_25 (by omega) (by omega) hi else
  if h32 : i < 39 then exact fr_chunk fr_rc_32 (by omega) (by omega) hi else
  if h39 : i < 48 then exact fr_chunk fr_rc_39 (by omega) (by omega) hi else
  if h48 : i < 60 then exact fr_chunk fr_rc_48 (by omega) (by omega) hi else
  if h60 : i < 70 then exact fr_chunk fr_rc_60 (by omega) (by omega) hi else
  if h70 : i < 80 then exact fr_chunk fr_rc_70 (by omega) (by omega) hi else
  if h80 : i < 92 then exact fr_chunk fr_rc_80 (by omega) (by omega) hi else
  if h92 : i < 97 then exact fr_chunk fr_rc_92 (by omega) (by omega) hi else
  if h97 : i < 106 then exact fr_chunk fr_rc_97 (by omega) (by omega) hi else
  if h106 : i < 111 then exact fr_chunk fr_rc_106 (by omega) (by omega) hi else
  if h111 : i < 119 then exact fr_chunk fr_rc_111 (by omega) (by omega) hi else
  if h119 : i < 125 then exact fr_chunk fr_rc_119 (by omega) (by omega) hi else
  if h125 : i < 136 then exact fr_chunk fr_rc_125 (by omega) (by omega) hi else
  if h136 : i < 145 then exact fr_chunk fr_rc_136 (by omega) (by omega) hi else
  if h145 : i < 149 then exact fr_chunk fr_rc_145 (by omega) (by omega) hi else
  if h149 : i < 155 then exact fr_chunk fr_rc_149 (by omega) (by omega) hi else
  if h155 : i < 161 then exact fr_chunk fr_rc_155 (by omega) (by omega) hi else
  if h161 : i < 166 then exact fr_chunk fr_rc_161 (by omega) (by omega) hi else
  if h166 : i < 171 then exact fr_chunk fr_rc_166 (by omega) (by omega) hi else
  if h171 : i < 174 then exact fr_chunk fr_rc_171 (by omega) (by omega) hi else
  if h174 : i < 179 then exact fr_chunk fr_rc_174 (by omega) (by omega) hi else
  if h179 : i < 181 then exact fr_chunk fr_rc_179 (by omega) (by omega) hi else
  if h181 : i < 187 then exact fr_chunk fr_rc_181 (by omega) (by omega) hi else
  if h187 : i < 189 then exact fr_chunk fr_rc_187 (by omega) (by omega) hi else
  if h189 : i < 195 then exact fr_chunk fr_rc_189 (by omega) (by omega) hi else
  if h195 : i < 198 then exact fr_chunk fr_rc_195 (by omega) (by omega) hi else
  if h198 : i < 203 then exact fr_chunk fr_rc_198 (by omega) (by omega) hi else
  if h203 : i < 206 then exact fr_chunk fr_rc_203 (by omega) (by omega) hi else
  have e : i = 206 := by omega
  subst e
  have e2 : fr_tab[206]? = some fr_law := rfl
  cases e2.symm.trans hi
  exact fr_rc_law
