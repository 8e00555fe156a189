/-! ===== a small machine of whole numbers over a heap of rows: values, one instruction, what its tables must say ===== -/
abbrev fr_V : Type := Int ⊕ (Nat ⊕ (Int64 ⊕ Unit))
abbrev fr_M : Type := Nat → Int → Int
abbrev fr_F : Type := List (Option (Option Nat))
abbrev fr_H : Type := List ((Nat × Nat) ⊕ (Nat × fr_F))
abbrev fr_L : Type := List (Option fr_V)
/-- pc, instruction, its length, and what it was resolved to -/
abbrev fr_E : Type := Nat × Instr × Nat × Nat × Nat × Int × List Nat
/-- class, name, bytes, locals, answer, code, room, kind (0 static, 1 virtual, 2 constructor, 3 law), parameters -/
abbrev fr_T : Type := Nat × MethodName × ByteArray × Nat × Option FieldType × List fr_E × Room × Nat × Nat
def fr_nth {α : Type} : List α → Nat → Option α
  | [], _ => none
  | a :: _, 0 => some a
  | _ :: l, n + 1 => fr_nth l n
def fr_stn {α : Type} : List α → Nat → α → List α
  | [], _, _ => []
  | _ :: l, 0, v => v :: l
  | a :: l, n + 1, v => a :: fr_stn l n v
abbrev fr_in (x : Int) : Prop := -2147483648 ≤ x ∧ x ≤ 2147483647
def fr_up (M : fr_M) (k : Nat) (i v : Int) : fr_M := fun k' i' => if k' = k then (if i' = i then v else M k' i') else M k' i'
def fr_zr (M : fr_M) (k : Nat) : fr_M := fun k' i => if k' = k then 0 else M k' i
def fr_cp (M : fr_M) (ks : Nat) (sp : Int) (kd : Nat) (dp n : Int) : fr_M := fun k i => if k = kd then (if dp ≤ i ∧ i < dp + n then M ks (sp + (i - dp)) else M k i) else M k i
def fr_and (x y : Int) : Int := (Int32.ofInt x &&& Int32.ofInt y).toInt
def fr_or (x y : Int) : Int := (Int32.ofInt x ||| Int32.ofInt y).toInt
def fr_xor (x y : Int) : Int := (Int32.ofInt x ^^^ Int32.ofInt y).toInt
def fr_shl (x y : Int) : Int := (Int32.ofInt x <<< (Int32.ofInt y &&& 31)).toInt
def fr_shr (x y : Int) : Int := (Int32.ofInt x >>> (Int32.ofInt y &&& 31)).toInt
def fr_ushr (x y : Int) : Int := ((Int32.ofInt x).toUInt32 >>> ((Int32.ofInt y).toUInt32 &&& Int32.toUInt32 31)).toInt32.toInt
def fr_i2b (x : Int) : Int := ((Int32.ofInt x).toInt8.toInt32).toInt
def fr_lshl (x : Int64) (y : Int) : Int64 := x <<< ((Int32.ofInt y).toInt64 &&& 63)
def fr_lshr (x : Int64) (y : Int) : Int64 := x >>> ((Int32.ofInt y).toInt64 &&& 63)
def fr_lushr (x : Int64) (y : Int) : Int64 := (x.toUInt64 >>> ((Int32.ofInt y).toInt64.toUInt64 &&& Int64.toUInt64 63)).toInt64
def fr_cat (v : fr_V) : Nat := match v with
  | .inr (.inr (.inl _)) => 2
  | _ => 1
def fr_wd : List fr_V → Nat
  | [] => 0
  | v :: l => fr_cat v + fr_wd l
/-- a local may be written: it is there, and no long stands right ahead of it -/
def fr_sk (ls : fr_L) (i : Nat) : Bool := Nat.blt i ls.length && (match i with
  | 0 => true
  | j + 1 => (match fr_nth ls j with
    | some (some (.inr (.inr (.inl _)))) => false
    | _ => true))
def fr_args : Nat → List fr_V → List fr_V → List fr_V
  | 0, _, acc => acc
  | _ + 1, [], acc => acc
  | n + 1, v :: st, acc => fr_args n st (v :: acc)
def fr_rest : Nat → List fr_V → List fr_V
  | 0, st => st
  | _ + 1, [] => []
  | n + 1, _ :: st => fr_rest n st
def fr_tsw (x : Int) (D : Nat) (J : Nat → Prop) : Int → List Nat → Prop
  | _, [] => J D
  | i, t :: ts => (x = i → J t) ∧ (x ≠ i → fr_tsw x D J (i + 1) ts)
def fr_lsw (x : Int) (D : Nat) (J : Nat → Prop) : List (Int × Int) → List Nat → Prop
  | (k, _) :: ps, t :: ts => (x = k → J t) ∧ (x ≠ k → fr_lsw x D J ps ts)
  | [], [] => J D
  | _, _ => False
def fr_ild (ls : fr_L) (i : Nat) (f : Int → Prop) : Prop := match fr_nth ls i with
  | some (some (.inl x)) => f x
  | _ => False
def fr_ald (ls : fr_L) (i : Nat) (f : fr_V → Prop) : Prop := match fr_nth ls i with
  | some (some (.inr (.inl k))) => f (.inr (.inl k))
  | some (some (.inr (.inr (.inr u)))) => f (.inr (.inr (.inr u)))
  | _ => False
def fr_u1 (st : List fr_V) (f : Int → List fr_V → Prop) : Prop := match st with
  | .inl x :: r => f x r
  | _ => False
def fr_b2 (st : List fr_V) (f : Int → Int → List fr_V → Prop) : Prop := match st with
  | .inl y :: .inl x :: r => f x y r
  | _ => False
def fr_call (d : List Nat) (ls : fr_L) (st : List fr_V) (bc bs a : Nat) (K : fr_L → List fr_V → fr_H → fr_M → Nat → Nat → Prop) (C : Nat → List fr_V → (Option fr_V → fr_H → fr_M → Prop) → Prop) : Prop := match d with
  | [n, mc, ms, rk, mx] => cond (Nat.ble n st.length && (Nat.ble (fr_wd (fr_rest n st)) 8 && (Nat.ble (fr_wd (fr_args n st [])) mx && (Nat.ble mc bc && Nat.ble ms bs)))) (C a (fr_args n st []) (fun r sh M => match r with
    | none => cond (Nat.beq rk 0) (K ls (fr_rest n st) sh M (bc - mc) (bs - ms)) False
    | some v => cond (Nat.beq rk 1) (K ls (v :: fr_rest n st) sh M (bc - mc) (bs - ms)) False)) False
  | _ => False
/-- the object that a virtual call is made on -/
def fr_rcv (sh : fr_H) (b : Nat) (v : Option fr_V) : Bool := match v with
  | some (.inr (.inl k)) => (match fr_nth sh k with
    | some (.inr (ci, _)) => Nat.beq ci b
    | _ => false)
  | _ => false
def fr_isr (v : Option fr_V) : Bool := match v with
  | some (.inr (.inl _)) => true
  | _ => false
def fr_obj (sh : fr_H) (k a : Nat) (f : fr_F → Prop) : Prop := match fr_nth sh k with
  | some (.inr (ci, fs)) => cond (Nat.beq ci a) (f fs) False
  | _ => False
def fr_arr (sh : fr_H) (k : Nat) (f : Nat → Nat → Prop) : Prop := match fr_nth sh k with
  | some (.inl (t, n)) => f t n
  | _ => False
def fr_kind (kd : List fr_F) (ci : Nat) : fr_F := match fr_nth kd ci with
  | some f => f
  | none => []
/-- one instruction: what must hold, and where it goes on (K next, J a jump, C a call, Rt the answer) -/
def fr_sem (kd : List fr_F) (scr : Option (Nat × (Int → Int))) (en : fr_E) (ls : fr_L) (st : List fr_V) (sh : fr_H) (M : fr_M) (bc bs : Nat) (K : fr_L → List fr_V → fr_H → fr_M → Nat → Nat → Prop) (J : Nat → List fr_V → Prop) (C : Nat → List fr_V → (Option fr_V → fr_H → fr_M → Prop) → Prop) (Rt : Option fr_V → Prop) : Prop := match en with
  | (_, ins, _, a, b, c, d) => match ins with
    | .iconst n => K ls (.inl n :: st) sh M bc bs
    | .bipush n => K ls (.inl n :: st) sh M bc bs
    | .sipush n => K ls (.inl n :: st) sh M bc bs
    | .ldc _ => K ls (.inl c :: st) sh M bc bs
    | .ldc_w _ => K ls (.inl c :: st) sh M bc bs
    | .ldc2_w _ => K ls (.inr (.inr (.inl (Int64.ofInt c))) :: st) sh M bc bs
    | .iload i => fr_ild ls i (fun x => K ls (.inl x :: st) sh M bc bs)
    | .iload_n i => fr_ild ls i.val (fun x => K ls (.inl x :: st) sh M bc bs)
    | .aload i => fr_ald ls i (fun x => K ls (x :: st) sh M bc bs)
    | .aload_n i => fr_ald ls i.val (fun x => K ls (x :: st) sh M bc bs)
    | .lload_n i => (match fr_nth ls i.val with
      | some (some (.inr (.inr (.inl x)))) => K ls (.inr (.inr (.inl x)) :: st) sh M bc bs
      | _ => False)
    | .istore i => fr_u1 st (fun x r => cond (fr_sk ls i) (K (fr_stn ls i (some (.inl x))) r sh M bc bs) False)
    | .istore_n i => fr_u1 st (fun x r => cond (fr_sk ls i.val) (K (fr_stn ls i.val (some (.inl x))) r sh M bc bs) False)
    | .astore_n i => (match st with
      | .inr (.inl k) :: r => cond (fr_sk ls i.val) (K (fr_stn ls i.val (some (.inr (.inl k)))) r sh M bc bs) False
      | _ => False)
    | .iinc i n => fr_ild ls i (fun x => fr_in (x + n) ∧ cond (fr_sk ls i) (K (fr_stn ls i (some (.inl (x + n)))) st sh M bc bs) False)
    | .dup => (match st with
      | v :: r => cond (Nat.beq (fr_cat v) 1) (K ls (v :: v :: r) sh M bc bs) False
      | _ => False)
    | .pop => (match st with
      | v :: r => cond (Nat.beq (fr_cat v) 1) (K ls r sh M bc bs) False
      | _ => False)
    | .dup2 => (match st with
      | v :: w :: r => cond (Nat.beq (fr_cat v) 1 && Nat.beq (fr_cat w) 1) (K ls (v :: w :: v :: w :: r) sh M bc bs) False
      | _ => False)
    | .iadd => fr_b2 st (fun x y r => fr_in (x + y) ∧ K ls (.inl (x + y) :: r) sh M bc bs)
    | .isub => fr_b2 st (fun x y r => fr_in (x - y) ∧ K ls (.inl (x - y) :: r) sh M bc bs)
    | .imul => fr_b2 st (fun x y r => fr_in (x * y) ∧ K ls (.inl (x * y) :: r) sh M bc bs)
    | .idiv => fr_b2 st (fun x y r => (0 ≤ x ∧ 0 < y) ∧ K ls (.inl (x / y) :: r) sh M bc bs)
    | .irem => fr_b2 st (fun x y r => (0 ≤ x ∧ 0 < y) ∧ K ls (.inl (x % y) :: r) sh M bc bs)
    | .ineg => fr_u1 st (fun x r => fr_in (-x) ∧ K ls (.inl (-x) :: r) sh M bc bs)
    | .iand => fr_b2 st (fun x y r => K ls (.inl (fr_and x y) :: r) sh M bc bs)
    | .ior => fr_b2 st (fun x y r => K ls (.inl (fr_or x y) :: r) sh M bc bs)
    | .ixor => fr_b2 st (fun x y r => K ls (.inl (fr_xor x y) :: r) sh M bc bs)
    | .ishl => fr_b2 st (fun x y r => K ls (.inl (fr_shl x y) :: r) sh M bc bs)
    | .ishr => fr_b2 st (fun x y r => K ls (.inl (fr_shr x y) :: r) sh M bc bs)
    | .iushr => fr_b2 st (fun x y r => K ls (.inl (fr_ushr x y) :: r) sh M bc bs)
    | .i2b => fr_u1 st (fun x r => K ls (.inl (fr_i2b x) :: r) sh M bc bs)
    | .i2l => fr_u1 st (fun x r => K ls (.inr (.inr (.inl (Int32.ofInt x).toInt64)) :: r) sh M bc bs)
    | .l2i => (match st with
      | .inr (.inr (.inl x)) :: r => K ls (.inl x.toInt32.toInt :: r) sh M bc bs
      | _ => False)
    | .lshl => (match st with
      | .inl y :: .inr (.inr (.inl x)) :: r => K ls (.inr (.inr (.inl (fr_lshl x y))) :: r) sh M bc bs
      | _ => False)
    | .lshr => (match st with
      | .inl y :: .inr (.inr (.inl x)) :: r => K ls (.inr (.inr (.inl (fr_lshr x y))) :: r) sh M bc bs
      | _ => False)
    | .lushr => (match st with
      | .inl y :: .inr (.inr (.inl x)) :: r => K ls (.inr (.inr (.inl (fr_lushr x y))) :: r) sh M bc bs
      | _ => False)
    | .land => (match st with
      | .inr (.inr (.inl y)) :: .inr (.inr (.inl x)) :: r => K ls (.inr (.inr (.inl (x &&& y))) :: r) sh M bc bs
      | _ => False)
    | .lor => (match st with
      | .inr (.inr (.inl y)) :: .inr (.inr (.inl x)) :: r => K ls (.inr (.inr (.inl (x ||| y))) :: r) sh M bc bs
      | _ => False)
    | .ifCond q _ => fr_u1 st (fun x r => match q with
      | .eq => (x = 0 → J a r) ∧ (¬ x = 0 → K ls r sh M bc bs)
      | .ne => (¬ x = 0 → J a r) ∧ (x = 0 → K ls r sh M bc bs)
      | .lt => (x < 0 → J a r) ∧ (¬ x < 0 → K ls r sh M bc bs)
      | .ge => (0 ≤ x → J a r) ∧ (¬ 0 ≤ x → K ls r sh M bc bs)
      | .gt => (0 < x → J a r) ∧ (¬ 0 < x → K ls r sh M bc bs)
      | .le => (x ≤ 0 → J a r) ∧ (¬ x ≤ 0 → K ls r sh M bc bs))
    | .if_icmp q _ => fr_b2 st (fun x y r => match q with
      | .eq => (x = y → J a r) ∧ (¬ x = y → K ls r sh M bc bs)
      | .ne => (¬ x = y → J a r) ∧ (x = y → K ls r sh M bc bs)
      | .lt => (x < y → J a r) ∧ (¬ x < y → K ls r sh M bc bs)
      | .ge => (y ≤ x → J a r) ∧ (¬ y ≤ x → K ls r sh M bc bs)
      | .gt => (y < x → J a r) ∧ (¬ y < x → K ls r sh M bc bs)
      | .le => (x ≤ y → J a r) ∧ (¬ x ≤ y → K ls r sh M bc bs))
    | .goto _ => J a st
    | .tableswitch _ lo _ _ => fr_u1 st (fun x r => fr_tsw x a (fun t => J t r) lo d)
    | .lookupswitch _ ps => fr_u1 st (fun x r => fr_lsw x a (fun t => J t r) ps.toList d)
    | .getfield _ => (match st with
      | .inr (.inl k) :: r => fr_obj sh k a (fun fs => match fr_nth fs b with
        | some none => K ls (.inl (M k c) :: r) sh M bc bs
        | some (some (some q)) => K ls (.inr (.inl q) :: r) sh M bc bs
        | _ => False)
      | _ => False)
    | .putfield _ => (match st with
      | .inl x :: .inr (.inl k) :: r => fr_obj sh k a (fun fs => match fr_nth fs b with
        | some none => (match d with
          | [] => K ls r sh (fr_up M k c x) bc bs
          | [1] => (0 ≤ x ∧ x ≤ 1) ∧ K ls r sh (fr_up M k c x) bc bs
          | _ => False)
        | _ => False)
      | .inr (.inl q) :: .inr (.inl k) :: r => fr_obj sh k a (fun fs => match fr_nth fs b with
        | some (some _) => (match d with
          | [2] => K ls r (fr_stn sh k (.inr (a, fr_stn fs b (some (some q))))) M bc bs
          | _ => False)
        | _ => False)
      | _ => False)
    | .iaload => (match st with
      | .inl i :: .inr (.inl k) :: r => fr_arr sh k (fun t n => cond (Nat.beq t 0) ((0 ≤ i ∧ i < (n : Int)) ∧ K ls (.inl (M k i) :: r) sh M bc bs) False)
      | .inl i :: .inr (.inr (.inr _)) :: r => (match scr with
        | some (n, f) => (0 ≤ i ∧ i < (n : Int)) ∧ K ls (.inl (f i) :: r) sh M bc bs
        | none => False)
      | _ => False)
    | .baload => (match st with
      | .inl i :: .inr (.inl k) :: r => fr_arr sh k (fun t n => cond (Nat.beq t 1 || Nat.beq t 2) ((0 ≤ i ∧ i < (n : Int)) ∧ K ls (.inl (M k i) :: r) sh M bc bs) False)
      | _ => False)
    | .iastore => (match st with
      | .inl x :: .inl i :: .inr (.inl k) :: r => fr_arr sh k (fun t n => cond (Nat.beq t 0) ((0 ≤ i ∧ i < (n : Int)) ∧ K ls r sh (fr_up M k i x) bc bs) False)
      | _ => False)
    | .bastore => (match st with
      | .inl x :: .inl i :: .inr (.inl k) :: r => fr_arr sh k (fun t n => cond (Nat.beq t 1) (((0 ≤ i ∧ i < (n : Int)) ∧ 0 ≤ x ∧ x ≤ 1) ∧ K ls r sh (fr_up M k i x) bc bs) (cond (Nat.beq t 2) (((0 ≤ i ∧ i < (n : Int)) ∧ -128 ≤ x ∧ x ≤ 127) ∧ K ls r sh (fr_up M k i x) bc bs) False))
      | _ => False)
    | .arraylength => (match st with
      | .inr (.inl k) :: r => fr_arr sh k (fun _ n => K ls (.inl (n : Int) :: r) sh M bc bs)
      | .inr (.inr (.inr _)) :: r => (match scr with
        | some (n, _) => fr_in (n : Int) ∧ K ls (.inl (n : Int) :: r) sh M bc bs
        | none => False)
      | _ => False)
    | .newarray _ => (match st with
      | .inl n :: r => cond (Nat.ble 1 bc && (Nat.ble n.toNat bs && (decide (0 ≤ n) && decide (n ≤ 100000)))) (K ls (.inr (.inl sh.length) :: r) (sh ++ [.inl (a, n.toNat)]) (fr_zr M sh.length) (bc - 1) (bs - n.toNat)) False
      | _ => False)
    | .new _ => cond (Nat.ble 1 bc && Nat.ble b bs) (K ls (.inr (.inl sh.length) :: st) (sh ++ [.inr (a, fr_kind kd a)]) (fr_zr M sh.length) (bc - 1) (bs - b)) False
    | .invokespecial _ => cond (Nat.beq a 999) (match st with
      | .inr (.inl _) :: r => cond (Nat.ble (fr_wd r) 8) (K ls r sh M bc bs) False
      | _ => False) (cond (fr_isr (fr_nth st (d.headD 0 - 1))) (fr_call d ls st bc bs a K C) False)
    | .invokevirtual _ => cond (fr_rcv sh b (fr_nth st (d.headD 0 - 1))) (fr_call d ls st bc bs a K C) False
    | .invokestatic _ => cond (Nat.beq a 998) (match st with
      | .inl n :: .inl dp :: .inr (.inl kd) :: .inl sp :: .inr (.inl ks) :: r => fr_arr sh ks (fun t0 n0 => fr_arr sh kd (fun t1 n1 => cond (Nat.beq t0 0 && (Nat.beq t1 0 && Nat.ble (fr_wd r) 8)) ((0 ≤ n ∧ 0 ≤ sp ∧ 0 ≤ dp ∧ sp + n ≤ (n0 : Int) ∧ dp + n ≤ (n1 : Int)) ∧ K ls r sh (fr_cp M ks sp kd dp n) bc bs) False))
      | _ => False) (cond (Nat.beq a 995) (fr_b2 st (fun x y r => cond (Nat.ble (fr_wd r) 8) (K ls (.inl (min x y) :: r) sh M bc bs) False)) (cond (Nat.beq a 996) (fr_b2 st (fun x y r => cond (Nat.ble (fr_wd r) 8) (K ls (.inl (max x y) :: r) sh M bc bs) False)) (cond (Nat.beq a 997) (fr_u1 st (fun x r => cond (Nat.ble (fr_wd r) 8) ((0 ≤ x → K ls (.inl x :: r) sh M bc bs) ∧ (¬ 0 ≤ x → fr_in (-x) ∧ K ls (.inl (-x) :: r) sh M bc bs)) False)) (fr_call d ls st bc bs a K C))))
    | .ireturn => (match st with
      | [.inl x] => cond (Nat.beq a 1) ((0 ≤ x ∧ x ≤ 1) ∧ Rt (some (.inl x))) (Rt (some (.inl x)))
      | _ => False)
    | .areturn => (match st with
      | [.inr (.inl k)] => Rt (some (.inr (.inl k)))
      | _ => False)
    | .return_ => (match st with
      | [] => Rt none
      | _ => False)
    | _ => False
def fr_own : List String := ["FallRows$BestSearch", "FallRows$ChainSearch", "FallRows$Costs", "FallRows$Layout", "FallRows$LocalSearch", "FallRows$Orders", "FallRows$Picture", "FallRows$Program", "FallRows$Runner", "FallRows$Tape", "FallRows$Trace", "FallRows", "FallRowsModel", "FallRowsLaw", "java/lang/Integer", "java/util/Arrays"]
def fr_kd : List fr_F := [
  [some none, some none],
  [some none, some none, some none, some none, some none, none, none, none],
  [some none, some none, none],
  [some none, some none, some none, some none, some none, some none, some none, some none, some none, some none, some none, none, none, none, none, none, none, none, none],
  [some none, some none],
  [some none, some none, some none, some none, some none, none],
  [some none, some none, some none, some none, none, none],
  [none, none, some none, some none, some none, some none, some none, some none, some none, some none, some none, some none, some none],
  [some none, some none, some none, some none, none, none],
  [some none, none],
  [none, none, none, none, none, none, none, none, none, none, some none, some none, some none, some none, some none, some none],
  [some none, some none, some none, some none, some none, some none, some none, some none, some none, some none, some none, some none, some none, some none, some none, some none, none, none],
  [none, some none, some none, some none, none, some none, some none, some none, some none, some none, some none, some none, some none, none, none, none, some none, none, none, some none, some none, some none, some none, some none, some none, some none, some none, some none, none, some none, some none, some none, some none, some none, some none, some none, some none, none, none, none, some none, none, some none, some none, some none, some none, some none, some none, some none, some none, none, some none, none, some none, some none, some none, some none]]
def fr_tys : List (Nat → FieldType) := [tyX0, tyX1, tyX2, tyX3, tyX4, tyX5, tyX6, tyX7, tyX8, tyX9, tyX10, tyX11, tyX12]
