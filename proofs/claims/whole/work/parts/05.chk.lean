/-! ===== what the tables of the code must say: decided by program ===== -/
def fr_word (own : String) (q : Nat × Nat × Nat × Nat × Int) : Cond := match q with
  | (0, idx, ci, k, _) => (match fr_nth vwCl ci with
    | some (_, T, _) => .fieldLink own idx (T k).1 (T k).2.1 (T k).2.2.1
    | none => .initialized "")
  | (1, idx, mj, _, _) => (match fr_nth fr_tab mj with
    | some rc => .methodLink own idx rc.2.1
    | none => .initialized "")
  | (2, idx, _, _, _) => .methodLink own idx arraycopyName
  | (3, idx, _, _, _) => .methodLink own idx objectInit
  | (4, idx, ci, _, _) => (match fr_nth fr_own ci with
    | some n => .classLink own idx n
    | none => .initialized "")
  | (5, idx, _, _, c) => .constant own idx (Int32.ofInt c)
  | (6, idx, _, _, c) => .constantLong own idx (Int64.ofInt c)
  | (7, idx, _, _, _) => .methodLink own idx Lib.Math.min.name
  | (8, idx, _, _, _) => .methodLink own idx Lib.Math.max.name
  | (9, idx, _, _, _) => .methodLink own idx Lib.Math.abs.name
  | _ => .initialized ""
def fr_lkc (t : String × List (Nat × Nat × Nat × Nat × Int) × List Nat) : Bool := t.2.1.length == t.2.2.length && (t.2.1.zip t.2.2).all (fun q => decide (lw_tbl[q.2]? = some (fr_word t.1 q.1)))
def fr_tg (cd : List fr_E) (t : Nat) : Nat := match fr_nth cd t with
  | some e => e.1
  | none => 0
def fr_jmp (cd : List fr_E) (pc : Nat) (off : Int) (t : Nat) : Bool := decide ((pc : Int) + off = (fr_tg cd t : Int))
def fr_mem (own : Nat) (q : Nat × Nat × Nat × Nat × Int) : Bool := match fr_nth fr_lk own with
  | some l => l.any (fun r => Nat.beq r.2.1 q.2.1 && decide (r = q))
  | none => false
def fr_cal (rc : fr_T) (i a : Nat) (d : List Nat) (kind : Nat) : Bool := fr_mem rc.1 (1, i, a, 0, 0) && (match fr_nth fr_tab a with
  | some r => Nat.beq r.2.2.2.2.2.2.2.1 kind && Nat.ble (r.2.2.2.2.2.2.1.frames + 1) rc.2.2.2.2.2.2.1.frames && Nat.ble (8 + (r.2.2.2.1 + 11) + r.2.2.2.2.2.2.1.locals) rc.2.2.2.2.2.2.1.locals && decide (d = [(if kind = 0 then r.2.2.2.2.2.2.2.2 else r.2.2.2.2.2.2.2.2 + 1), r.2.2.2.2.2.2.1.cells, r.2.2.2.2.2.2.1.slots, if r.2.2.2.2.1.isSome then 1 else 0, r.2.2.2.1])
  | none => false)
def fr_final (ci k : Nat) : Bool := match fr_nth vwCl ci with
  | some (_, T, _) => (T k).2.2.2
  | none => true
def fr_fty (ci k : Nat) : FieldType := match fr_nth fr_tys ci with
  | some f => f k
  | none => .int
def fr_cnt (ci : Nat) : Nat := match fr_nth vwCl ci with
  | some (_, _, N) => N
  | none => 0
def fr_ch (rc : fr_T) (en : fr_E) : Bool := match en with
  | (pc, ins, len, a, b, c, d) => decide (decode rc.2.2.1 pc = .ok (ins, len)) && (match ins with
    | .iconst n => Nat.beq len 1 && decide (-128 ≤ n ∧ n ≤ 127)
    | .bipush n => Nat.beq len 2 && decide (-128 ≤ n ∧ n ≤ 127)
    | .sipush n => Nat.beq len 3 && decide (-32768 ≤ n ∧ n ≤ 32767)
    | .ldc i => Nat.beq len 2 && fr_mem rc.1 (5, i, 0, 0, c) && decide (-2147483648 ≤ c ∧ c ≤ 2147483647)
    | .ldc_w i => Nat.beq len 3 && fr_mem rc.1 (5, i, 0, 0, c) && decide (-2147483648 ≤ c ∧ c ≤ 2147483647)
    | .ldc2_w i => Nat.beq len 3 && fr_mem rc.1 (6, i, 0, 0, c)
    | .iload _ => Nat.beq len 2
    | .aload _ => Nat.beq len 2
    | .istore _ => Nat.beq len 2
    | .iinc _ _ => Nat.beq len 3
    | .ifCond _ off => Nat.beq len 3 && fr_jmp rc.2.2.2.2.2.1 pc off a
    | .if_icmp _ off => Nat.beq len 3 && fr_jmp rc.2.2.2.2.2.1 pc off a
    | .goto off => Nat.beq len 3 && fr_jmp rc.2.2.2.2.2.1 pc off a
    | .tableswitch df lo hi offs => fr_jmp rc.2.2.2.2.2.1 pc df a && decide (hi - lo + 1 = (d.length : Int)) && decide (offs.toList.length = d.length) && (offs.toList.zip d).all (fun q => fr_jmp rc.2.2.2.2.2.1 pc q.1 q.2)
    | .lookupswitch df ps => fr_jmp rc.2.2.2.2.2.1 pc df a && decide (ps.toList.length = d.length) && (ps.toList.zip d).all (fun q => fr_jmp rc.2.2.2.2.2.1 pc q.1.2 q.2) && (ps.toList.zip (ps.toList.drop 1)).all (fun (a, next) => a.1 < next.1)
    | .getfield i => Nat.beq len 3 && fr_mem rc.1 (0, i, a, b, 0) && decide (c = (b : Int)) && Nat.blt b (fr_cnt a)
    | .putfield i => Nat.beq len 3 && fr_mem rc.1 (0, i, a, b, 0) && decide (c = (b : Int)) && Nat.blt b (fr_cnt a) && (if fr_final a b then Nat.beq rc.2.2.2.2.2.2.2.1 2 && Nat.beq rc.1 a else true) && (match fr_fty a b with
      | .int => decide (d = [])
      | .boolean => decide (d = [1])
      | .object _ => decide (d = [2])
      | .array _ => decide (d = [2])
      | _ => false)
    | .newarray t => Nat.beq len 2 && (match t with
      | .int => Nat.beq a 0
      | .boolean => Nat.beq a 1
      | .byte => Nat.beq a 2
      | _ => false)
    | .new i => Nat.beq len 3 && fr_mem rc.1 (4, i, a, 0, 0) && Nat.beq b (fr_cnt a) && Nat.blt a 13
    | .invokespecial i => Nat.beq len 3 && (if a = 999 then fr_mem rc.1 (3, i, 0, 0, 0) && Nat.ble 1 rc.2.2.2.2.2.2.1.frames && Nat.ble 20 rc.2.2.2.2.2.2.1.locals else fr_cal rc i a d 2)
    | .invokevirtual i => Nat.beq len 3 && fr_cal rc i a d 1 && Nat.blt b 13 && (match fr_nth fr_tab a with
      | some r => Nat.beq r.1 b
      | none => false)
    | .invokestatic i => Nat.beq len 3 && (if a = 998 then fr_mem rc.1 (2, i, 0, 0, 0) && Nat.ble 1 rc.2.2.2.2.2.2.1.frames && Nat.ble 60 rc.2.2.2.2.2.2.1.locals else if a = 995 ∨ a = 996 ∨ a = 997 then fr_mem rc.1 (a - 988, i, 0, 0, 0) && Nat.ble 1 rc.2.2.2.2.2.2.1.frames && Nat.ble 30 rc.2.2.2.2.2.2.1.locals else fr_cal rc i a d 0)
    | .ireturn => Nat.beq len 1 && (match rc.2.2.2.2.1 with
      | some .int => Nat.beq a 0
      | some .boolean => Nat.beq a 1
      | _ => false)
    | .areturn => Nat.beq len 1 && (match rc.2.2.2.2.1 with
      | some (.object _) => true
      | _ => false)
    | .return_ => Nat.beq len 1 && (match rc.2.2.2.2.1 with
      | none => true
      | _ => false)
    | _ => Nat.beq len 1)
/-- each instruction stands right behind the one ahead of it -/
def fr_seq : List fr_E → Bool
  | [] => true
  | [_] => true
  | e :: e2 :: l => Nat.beq (e.1 + e.2.2.1) e2.1 && fr_seq (e2 :: l)
def fr_rcc (rc : fr_T) : Bool := fr_seq rc.2.2.2.2.2.1 && rc.2.2.2.2.2.1.all (fr_ch rc)
def fr_mc1 (q : fr_T × Nat × Nat × Nat × Nat) : Bool := match q.1.2.2.2.2.2.2.2.1 with
  | 3 => decide (fr_nth fr_own q.1.1 = some q.1.2.1.cls)
  | k => decide (fr_nth fr_own q.1.1 = some q.1.2.1.cls) && decide (lw_tbl[q.2.2.1]? = some (.initialized q.1.2.1.cls)) && decide (q.1.2.1.cls ≠ "java/lang/invoke/MethodHandle" ∧ q.1.2.1.cls ≠ "java/lang/invoke/VarHandle" ∧ (parseMethodDescriptor q.1.2.1.desc).map (fun d => d.parameters.length) = some q.1.2.2.2.2.2.2.2.2) && plainName q.1.2.1.cls && (match k with
    | 0 => decide (lw_tbl[q.2.2.2.1]? = some (.static q.1.2.1))
    | 1 => decide (lw_tbl[q.2.2.2.1]? = some (.instanceMethod q.1.2.1)) && decide (lw_tbl[q.2.2.2.2]? = some (.selects q.1.2.1.cls q.1.2.1 q.1.2.1))
    | _ => decide (lw_tbl[q.2.2.2.1]? = some (.instanceMethod q.1.2.1)) && decide (q.1.2.1.name = "<init>"))
