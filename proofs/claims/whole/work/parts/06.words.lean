theorem fr_lk_all : (fr_own.zip (fr_lk.zip fr_lkp)).all fr_lkc = true := by decide +kernel
theorem fr_mc_all : (fr_tab.zip fr_mp).all fr_mc1 = true := by decide +kernel
set_option maxRecDepth 100000 in
theorem fr_cw_all : (fr_tab.take 206).map (fun rc => some (Cond.code rc.2.1 rc.2.2.1 rc.2.2.2.1 rc.2.2.2.2.1)) = (fr_mp.take 206).map (fun q => lw_tbl[q.1]?) := rfl
def fr_ip : List (Nat × Nat) := [(240, 88), (266, 90), (221, 87), (297, 91), (253, 89), (193, 86), (380, 92), (110, 85), (421, 94), (407, 93), (446, 95), (102, 84), (1129, 96)]
def fr_fk (t : FieldType) : Option (Option Nat) := match t with
  | .int => none
  | .boolean => none
  | _ => some none
def fr_cc1 (q : vw_C × String × (Nat × Nat) × fr_F × (Nat → FieldType)) : Bool := decide (q.1.1 = q.2.1) && decide (lw_tbl[q.2.2.1.1]? = some (.instantiable q.1.1 q.1.2.2)) && decide (lw_tbl[q.2.2.1.2]? = some (.initialized q.1.1)) && decide (q.2.2.2.1 = (List.range q.1.2.2).map (fun k => fr_fk (q.2.2.2.2 k)))
theorem fr_cc_all : (vwCl.zip (fr_own.zip (fr_ip.zip (fr_kd.zip fr_tys)))).all fr_cc1 = true := by decide +kernel
set_option maxRecDepth 100000 in
theorem fr_w_oi : Cond.instanceMethod objectInit ∈ lw_tbl := List.mem_of_getElem? (i := 107) (by decide +kernel)
set_option maxRecDepth 100000 in
theorem fr_w_oc : Cond.code objectInit ⟨#[0xb1]⟩ 1 none ∈ lw_tbl := List.mem_of_getElem? (i := 108) (by decide +kernel)
theorem fr_w_aint : Cond.arrayClass .int ∈ lw_tbl := List.mem_of_getElem? (i := 190) (by decide +kernel)
theorem fr_w_aboolean : Cond.arrayClass .boolean ∈ lw_tbl := List.mem_of_getElem? (i := 191) (by decide +kernel)
theorem fr_w_abyte : Cond.arrayClass .byte ∈ lw_tbl := List.mem_of_getElem? (i := 405) (by decide +kernel)
theorem fr_w_an : Cond.native arraycopyName ∈ lw_tbl := List.mem_of_getElem? (i := 678) (by decide +kernel)
theorem fr_w_as : Cond.static arraycopyName ∈ lw_tbl := List.mem_of_getElem? (i := 677) (by decide +kernel)
theorem fr_w_ai : Cond.initialized "java/lang/System" ∈ lw_tbl := List.mem_of_getElem? (i := 97) (by decide +kernel)
theorem fr_w_mi : Cond.initialized "java/lang/Math" ∈ lw_tbl := List.mem_of_getElem? (i := 98) (by decide +kernel)
theorem fr_w_smin : Cond.static Lib.Math.min.name ∈ lw_tbl := List.mem_of_getElem? (i := 741) (by decide +kernel)
theorem fr_w_cmin : Cond.code Lib.Math.min.name Lib.Math.min.code 2 (some .int) ∈ lw_tbl := List.mem_of_getElem? (i := 742) (by decide +kernel)
theorem fr_w_smax : Cond.static Lib.Math.max.name ∈ lw_tbl := List.mem_of_getElem? (i := 1016) (by decide +kernel)
theorem fr_w_cmax : Cond.code Lib.Math.max.name Lib.Math.max.code 2 (some .int) ∈ lw_tbl := List.mem_of_getElem? (i := 1017) (by decide +kernel)
theorem fr_w_sabs : Cond.static Lib.Math.abs.name ∈ lw_tbl := List.mem_of_getElem? (i := 684) (by decide +kernel)
theorem fr_w_cabs : Cond.code Lib.Math.abs.name Lib.Math.abs.code 1 (some .int) ∈ lw_tbl := List.mem_of_getElem? (i := 685) (by decide +kernel)
