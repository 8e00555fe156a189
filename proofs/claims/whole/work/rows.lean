section
-- ===== PART A: goes FIRST, ahead of the names: the tables' words, and 'selects' of the private methods out of them =====
/-- a private method of a class that the tables say can be made, by its rows of tables_1 -/
def lw_okq (q : MethodName × Nat) : Prop := (q.1.cls ≠ "java/lang/invoke/MethodHandle" ∧ q.1.cls ≠ "java/lang/invoke/VarHandle") ∧ Cond.instantiable q.1.cls q.2 ∈ tables_1 ∧ Cond.privateMethod q.1 ∈ tables_1 ∧ Cond.instanceMethod q.1 ∈ tables_1
theorem lw_p0 : lw_okq (⟨"FallRows", "waysOffered", "(I)I"⟩, 18) := ⟨⟨by decide +kernel, by decide +kernel⟩, List.mem_of_getElem? (i := 19) (by decide +kernel), List.mem_of_getElem? (i := 536) (by decide +kernel), List.mem_of_getElem? (i := 537) (by decide +kernel)⟩
theorem lw_p1 : lw_okq (⟨"FallRows", "isMovable", "(I)Z"⟩, 18) := ⟨⟨by decide +kernel, by decide +kernel⟩, List.mem_of_getElem? (i := 19) (by decide +kernel), List.mem_of_getElem? (i := 563) (by decide +kernel), List.mem_of_getElem? (i := 564) (by decide +kernel)⟩
theorem lw_p2 : lw_okq (⟨"FallRows", "aboutWay", "(II)I"⟩, 18) := ⟨⟨by decide +kernel, by decide +kernel⟩, List.mem_of_getElem? (i := 19) (by decide +kernel), List.mem_of_getElem? (i := 574) (by decide +kernel), List.mem_of_getElem? (i := 575) (by decide +kernel)⟩
theorem lw_p3 : lw_okq (⟨"FallRows$Costs", "priceOf", "(II)I"⟩, 3) := ⟨⟨by decide +kernel, by decide +kernel⟩, List.mem_of_getElem? (i := 138) (by decide +kernel), List.mem_of_getElem? (i := 624) (by decide +kernel), List.mem_of_getElem? (i := 625) (by decide +kernel)⟩
theorem lw_p4 : lw_okq (⟨"FallRows$BestSearch", "leastRest", "(III)I"⟩, 2) := ⟨⟨by decide +kernel, by decide +kernel⟩, List.mem_of_getElem? (i := 157) (by decide +kernel), List.mem_of_getElem? (i := 642) (by decide +kernel), List.mem_of_getElem? (i := 643) (by decide +kernel)⟩
theorem lw_p5 : lw_okq (⟨"FallRows$BestSearch", "through", "(III)I"⟩, 2) := ⟨⟨by decide +kernel, by decide +kernel⟩, List.mem_of_getElem? (i := 157) (by decide +kernel), List.mem_of_getElem? (i := 654) (by decide +kernel), List.mem_of_getElem? (i := 655) (by decide +kernel)⟩
theorem lw_p6 : lw_okq (⟨"FallRows$BestSearch", "firstBest", "(II)I"⟩, 2) := ⟨⟨by decide +kernel, by decide +kernel⟩, List.mem_of_getElem? (i := 157) (by decide +kernel), List.mem_of_getElem? (i := 661) (by decide +kernel), List.mem_of_getElem? (i := 662) (by decide +kernel)⟩
theorem lw_p7 : lw_okq (⟨"FallRows$LocalSearch", "improveOnce", "([I)Z"⟩, 2) := ⟨⟨by decide +kernel, by decide +kernel⟩, List.mem_of_getElem? (i := 170) (by decide +kernel), List.mem_of_getElem? (i := 670) (by decide +kernel), List.mem_of_getElem? (i := 671) (by decide +kernel)⟩
theorem lw_p8 : lw_okq (⟨"FallRows$LocalSearch", "attempt", "([IIII)V"⟩, 2) := ⟨⟨by decide +kernel, by decide +kernel⟩, List.mem_of_getElem? (i := 170) (by decide +kernel), List.mem_of_getElem? (i := 679) (by decide +kernel), List.mem_of_getElem? (i := 680) (by decide +kernel)⟩
theorem lw_p9 : lw_okq (⟨"FallRows$ChainSearch", "joinAll", "()V"⟩, 8) := ⟨⟨by decide +kernel, by decide +kernel⟩, List.mem_of_getElem? (i := 183) (by decide +kernel), List.mem_of_getElem? (i := 688) (by decide +kernel), List.mem_of_getElem? (i := 689) (by decide +kernel)⟩
theorem lw_p10 : lw_okq (⟨"FallRows$ChainSearch", "greatest", "()I"⟩, 8) := ⟨⟨by decide +kernel, by decide +kernel⟩, List.mem_of_getElem? (i := 183) (by decide +kernel), List.mem_of_getElem? (i := 692) (by decide +kernel), List.mem_of_getElem? (i := 693) (by decide +kernel)⟩
theorem lw_p11 : lw_okq (⟨"FallRows$ChainSearch", "pull", "(I)I"⟩, 8) := ⟨⟨by decide +kernel, by decide +kernel⟩, List.mem_of_getElem? (i := 183) (by decide +kernel), List.mem_of_getElem? (i := 696) (by decide +kernel), List.mem_of_getElem? (i := 697) (by decide +kernel)⟩
theorem lw_p12 : lw_okq (⟨"FallRows$ChainSearch", "join", "(II)V"⟩, 8) := ⟨⟨by decide +kernel, by decide +kernel⟩, List.mem_of_getElem? (i := 183) (by decide +kernel), List.mem_of_getElem? (i := 704) (by decide +kernel), List.mem_of_getElem? (i := 705) (by decide +kernel)⟩
theorem lw_p13 : lw_okq (⟨"FallRows$ChainSearch", "place", "(I[I)V"⟩, 8) := ⟨⟨by decide +kernel, by decide +kernel⟩, List.mem_of_getElem? (i := 183) (by decide +kernel), List.mem_of_getElem? (i := 708) (by decide +kernel), List.mem_of_getElem? (i := 709) (by decide +kernel)⟩
theorem lw_p14 : lw_okq (⟨"FallRows$ChainSearch", "strongest", "([I)I"⟩, 8) := ⟨⟨by decide +kernel, by decide +kernel⟩, List.mem_of_getElem? (i := 183) (by decide +kernel), List.mem_of_getElem? (i := 712) (by decide +kernel), List.mem_of_getElem? (i := 713) (by decide +kernel)⟩
theorem lw_p15 : lw_okq (⟨"FallRows$ChainSearch", "leadTo", "(I[I)I"⟩, 8) := ⟨⟨by decide +kernel, by decide +kernel⟩, List.mem_of_getElem? (i := 183) (by decide +kernel), List.mem_of_getElem? (i := 716) (by decide +kernel), List.mem_of_getElem? (i := 717) (by decide +kernel)⟩
def lw_privs_1 : List (MethodName × Nat) := [(⟨"FallRows", "waysOffered", "(I)I"⟩, 18), (⟨"FallRows", "isMovable", "(I)Z"⟩, 18), (⟨"FallRows", "aboutWay", "(II)I"⟩, 18), (⟨"FallRows$Costs", "priceOf", "(II)I"⟩, 3), (⟨"FallRows$BestSearch", "leastRest", "(III)I"⟩, 2), (⟨"FallRows$BestSearch", "through", "(III)I"⟩, 2), (⟨"FallRows$BestSearch", "firstBest", "(II)I"⟩, 2), (⟨"FallRows$LocalSearch", "improveOnce", "([I)Z"⟩, 2), (⟨"FallRows$LocalSearch", "attempt", "([IIII)V"⟩, 2), (⟨"FallRows$ChainSearch", "joinAll", "()V"⟩, 8), (⟨"FallRows$ChainSearch", "greatest", "()I"⟩, 8), (⟨"FallRows$ChainSearch", "pull", "(I)I"⟩, 8), (⟨"FallRows$ChainSearch", "join", "(II)V"⟩, 8), (⟨"FallRows$ChainSearch", "place", "(I[I)V"⟩, 8), (⟨"FallRows$ChainSearch", "strongest", "([I)I"⟩, 8), (⟨"FallRows$ChainSearch", "leadTo", "(I[I)I"⟩, 8)]
theorem lw_r1 : ∀ q ∈ lw_privs_1, lw_okq q := List.forall_mem_cons.mpr ⟨lw_p0, List.forall_mem_cons.mpr ⟨lw_p1, List.forall_mem_cons.mpr ⟨lw_p2, List.forall_mem_cons.mpr ⟨lw_p3, List.forall_mem_cons.mpr ⟨lw_p4, List.forall_mem_cons.mpr ⟨lw_p5, List.forall_mem_cons.mpr ⟨lw_p6, List.forall_mem_cons.mpr ⟨lw_p7, List.forall_mem_cons.mpr ⟨lw_p8, List.forall_mem_cons.mpr ⟨lw_p9, List.forall_mem_cons.mpr ⟨lw_p10, List.forall_mem_cons.mpr ⟨lw_p11, List.forall_mem_cons.mpr ⟨lw_p12, List.forall_mem_cons.mpr ⟨lw_p13, List.forall_mem_cons.mpr ⟨lw_p14, List.forall_mem_cons.mpr ⟨lw_p15, fun _ h => absurd h List.not_mem_nil⟩⟩⟩⟩⟩⟩⟩⟩⟩⟩⟩⟩⟩⟩⟩⟩
theorem lw_p16 : lw_okq (⟨"FallRows$Layout", "lineUp", "()V"⟩, 19) := ⟨⟨by decide +kernel, by decide +kernel⟩, List.mem_of_getElem? (i := 214) (by decide +kernel), List.mem_of_getElem? (i := 774) (by decide +kernel), List.mem_of_getElem? (i := 775) (by decide +kernel)⟩
theorem lw_p17 : lw_okq (⟨"FallRows$Layout", "lineUpThose", "(ZI)I"⟩, 19) := ⟨⟨by decide +kernel, by decide +kernel⟩, List.mem_of_getElem? (i := 214) (by decide +kernel), List.mem_of_getElem? (i := 778) (by decide +kernel), List.mem_of_getElem? (i := 779) (by decide +kernel)⟩
theorem lw_p18 : lw_okq (⟨"FallRows$Layout", "chooseJumps", "(I)V"⟩, 19) := ⟨⟨by decide +kernel, by decide +kernel⟩, List.mem_of_getElem? (i := 214) (by decide +kernel), List.mem_of_getElem? (i := 782) (by decide +kernel), List.mem_of_getElem? (i := 783) (by decide +kernel)⟩
theorem lw_p19 : lw_okq (⟨"FallRows$Layout", "layAll", "()V"⟩, 19) := ⟨⟨by decide +kernel, by decide +kernel⟩, List.mem_of_getElem? (i := 214) (by decide +kernel), List.mem_of_getElem? (i := 788) (by decide +kernel), List.mem_of_getElem? (i := 789) (by decide +kernel)⟩
theorem lw_p20 : lw_okq (⟨"FallRows$Layout", "layEnd", "(II)I"⟩, 19) := ⟨⟨by decide +kernel, by decide +kernel⟩, List.mem_of_getElem? (i := 214) (by decide +kernel), List.mem_of_getElem? (i := 792) (by decide +kernel), List.mem_of_getElem? (i := 793) (by decide +kernel)⟩
theorem lw_p21 : lw_okq (⟨"FallRows$Layout", "slotBytes", "(II)I"⟩, 19) := ⟨⟨by decide +kernel, by decide +kernel⟩, List.mem_of_getElem? (i := 214) (by decide +kernel), List.mem_of_getElem? (i := 799) (by decide +kernel), List.mem_of_getElem? (i := 800) (by decide +kernel)⟩
theorem lw_p22 : lw_okq (⟨"FallRows$Layout", "lengthen", "(I)Z"⟩, 19) := ⟨⟨by decide +kernel, by decide +kernel⟩, List.mem_of_getElem? (i := 214) (by decide +kernel), List.mem_of_getElem? (i := 803) (by decide +kernel), List.mem_of_getElem? (i := 804) (by decide +kernel)⟩
theorem lw_p23 : lw_okq (⟨"FallRows$Picture", "writeBlock", "(I)V"⟩, 6) := ⟨⟨by decide +kernel, by decide +kernel⟩, List.mem_of_getElem? (i := 297) (by decide +kernel), List.mem_of_getElem? (i := 832) (by decide +kernel), List.mem_of_getElem? (i := 833) (by decide +kernel)⟩
theorem lw_p24 : lw_okq (⟨"FallRows$Picture", "fillTo", "(II)V"⟩, 6) := ⟨⟨by decide +kernel, by decide +kernel⟩, List.mem_of_getElem? (i := 297) (by decide +kernel), List.mem_of_getElem? (i := 836) (by decide +kernel), List.mem_of_getElem? (i := 837) (by decide +kernel)⟩
theorem lw_p25 : lw_okq (⟨"FallRows$Picture", "put", "(I)V"⟩, 6) := ⟨⟨by decide +kernel, by decide +kernel⟩, List.mem_of_getElem? (i := 297) (by decide +kernel), List.mem_of_getElem? (i := 840) (by decide +kernel), List.mem_of_getElem? (i := 841) (by decide +kernel)⟩
theorem lw_p26 : lw_okq (⟨"FallRows$Picture", "writeTable", "(I)V"⟩, 6) := ⟨⟨by decide +kernel, by decide +kernel⟩, List.mem_of_getElem? (i := 297) (by decide +kernel), List.mem_of_getElem? (i := 845) (by decide +kernel), List.mem_of_getElem? (i := 846) (by decide +kernel)⟩
theorem lw_p27 : lw_okq (⟨"FallRows$Picture", "putWord", "(I)V"⟩, 6) := ⟨⟨by decide +kernel, by decide +kernel⟩, List.mem_of_getElem? (i := 297) (by decide +kernel), List.mem_of_getElem? (i := 851) (by decide +kernel), List.mem_of_getElem? (i := 852) (by decide +kernel)⟩
theorem lw_p28 : lw_okq (⟨"FallRows$Picture", "writeJump", "(I)V"⟩, 6) := ⟨⟨by decide +kernel, by decide +kernel⟩, List.mem_of_getElem? (i := 297) (by decide +kernel), List.mem_of_getElem? (i := 856) (by decide +kernel), List.mem_of_getElem? (i := 857) (by decide +kernel)⟩
theorem lw_p29 : lw_okq (⟨"FallRows$Picture", "writeTest", "(I)V"⟩, 6) := ⟨⟨by decide +kernel, by decide +kernel⟩, List.mem_of_getElem? (i := 297) (by decide +kernel), List.mem_of_getElem? (i := 861) (by decide +kernel), List.mem_of_getElem? (i := 862) (by decide +kernel)⟩
theorem lw_p30 : lw_okq (⟨"FallRows$Picture", "writeGuard", "(I)V"⟩, 6) := ⟨⟨by decide +kernel, by decide +kernel⟩, List.mem_of_getElem? (i := 297) (by decide +kernel), List.mem_of_getElem? (i := 865) (by decide +kernel), List.mem_of_getElem? (i := 866) (by decide +kernel)⟩
theorem lw_p31 : lw_okq (⟨"FallRows$Runner", "afterBlock", "(ILFallRows$Trace;)I"⟩, 6) := ⟨⟨by decide +kernel, by decide +kernel⟩, List.mem_of_getElem? (i := 338) (by decide +kernel), List.mem_of_getElem? (i := 916) (by decide +kernel), List.mem_of_getElem? (i := 917) (by decide +kernel)⟩
def lw_privs_2 : List (MethodName × Nat) := [(⟨"FallRows$Layout", "lineUp", "()V"⟩, 19), (⟨"FallRows$Layout", "lineUpThose", "(ZI)I"⟩, 19), (⟨"FallRows$Layout", "chooseJumps", "(I)V"⟩, 19), (⟨"FallRows$Layout", "layAll", "()V"⟩, 19), (⟨"FallRows$Layout", "layEnd", "(II)I"⟩, 19), (⟨"FallRows$Layout", "slotBytes", "(II)I"⟩, 19), (⟨"FallRows$Layout", "lengthen", "(I)Z"⟩, 19), (⟨"FallRows$Picture", "writeBlock", "(I)V"⟩, 6), (⟨"FallRows$Picture", "fillTo", "(II)V"⟩, 6), (⟨"FallRows$Picture", "put", "(I)V"⟩, 6), (⟨"FallRows$Picture", "writeTable", "(I)V"⟩, 6), (⟨"FallRows$Picture", "putWord", "(I)V"⟩, 6), (⟨"FallRows$Picture", "writeJump", "(I)V"⟩, 6), (⟨"FallRows$Picture", "writeTest", "(I)V"⟩, 6), (⟨"FallRows$Picture", "writeGuard", "(I)V"⟩, 6), (⟨"FallRows$Runner", "afterBlock", "(ILFallRows$Trace;)I"⟩, 6)]
theorem lw_r2 : ∀ q ∈ lw_privs_2, lw_okq q := List.forall_mem_cons.mpr ⟨lw_p16, List.forall_mem_cons.mpr ⟨lw_p17, List.forall_mem_cons.mpr ⟨lw_p18, List.forall_mem_cons.mpr ⟨lw_p19, List.forall_mem_cons.mpr ⟨lw_p20, List.forall_mem_cons.mpr ⟨lw_p21, List.forall_mem_cons.mpr ⟨lw_p22, List.forall_mem_cons.mpr ⟨lw_p23, List.forall_mem_cons.mpr ⟨lw_p24, List.forall_mem_cons.mpr ⟨lw_p25, List.forall_mem_cons.mpr ⟨lw_p26, List.forall_mem_cons.mpr ⟨lw_p27, List.forall_mem_cons.mpr ⟨lw_p28, List.forall_mem_cons.mpr ⟨lw_p29, List.forall_mem_cons.mpr ⟨lw_p30, List.forall_mem_cons.mpr ⟨lw_p31, fun _ h => absurd h List.not_mem_nil⟩⟩⟩⟩⟩⟩⟩⟩⟩⟩⟩⟩⟩⟩⟩⟩
theorem lw_p32 : lw_okq (⟨"FallRows$Runner", "take", "(IILFallRows$Trace;)I"⟩, 6) := ⟨⟨by decide +kernel, by decide +kernel⟩, List.mem_of_getElem? (i := 338) (by decide +kernel), List.mem_of_getElem? (i := 920) (by decide +kernel), List.mem_of_getElem? (i := 921) (by decide +kernel)⟩
theorem lw_p33 : lw_okq (⟨"FallRows$Runner", "choose", "(LFallRows$Trace;)I"⟩, 6) := ⟨⟨by decide +kernel, by decide +kernel⟩, List.mem_of_getElem? (i := 338) (by decide +kernel), List.mem_of_getElem? (i := 925) (by decide +kernel), List.mem_of_getElem? (i := 926) (by decide +kernel)⟩
theorem lw_p34 : lw_okq (⟨"FallRows$Runner", "goBack", "(LFallRows$Trace;)I"⟩, 6) := ⟨⟨by decide +kernel, by decide +kernel⟩, List.mem_of_getElem? (i := 338) (by decide +kernel), List.mem_of_getElem? (i := 946) (by decide +kernel), List.mem_of_getElem? (i := 947) (by decide +kernel)⟩
theorem lw_p35 : lw_okq (⟨"FallRows$Runner", "afterBytes", "(ILFallRows$Trace;)I"⟩, 6) := ⟨⟨by decide +kernel, by decide +kernel⟩, List.mem_of_getElem? (i := 338) (by decide +kernel), List.mem_of_getElem? (i := 955) (by decide +kernel), List.mem_of_getElem? (i := 956) (by decide +kernel)⟩
theorem lw_p36 : lw_okq (⟨"FallRows$Runner", "readOne", "(LFallRows$Trace;)Z"⟩, 6) := ⟨⟨by decide +kernel, by decide +kernel⟩, List.mem_of_getElem? (i := 338) (by decide +kernel), List.mem_of_getElem? (i := 970) (by decide +kernel), List.mem_of_getElem? (i := 971) (by decide +kernel)⟩
theorem lw_p37 : lw_okq (⟨"FallRows$Runner", "leave", "(I)Z"⟩, 6) := ⟨⟨by decide +kernel, by decide +kernel⟩, List.mem_of_getElem? (i := 338) (by decide +kernel), List.mem_of_getElem? (i := 979) (by decide +kernel), List.mem_of_getElem? (i := 980) (by decide +kernel)⟩
theorem lw_p38 : lw_okq (⟨"FallRows$Runner", "readTest", "(LFallRows$Trace;ZII)Z"⟩, 6) := ⟨⟨by decide +kernel, by decide +kernel⟩, List.mem_of_getElem? (i := 338) (by decide +kernel), List.mem_of_getElem? (i := 983) (by decide +kernel), List.mem_of_getElem? (i := 984) (by decide +kernel)⟩
theorem lw_p39 : lw_okq (⟨"FallRows$Runner", "readTable", "(LFallRows$Trace;)Z"⟩, 6) := ⟨⟨by decide +kernel, by decide +kernel⟩, List.mem_of_getElem? (i := 338) (by decide +kernel), List.mem_of_getElem? (i := 987) (by decide +kernel), List.mem_of_getElem? (i := 988) (by decide +kernel)⟩
theorem lw_p40 : lw_okq (⟨"FallRows$Runner", "readBack", "(LFallRows$Trace;)Z"⟩, 6) := ⟨⟨by decide +kernel, by decide +kernel⟩, List.mem_of_getElem? (i := 338) (by decide +kernel), List.mem_of_getElem? (i := 992) (by decide +kernel), List.mem_of_getElem? (i := 993) (by decide +kernel)⟩
theorem lw_p41 : lw_okq (⟨"FallRows$Trace", "heldPlace", "(II)I"⟩, 16) := ⟨⟨by decide +kernel, by decide +kernel⟩, List.mem_of_getElem? (i := 363) (by decide +kernel), List.mem_of_getElem? (i := 1000) (by decide +kernel), List.mem_of_getElem? (i := 1001) (by decide +kernel)⟩
theorem lw_p42 : lw_okq (⟨"FallRows$Trace", "holdFirst", "(II)V"⟩, 16) := ⟨⟨by decide +kernel, by decide +kernel⟩, List.mem_of_getElem? (i := 363) (by decide +kernel), List.mem_of_getElem? (i := 1005) (by decide +kernel), List.mem_of_getElem? (i := 1006) (by decide +kernel)⟩
theorem lw_p43 : lw_okq (⟨"FallRows", "traceOf", "(I)LFallRows$Trace;"⟩, 18) := ⟨⟨by decide +kernel, by decide +kernel⟩, List.mem_of_getElem? (i := 19) (by decide +kernel), List.mem_of_getElem? (i := 1013) (by decide +kernel), List.mem_of_getElem? (i := 1014) (by decide +kernel)⟩
theorem lw_p44 : lw_okq (⟨"FallRowsModel", "isRoutine", "(I)Z"⟩, 57) := ⟨⟨by decide +kernel, by decide +kernel⟩, List.mem_of_getElem? (i := 1046) (by decide +kernel), List.mem_of_getElem? (i := 1232) (by decide +kernel), List.mem_of_getElem? (i := 1233) (by decide +kernel)⟩
theorem lw_p45 : lw_okq (⟨"FallRowsModel", "isBlock", "(I)Z"⟩, 57) := ⟨⟨by decide +kernel, by decide +kernel⟩, List.mem_of_getElem? (i := 1046) (by decide +kernel), List.mem_of_getElem? (i := 1243) (by decide +kernel), List.mem_of_getElem? (i := 1244) (by decide +kernel)⟩
theorem lw_p46 : lw_okq (⟨"FallRowsModel", "waysTold", "(II)I"⟩, 57) := ⟨⟨by decide +kernel, by decide +kernel⟩, List.mem_of_getElem? (i := 1046) (by decide +kernel), List.mem_of_getElem? (i := 1247) (by decide +kernel), List.mem_of_getElem? (i := 1248) (by decide +kernel)⟩
theorem lw_p47 : lw_okq (⟨"FallRowsModel", "isWay", "(II)Z"⟩, 57) := ⟨⟨by decide +kernel, by decide +kernel⟩, List.mem_of_getElem? (i := 1046) (by decide +kernel), List.mem_of_getElem? (i := 1251) (by decide +kernel), List.mem_of_getElem? (i := 1252) (by decide +kernel)⟩
def lw_privs_3 : List (MethodName × Nat) := [(⟨"FallRows$Runner", "take", "(IILFallRows$Trace;)I"⟩, 6), (⟨"FallRows$Runner", "choose", "(LFallRows$Trace;)I"⟩, 6), (⟨"FallRows$Runner", "goBack", "(LFallRows$Trace;)I"⟩, 6), (⟨"FallRows$Runner", "afterBytes", "(ILFallRows$Trace;)I"⟩, 6), (⟨"FallRows$Runner", "readOne", "(LFallRows$Trace;)Z"⟩, 6), (⟨"FallRows$Runner", "leave", "(I)Z"⟩, 6), (⟨"FallRows$Runner", "readTest", "(LFallRows$Trace;ZII)Z"⟩, 6), (⟨"FallRows$Runner", "readTable", "(LFallRows$Trace;)Z"⟩, 6), (⟨"FallRows$Runner", "readBack", "(LFallRows$Trace;)Z"⟩, 6), (⟨"FallRows$Trace", "heldPlace", "(II)I"⟩, 16), (⟨"FallRows$Trace", "holdFirst", "(II)V"⟩, 16), (⟨"FallRows", "traceOf", "(I)LFallRows$Trace;"⟩, 18), (⟨"FallRowsModel", "isRoutine", "(I)Z"⟩, 57), (⟨"FallRowsModel", "isBlock", "(I)Z"⟩, 57), (⟨"FallRowsModel", "waysTold", "(II)I"⟩, 57), (⟨"FallRowsModel", "isWay", "(II)Z"⟩, 57)]
theorem lw_r3 : ∀ q ∈ lw_privs_3, lw_okq q := List.forall_mem_cons.mpr ⟨lw_p32, List.forall_mem_cons.mpr ⟨lw_p33, List.forall_mem_cons.mpr ⟨lw_p34, List.forall_mem_cons.mpr ⟨lw_p35, List.forall_mem_cons.mpr ⟨lw_p36, List.forall_mem_cons.mpr ⟨lw_p37, List.forall_mem_cons.mpr ⟨lw_p38, List.forall_mem_cons.mpr ⟨lw_p39, List.forall_mem_cons.mpr ⟨lw_p40, List.forall_mem_cons.mpr ⟨lw_p41, List.forall_mem_cons.mpr ⟨lw_p42, List.forall_mem_cons.mpr ⟨lw_p43, List.forall_mem_cons.mpr ⟨lw_p44, List.forall_mem_cons.mpr ⟨lw_p45, List.forall_mem_cons.mpr ⟨lw_p46, List.forall_mem_cons.mpr ⟨lw_p47, fun _ h => absurd h List.not_mem_nil⟩⟩⟩⟩⟩⟩⟩⟩⟩⟩⟩⟩⟩⟩⟩⟩
theorem lw_p48 : lw_okq (⟨"FallRowsModel", "isFirst", "(I)Z"⟩, 57) := ⟨⟨by decide +kernel, by decide +kernel⟩, List.mem_of_getElem? (i := 1046) (by decide +kernel), List.mem_of_getElem? (i := 1264) (by decide +kernel), List.mem_of_getElem? (i := 1265) (by decide +kernel)⟩
theorem lw_p49 : lw_okq (⟨"FallRowsModel", "placeOf", "(I)I"⟩, 57) := ⟨⟨by decide +kernel, by decide +kernel⟩, List.mem_of_getElem? (i := 1046) (by decide +kernel), List.mem_of_getElem? (i := 1272) (by decide +kernel), List.mem_of_getElem? (i := 1273) (by decide +kernel)⟩
theorem lw_p50 : lw_okq (⟨"FallRowsModel", "keeps", "(I)V"⟩, 57) := ⟨⟨by decide +kernel, by decide +kernel⟩, List.mem_of_getElem? (i := 1046) (by decide +kernel), List.mem_of_getElem? (i := 1284) (by decide +kernel), List.mem_of_getElem? (i := 1285) (by decide +kernel)⟩
theorem lw_p51 : lw_okq (⟨"FallRowsModel", "shifts", "(III)V"⟩, 57) := ⟨⟨by decide +kernel, by decide +kernel⟩, List.mem_of_getElem? (i := 1046) (by decide +kernel), List.mem_of_getElem? (i := 1288) (by decide +kernel), List.mem_of_getElem? (i := 1289) (by decide +kernel)⟩
theorem lw_p52 : lw_okq (⟨"FallRowsModel", "changes", "(III)V"⟩, 57) := ⟨⟨by decide +kernel, by decide +kernel⟩, List.mem_of_getElem? (i := 1046) (by decide +kernel), List.mem_of_getElem? (i := 1296) (by decide +kernel), List.mem_of_getElem? (i := 1297) (by decide +kernel)⟩
theorem lw_p53 : lw_okq (⟨"FallRowsModel", "best", "(I)V"⟩, 57) := ⟨⟨by decide +kernel, by decide +kernel⟩, List.mem_of_getElem? (i := 1046) (by decide +kernel), List.mem_of_getElem? (i := 1304) (by decide +kernel), List.mem_of_getElem? (i := 1305) (by decide +kernel)⟩
theorem lw_p54 : lw_okq (⟨"FallRowsModel", "makeTable", "(I)V"⟩, 57) := ⟨⟨by decide +kernel, by decide +kernel⟩, List.mem_of_getElem? (i := 1046) (by decide +kernel), List.mem_of_getElem? (i := 1308) (by decide +kernel), List.mem_of_getElem? (i := 1309) (by decide +kernel)⟩
theorem lw_p55 : lw_okq (⟨"FallRowsModel", "cost", "(II)I"⟩, 57) := ⟨⟨by decide +kernel, by decide +kernel⟩, List.mem_of_getElem? (i := 1046) (by decide +kernel), List.mem_of_getElem? (i := 1312) (by decide +kernel), List.mem_of_getElem? (i := 1313) (by decide +kernel)⟩
theorem lw_p56 : lw_okq (⟨"FallRowsModel", "gainsOne", "(I)Z"⟩, 57) := ⟨⟨by decide +kernel, by decide +kernel⟩, List.mem_of_getElem? (i := 1046) (by decide +kernel), List.mem_of_getElem? (i := 1316) (by decide +kernel), List.mem_of_getElem? (i := 1317) (by decide +kernel)⟩
theorem lw_p57 : lw_okq (⟨"FallRowsModel", "weightOf", "(I)I"⟩, 57) := ⟨⟨by decide +kernel, by decide +kernel⟩, List.mem_of_getElem? (i := 1046) (by decide +kernel), List.mem_of_getElem? (i := 1320) (by decide +kernel), List.mem_of_getElem? (i := 1321) (by decide +kernel)⟩
theorem lw_p58 : lw_okq (⟨"FallRowsModel", "tries", "(IIII)V"⟩, 57) := ⟨⟨by decide +kernel, by decide +kernel⟩, List.mem_of_getElem? (i := 1046) (by decide +kernel), List.mem_of_getElem? (i := 1324) (by decide +kernel), List.mem_of_getElem? (i := 1325) (by decide +kernel)⟩
theorem lw_p59 : lw_okq (⟨"FallRowsModel", "turnsRound", "(III)V"⟩, 57) := ⟨⟨by decide +kernel, by decide +kernel⟩, List.mem_of_getElem? (i := 1046) (by decide +kernel), List.mem_of_getElem? (i := 1328) (by decide +kernel), List.mem_of_getElem? (i := 1329) (by decide +kernel)⟩
theorem lw_p60 : lw_okq (⟨"FallRowsModel", "takesBack", "(IIII)V"⟩, 57) := ⟨⟨by decide +kernel, by decide +kernel⟩, List.mem_of_getElem? (i := 1046) (by decide +kernel), List.mem_of_getElem? (i := 1332) (by decide +kernel), List.mem_of_getElem? (i := 1333) (by decide +kernel)⟩
theorem lw_p61 : lw_okq (⟨"FallRowsModel", "byChains", "(I)V"⟩, 57) := ⟨⟨by decide +kernel, by decide +kernel⟩, List.mem_of_getElem? (i := 1046) (by decide +kernel), List.mem_of_getElem? (i := 1336) (by decide +kernel), List.mem_of_getElem? (i := 1337) (by decide +kernel)⟩
theorem lw_p62 : lw_okq (⟨"FallRowsModel", "joins", "(I)V"⟩, 57) := ⟨⟨by decide +kernel, by decide +kernel⟩, List.mem_of_getElem? (i := 1046) (by decide +kernel), List.mem_of_getElem? (i := 1340) (by decide +kernel), List.mem_of_getElem? (i := 1341) (by decide +kernel)⟩
theorem lw_p63 : lw_okq (⟨"FallRowsModel", "chainsBy", "(II)Z"⟩, 57) := ⟨⟨by decide +kernel, by decide +kernel⟩, List.mem_of_getElem? (i := 1046) (by decide +kernel), List.mem_of_getElem? (i := 1344) (by decide +kernel), List.mem_of_getElem? (i := 1345) (by decide +kernel)⟩
def lw_privs_4 : List (MethodName × Nat) := [(⟨"FallRowsModel", "isFirst", "(I)Z"⟩, 57), (⟨"FallRowsModel", "placeOf", "(I)I"⟩, 57), (⟨"FallRowsModel", "keeps", "(I)V"⟩, 57), (⟨"FallRowsModel", "shifts", "(III)V"⟩, 57), (⟨"FallRowsModel", "changes", "(III)V"⟩, 57), (⟨"FallRowsModel", "best", "(I)V"⟩, 57), (⟨"FallRowsModel", "makeTable", "(I)V"⟩, 57), (⟨"FallRowsModel", "cost", "(II)I"⟩, 57), (⟨"FallRowsModel", "gainsOne", "(I)Z"⟩, 57), (⟨"FallRowsModel", "weightOf", "(I)I"⟩, 57), (⟨"FallRowsModel", "tries", "(IIII)V"⟩, 57), (⟨"FallRowsModel", "turnsRound", "(III)V"⟩, 57), (⟨"FallRowsModel", "takesBack", "(IIII)V"⟩, 57), (⟨"FallRowsModel", "byChains", "(I)V"⟩, 57), (⟨"FallRowsModel", "joins", "(I)V"⟩, 57), (⟨"FallRowsModel", "chainsBy", "(II)Z"⟩, 57)]
theorem lw_r4 : ∀ q ∈ lw_privs_4, lw_okq q := List.forall_mem_cons.mpr ⟨lw_p48, List.forall_mem_cons.mpr ⟨lw_p49, List.forall_mem_cons.mpr ⟨lw_p50, List.forall_mem_cons.mpr ⟨lw_p51, List.forall_mem_cons.mpr ⟨lw_p52, List.forall_mem_cons.mpr ⟨lw_p53, List.forall_mem_cons.mpr ⟨lw_p54, List.forall_mem_cons.mpr ⟨lw_p55, List.forall_mem_cons.mpr ⟨lw_p56, List.forall_mem_cons.mpr ⟨lw_p57, List.forall_mem_cons.mpr ⟨lw_p58, List.forall_mem_cons.mpr ⟨lw_p59, List.forall_mem_cons.mpr ⟨lw_p60, List.forall_mem_cons.mpr ⟨lw_p61, List.forall_mem_cons.mpr ⟨lw_p62, List.forall_mem_cons.mpr ⟨lw_p63, fun _ h => absurd h List.not_mem_nil⟩⟩⟩⟩⟩⟩⟩⟩⟩⟩⟩⟩⟩⟩⟩⟩
theorem lw_p64 : lw_okq (⟨"FallRowsModel", "headOf", "(I)I"⟩, 57) := ⟨⟨by decide +kernel, by decide +kernel⟩, List.mem_of_getElem? (i := 1046) (by decide +kernel), List.mem_of_getElem? (i := 1348) (by decide +kernel), List.mem_of_getElem? (i := 1349) (by decide +kernel)⟩
theorem lw_p65 : lw_okq (⟨"FallRowsModel", "sumTo", "(II)I"⟩, 57) := ⟨⟨by decide +kernel, by decide +kernel⟩, List.mem_of_getElem? (i := 1046) (by decide +kernel), List.mem_of_getElem? (i := 1352) (by decide +kernel), List.mem_of_getElem? (i := 1353) (by decide +kernel)⟩
theorem lw_p66 : lw_okq (⟨"FallRowsModel", "boundOf", "(I)I"⟩, 57) := ⟨⟨by decide +kernel, by decide +kernel⟩, List.mem_of_getElem? (i := 1046) (by decide +kernel), List.mem_of_getElem? (i := 1364) (by decide +kernel), List.mem_of_getElem? (i := 1365) (by decide +kernel)⟩
theorem lw_p67 : lw_okq (⟨"FallRowsModel", "falls", "(I)I"⟩, 57) := ⟨⟨by decide +kernel, by decide +kernel⟩, List.mem_of_getElem? (i := 1046) (by decide +kernel), List.mem_of_getElem? (i := 1368) (by decide +kernel), List.mem_of_getElem? (i := 1369) (by decide +kernel)⟩
theorem lw_p68 : lw_okq (⟨"FallRowsModel", "makeRow", "()V"⟩, 57) := ⟨⟨by decide +kernel, by decide +kernel⟩, List.mem_of_getElem? (i := 1046) (by decide +kernel), List.mem_of_getElem? (i := 1376) (by decide +kernel), List.mem_of_getElem? (i := 1377) (by decide +kernel)⟩
theorem lw_p69 : lw_okq (⟨"FallRowsModel", "lays", "()V"⟩, 57) := ⟨⟨by decide +kernel, by decide +kernel⟩, List.mem_of_getElem? (i := 1046) (by decide +kernel), List.mem_of_getElem? (i := 1384) (by decide +kernel), List.mem_of_getElem? (i := 1385) (by decide +kernel)⟩
theorem lw_p70 : lw_okq (⟨"FallRowsModel", "makeJumps", "()V"⟩, 57) := ⟨⟨by decide +kernel, by decide +kernel⟩, List.mem_of_getElem? (i := 1046) (by decide +kernel), List.mem_of_getElem? (i := 1388) (by decide +kernel), List.mem_of_getElem? (i := 1389) (by decide +kernel)⟩
theorem lw_p71 : lw_okq (⟨"FallRowsModel", "isTurned", "(I)Z"⟩, 57) := ⟨⟨by decide +kernel, by decide +kernel⟩, List.mem_of_getElem? (i := 1046) (by decide +kernel), List.mem_of_getElem? (i := 1392) (by decide +kernel), List.mem_of_getElem? (i := 1393) (by decide +kernel)⟩
theorem lw_p72 : lw_okq (⟨"FallRowsModel", "laysOut", "()V"⟩, 57) := ⟨⟨by decide +kernel, by decide +kernel⟩, List.mem_of_getElem? (i := 1046) (by decide +kernel), List.mem_of_getElem? (i := 1396) (by decide +kernel), List.mem_of_getElem? (i := 1397) (by decide +kernel)⟩
theorem lw_p73 : lw_okq (⟨"FallRowsModel", "growsSome", "()Z"⟩, 57) := ⟨⟨by decide +kernel, by decide +kernel⟩, List.mem_of_getElem? (i := 1046) (by decide +kernel), List.mem_of_getElem? (i := 1400) (by decide +kernel), List.mem_of_getElem? (i := 1401) (by decide +kernel)⟩
theorem lw_p74 : lw_okq (⟨"FallRowsModel", "endByte", "(II)I"⟩, 57) := ⟨⟨by decide +kernel, by decide +kernel⟩, List.mem_of_getElem? (i := 1046) (by decide +kernel), List.mem_of_getElem? (i := 1411) (by decide +kernel), List.mem_of_getElem? (i := 1412) (by decide +kernel)⟩
theorem lw_p75 : lw_okq (⟨"FallRowsModel", "jumpByte", "(IIIII)I"⟩, 57) := ⟨⟨by decide +kernel, by decide +kernel⟩, List.mem_of_getElem? (i := 1046) (by decide +kernel), List.mem_of_getElem? (i := 1415) (by decide +kernel), List.mem_of_getElem? (i := 1416) (by decide +kernel)⟩
theorem lw_p76 : lw_okq (⟨"FallRowsModel", "goes", "(IZ)V"⟩, 57) := ⟨⟨by decide +kernel, by decide +kernel⟩, List.mem_of_getElem? (i := 1046) (by decide +kernel), List.mem_of_getElem? (i := 1435) (by decide +kernel), List.mem_of_getElem? (i := 1436) (by decide +kernel)⟩
theorem lw_p77 : lw_okq (⟨"FallRowsModel", "misses", "(II)Z"⟩, 57) := ⟨⟨by decide +kernel, by decide +kernel⟩, List.mem_of_getElem? (i := 1046) (by decide +kernel), List.mem_of_getElem? (i := 1439) (by decide +kernel), List.mem_of_getElem? (i := 1440) (by decide +kernel)⟩
theorem lw_p78 : lw_okq (⟨"FallRowsModel", "passes", "(IZ)I"⟩, 57) := ⟨⟨by decide +kernel, by decide +kernel⟩, List.mem_of_getElem? (i := 1046) (by decide +kernel), List.mem_of_getElem? (i := 1443) (by decide +kernel), List.mem_of_getElem? (i := 1444) (by decide +kernel)⟩
theorem lw_p79 : lw_okq (⟨"FallRowsModel", "wayFor", "(I)I"⟩, 57) := ⟨⟨by decide +kernel, by decide +kernel⟩, List.mem_of_getElem? (i := 1046) (by decide +kernel), List.mem_of_getElem? (i := 1447) (by decide +kernel), List.mem_of_getElem? (i := 1448) (by decide +kernel)⟩
def lw_privs_5 : List (MethodName × Nat) := [(⟨"FallRowsModel", "headOf", "(I)I"⟩, 57), (⟨"FallRowsModel", "sumTo", "(II)I"⟩, 57), (⟨"FallRowsModel", "boundOf", "(I)I"⟩, 57), (⟨"FallRowsModel", "falls", "(I)I"⟩, 57), (⟨"FallRowsModel", "makeRow", "()V"⟩, 57), (⟨"FallRowsModel", "lays", "()V"⟩, 57), (⟨"FallRowsModel", "makeJumps", "()V"⟩, 57), (⟨"FallRowsModel", "isTurned", "(I)Z"⟩, 57), (⟨"FallRowsModel", "laysOut", "()V"⟩, 57), (⟨"FallRowsModel", "growsSome", "()Z"⟩, 57), (⟨"FallRowsModel", "endByte", "(II)I"⟩, 57), (⟨"FallRowsModel", "jumpByte", "(IIIII)I"⟩, 57), (⟨"FallRowsModel", "goes", "(IZ)V"⟩, 57), (⟨"FallRowsModel", "misses", "(II)Z"⟩, 57), (⟨"FallRowsModel", "passes", "(IZ)I"⟩, 57), (⟨"FallRowsModel", "wayFor", "(I)I"⟩, 57)]
theorem lw_r5 : ∀ q ∈ lw_privs_5, lw_okq q := List.forall_mem_cons.mpr ⟨lw_p64, List.forall_mem_cons.mpr ⟨lw_p65, List.forall_mem_cons.mpr ⟨lw_p66, List.forall_mem_cons.mpr ⟨lw_p67, List.forall_mem_cons.mpr ⟨lw_p68, List.forall_mem_cons.mpr ⟨lw_p69, List.forall_mem_cons.mpr ⟨lw_p70, List.forall_mem_cons.mpr ⟨lw_p71, List.forall_mem_cons.mpr ⟨lw_p72, List.forall_mem_cons.mpr ⟨lw_p73, List.forall_mem_cons.mpr ⟨lw_p74, List.forall_mem_cons.mpr ⟨lw_p75, List.forall_mem_cons.mpr ⟨lw_p76, List.forall_mem_cons.mpr ⟨lw_p77, List.forall_mem_cons.mpr ⟨lw_p78, List.forall_mem_cons.mpr ⟨lw_p79, fun _ h => absurd h List.not_mem_nil⟩⟩⟩⟩⟩⟩⟩⟩⟩⟩⟩⟩⟩⟩⟩⟩
theorem lw_p80 : lw_okq (⟨"FallRowsModel", "choice", "()I"⟩, 57) := ⟨⟨by decide +kernel, by decide +kernel⟩, List.mem_of_getElem? (i := 1046) (by decide +kernel), List.mem_of_getElem? (i := 1451) (by decide +kernel), List.mem_of_getElem? (i := 1452) (by decide +kernel)⟩
theorem lw_p81 : lw_okq (⟨"FallRowsModel", "tests", "(II)V"⟩, 57) := ⟨⟨by decide +kernel, by decide +kernel⟩, List.mem_of_getElem? (i := 1046) (by decide +kernel), List.mem_of_getElem? (i := 1455) (by decide +kernel), List.mem_of_getElem? (i := 1456) (by decide +kernel)⟩
theorem lw_p82 : lw_okq (⟨"FallRowsModel", "jumps", "(II)V"⟩, 57) := ⟨⟨by decide +kernel, by decide +kernel⟩, List.mem_of_getElem? (i := 1046) (by decide +kernel), List.mem_of_getElem? (i := 1459) (by decide +kernel), List.mem_of_getElem? (i := 1460) (by decide +kernel)⟩
def lw_privs_6 : List (MethodName × Nat) := [(⟨"FallRowsModel", "choice", "()I"⟩, 57), (⟨"FallRowsModel", "tests", "(II)V"⟩, 57), (⟨"FallRowsModel", "jumps", "(II)V"⟩, 57)]
theorem lw_r6 : ∀ q ∈ lw_privs_6, lw_okq q := List.forall_mem_cons.mpr ⟨lw_p80, List.forall_mem_cons.mpr ⟨lw_p81, List.forall_mem_cons.mpr ⟨lw_p82, fun _ h => absurd h List.not_mem_nil⟩⟩⟩
def lw_privs : List (MethodName × Nat) := lw_privs_1 ++ (lw_privs_2 ++ (lw_privs_3 ++ (lw_privs_4 ++ (lw_privs_5 ++ (lw_privs_6)))))
def lw_tbl : List Cond := k2_sels lw_privs ++ tables_1
theorem lw_privs_ok : ∀ q ∈ lw_privs, lw_okq q := by
  show ∀ q ∈ lw_privs_1 ++ (lw_privs_2 ++ (lw_privs_3 ++ (lw_privs_4 ++ (lw_privs_5 ++ (lw_privs_6))))), lw_okq q
  exact List.forall_mem_append.mpr ⟨lw_r1, List.forall_mem_append.mpr ⟨lw_r2, List.forall_mem_append.mpr ⟨lw_r3, List.forall_mem_append.mpr ⟨lw_r4, List.forall_mem_append.mpr ⟨lw_r5, lw_r6⟩⟩⟩⟩⟩
end
section
def RX0 : String := "FallRows$BestSearch"
def RX1 : String := "FallRows$ChainSearch"
def RX2 : String := "FallRows$Costs"
def RX3 : String := "FallRows$Layout"
def RX4 : String := "FallRows$LocalSearch"
def RX5 : String := "FallRows$Orders"
def RX6 : String := "FallRows$Picture"
def RX7 : String := "FallRows$Program"
def RX8 : String := "FallRows$Runner"
def RX9 : String := "FallRows$Tape"
def RX10 : String := "FallRows$Trace"
def RX11 : String := "FallRows"
def RX12 : String := "FallRowsModel"
def RJ6 : String := "java/lang/Integer"
def RJ9 : String := "java/lang/Math"
def RJ7 : String := "java/util/Arrays"
def TX0 : u_T := fun k => match k with
  | 0 => ("FallRows$BestSearch", "costs", "LFallRows$Costs;", true)
  | _ => ("FallRows$BestSearch", "rest", "[I", true)
def tyX0 : Nat → FieldType := fun k => match k with
  | 0 => .object "FallRows$Costs"
  | _ => .array .int
abbrev wsX00 : List Cond := u_ws RX0 TX0 2
theorem nmX0 : ∀ a, a < 2 → ∀ b, b < 2 → a ≠ b → (TX0 a).2.1 ≠ (TX0 b).2.1 := by decide +kernel
theorem tyX0_ok : ∀ k, k < 2 → parseFieldDescriptor (TX0 k).2.2.1 = some (tyX0 k) := by decide +kernel
def TX1 : u_T := fun k => match k with
  | 0 => ("FallRows$ChainSearch", "program", "LFallRows$Program;", true)
  | 1 => ("FallRows$ChainSearch", "firstOf", "[I", true)
  | 2 => ("FallRows$ChainSearch", "follower", "[I", true)
  | 3 => ("FallRows$ChainSearch", "isUsed", "[Z", true)
  | 4 => ("FallRows$ChainSearch", "isPlaced", "[Z", true)
  | 5 => ("FallRows$ChainSearch", "routine", "I", false)
  | 6 => ("FallRows$ChainSearch", "n", "I", false)
  | _ => ("FallRows$ChainSearch", "placed", "I", false)
def tyX1 : Nat → FieldType := fun k => match k with
  | 0 => .object "FallRows$Program"
  | 1 => .array .int
  | 2 => .array .int
  | 3 => .array .boolean
  | 4 => .array .boolean
  | 5 => .int
  | 6 => .int
  | _ => .int
abbrev wsX10 : List Cond := u_ws RX1 TX1 8
theorem nmX1 : ∀ a, a < 8 → ∀ b, b < 8 → a ≠ b → (TX1 a).2.1 ≠ (TX1 b).2.1 := by decide +kernel
theorem tyX1_ok : ∀ k, k < 8 → parseFieldDescriptor (TX1 k).2.2.1 = some (tyX1 k) := by decide +kernel
def TX2 : u_T := fun k => match k with
  | 0 => ("FallRows$Costs", "program", "LFallRows$Program;", true)
  | 1 => ("FallRows$Costs", "price", "[I", true)
  | _ => ("FallRows$Costs", "n", "I", false)
def tyX2 : Nat → FieldType := fun k => match k with
  | 0 => .object "FallRows$Program"
  | 1 => .array .int
  | _ => .int
abbrev wsX20 : List Cond := u_ws RX2 TX2 3
theorem nmX2 : ∀ a, a < 3 → ∀ b, b < 3 → a ≠ b → (TX2 a).2.1 ≠ (TX2 b).2.1 := by decide +kernel
theorem tyX2_ok : ∀ k, k < 3 → parseFieldDescriptor (TX2 k).2.2.1 = some (tyX2 k) := by decide +kernel
def TX3 : u_T := fun k => match k with
  | 0 => ("FallRows$Layout", "program", "LFallRows$Program;", true)
  | 1 => ("FallRows$Layout", "orders", "LFallRows$Orders;", true)
  | 2 => ("FallRows$Layout", "line", "[I", true)
  | 3 => ("FallRows$Layout", "next", "[I", true)
  | 4 => ("FallRows$Layout", "address", "[I", true)
  | 5 => ("FallRows$Layout", "behind", "[I", true)
  | 6 => ("FallRows$Layout", "target", "[I", true)
  | 7 => ("FallRows$Layout", "slotBehind", "[I", true)
  | 8 => ("FallRows$Layout", "isLong", "[Z", true)
  | 9 => ("FallRows$Layout", "isTurned", "[Z", true)
  | 10 => ("FallRows$Layout", "latestTurn", "[I", true)
  | 11 => ("FallRows$Layout", "align", "I", false)
  | 12 => ("FallRows$Layout", "apart", "Z", false)
  | 13 => ("FallRows$Layout", "turns", "I", false)
  | 14 => ("FallRows$Layout", "gaps", "I", false)
  | 15 => ("FallRows$Layout", "tableFrom", "I", false)
  | 16 => ("FallRows$Layout", "total", "I", false)
  | 17 => ("FallRows$Layout", "version", "I", false)
  | _ => ("FallRows$Layout", "settled", "Z", false)
def tyX3 : Nat → FieldType := fun k => match k with
  | 0 => .object "FallRows$Program"
  | 1 => .object "FallRows$Orders"
  | 2 => .array .int
  | 3 => .array .int
  | 4 => .array .int
  | 5 => .array .int
  | 6 => .array .int
  | 7 => .array .int
  | 8 => .array .boolean
  | 9 => .array .boolean
  | 10 => .array .int
  | 11 => .int
  | 12 => .boolean
  | 13 => .int
  | 14 => .int
  | 15 => .int
  | 16 => .int
  | 17 => .int
  | _ => .boolean
abbrev wsX30 : List Cond := u_ws RX3 TX3 19
theorem nmX3 : ∀ a, a < 19 → ∀ b, b < 19 → a ≠ b → (TX3 a).2.1 ≠ (TX3 b).2.1 := by decide +kernel
theorem tyX3_ok : ∀ k, k < 19 → parseFieldDescriptor (TX3 k).2.2.1 = some (tyX3 k) := by decide +kernel
def TX4 : u_T := fun k => match k with
  | 0 => ("FallRows$LocalSearch", "costs", "LFallRows$Costs;", true)
  | _ => ("FallRows$LocalSearch", "trial", "[I", true)
def tyX4 : Nat → FieldType := fun k => match k with
  | 0 => .object "FallRows$Costs"
  | _ => .array .int
abbrev wsX40 : List Cond := u_ws RX4 TX4 2
theorem nmX4 : ∀ a, a < 2 → ∀ b, b < 2 → a ≠ b → (TX4 a).2.1 ≠ (TX4 b).2.1 := by decide +kernel
theorem tyX4_ok : ∀ k, k < 2 → parseFieldDescriptor (TX4 k).2.2.1 = some (tyX4 k) := by decide +kernel
def TX5 : u_T := fun k => match k with
  | 0 => ("FallRows$Orders", "program", "LFallRows$Program;", true)
  | 1 => ("FallRows$Orders", "blockAt", "[I", true)
  | 2 => ("FallRows$Orders", "placeOf", "[I", true)
  | 3 => ("FallRows$Orders", "keptBlocks", "[I", true)
  | 4 => ("FallRows$Orders", "keptRoutine", "[I", true)
  | _ => ("FallRows$Orders", "keptCount", "I", false)
def tyX5 : Nat → FieldType := fun k => match k with
  | 0 => .object "FallRows$Program"
  | 1 => .array .int
  | 2 => .array .int
  | 3 => .array .int
  | 4 => .array .int
  | _ => .int
abbrev wsX50 : List Cond := u_ws RX5 TX5 6
theorem nmX5 : ∀ a, a < 6 → ∀ b, b < 6 → a ≠ b → (TX5 a).2.1 ≠ (TX5 b).2.1 := by decide +kernel
theorem tyX5_ok : ∀ k, k < 6 → parseFieldDescriptor (TX5 k).2.2.1 = some (tyX5 k) := by decide +kernel
def TX6 : u_T := fun k => match k with
  | 0 => ("FallRows$Picture", "program", "LFallRows$Program;", true)
  | 1 => ("FallRows$Picture", "layout", "LFallRows$Layout;", true)
  | 2 => ("FallRows$Picture", "bytes", "[B", true)
  | 3 => ("FallRows$Picture", "guardAt", "[I", true)
  | 4 => ("FallRows$Picture", "version", "I", false)
  | _ => ("FallRows$Picture", "at", "I", false)
def tyX6 : Nat → FieldType := fun k => match k with
  | 0 => .object "FallRows$Program"
  | 1 => .object "FallRows$Layout"
  | 2 => .array .byte
  | 3 => .array .int
  | 4 => .int
  | _ => .int
abbrev wsX60 : List Cond := u_ws RX6 TX6 6
theorem nmX6 : ∀ a, a < 6 → ∀ b, b < 6 → a ≠ b → (TX6 a).2.1 ≠ (TX6 b).2.1 := by decide +kernel
theorem tyX6_ok : ∀ k, k < 6 → parseFieldDescriptor (TX6 k).2.2.1 = some (tyX6 k) := by decide +kernel
def TX7 : u_T := fun k => match k with
  | 0 => ("FallRows$Program", "routineCount", "I", false)
  | 1 => ("FallRows$Program", "blockCount", "I", false)
  | 2 => ("FallRows$Program", "ownCount", "[I", true)
  | 3 => ("FallRows$Program", "own", "[I", true)
  | 4 => ("FallRows$Program", "routineOf", "[I", true)
  | 5 => ("FallRows$Program", "rank", "[I", true)
  | 6 => ("FallRows$Program", "size", "[I", true)
  | 7 => ("FallRows$Program", "kind", "[I", true)
  | 8 => ("FallRows$Program", "wayCount", "[I", true)
  | 9 => ("FallRows$Program", "called", "[I", true)
  | 10 => ("FallRows$Program", "isCold", "[Z", true)
  | 11 => ("FallRows$Program", "ways", "[I", true)
  | _ => ("FallRows$Program", "counts", "[I", true)
def tyX7 : Nat → FieldType := fun k => match k with
  | 0 => .int
  | 1 => .int
  | 2 => .array .int
  | 3 => .array .int
  | 4 => .array .int
  | 5 => .array .int
  | 6 => .array .int
  | 7 => .array .int
  | 8 => .array .int
  | 9 => .array .int
  | 10 => .array .boolean
  | 11 => .array .int
  | _ => .array .int
abbrev wsX70 : List Cond := u_ws RX7 TX7 13
theorem nmX7 : ∀ a, a < 13 → ∀ b, b < 13 → a ≠ b → (TX7 a).2.1 ≠ (TX7 b).2.1 := by decide +kernel
theorem tyX7_ok : ∀ k, k < 13 → parseFieldDescriptor (TX7 k).2.2.1 = some (tyX7 k) := by decide +kernel
def TX8 : u_T := fun k => match k with
  | 0 => ("FallRows$Runner", "program", "LFallRows$Program;", true)
  | 1 => ("FallRows$Runner", "layout", "LFallRows$Layout;", true)
  | 2 => ("FallRows$Runner", "picture", "LFallRows$Picture;", true)
  | 3 => ("FallRows$Runner", "tape", "LFallRows$Tape;", true)
  | 4 => ("FallRows$Runner", "reading", "I", false)
  | _ => ("FallRows$Runner", "at", "I", false)
def tyX8 : Nat → FieldType := fun k => match k with
  | 0 => .object "FallRows$Program"
  | 1 => .object "FallRows$Layout"
  | 2 => .object "FallRows$Picture"
  | 3 => .object "FallRows$Tape"
  | 4 => .int
  | _ => .int
abbrev wsX80 : List Cond := u_ws RX8 TX8 6
theorem nmX8 : ∀ a, a < 6 → ∀ b, b < 6 → a ≠ b → (TX8 a).2.1 ≠ (TX8 b).2.1 := by decide +kernel
theorem tyX8_ok : ∀ k, k < 6 → parseFieldDescriptor (TX8 k).2.2.1 = some (tyX8 k) := by decide +kernel
def TX9 : u_T := fun k => match k with
  | 0 => ("FallRows$Tape", "bytes", "[B", true)
  | _ => ("FallRows$Tape", "length", "I", false)
def tyX9 : Nat → FieldType := fun k => match k with
  | 0 => .array .byte
  | _ => .int
abbrev wsX90 : List Cond := u_ws RX9 TX9 2
theorem nmX9 : ∀ a, a < 2 → ∀ b, b < 2 → a ≠ b → (TX9 a).2.1 ≠ (TX9 b).2.1 := by decide +kernel
theorem tyX9_ok : ∀ k, k < 2 → parseFieldDescriptor (TX9 k).2.2.1 = some (tyX9 k) := by decide +kernel
def TX10 : u_T := fun k => match k with
  | 0 => ("FallRows$Trace", "made", "Z", false)
  | 1 => ("FallRows$Trace", "ending", "I", false)
  | 2 => ("FallRows$Trace", "blocks", "I", false)
  | 3 => ("FallRows$Trace", "choices", "I", false)
  | 4 => ("FallRows$Trace", "open", "I", false)
  | 5 => ("FallRows$Trace", "mostOpen", "I", false)
  | 6 => ("FallRows$Trace", "jumps", "I", false)
  | 7 => ("FallRows$Trace", "testsJumped", "I", false)
  | 8 => ("FallRows$Trace", "testsStayed", "I", false)
  | 9 => ("FallRows$Trace", "missed", "I", false)
  | 10 => ("FallRows$Trace", "blockAt", "[I", true)
  | 11 => ("FallRows$Trace", "pageAt", "[I", true)
  | 12 => ("FallRows$Trace", "taken", "[I", true)
  | 13 => ("FallRows$Trace", "caller", "[I", true)
  | 14 => ("FallRows$Trace", "returnTo", "[I", true)
  | _ => ("FallRows$Trace", "pagesHeld", "[I", true)
def tyX10 : Nat → FieldType := fun k => match k with
  | 0 => .boolean
  | 1 => .int
  | 2 => .int
  | 3 => .int
  | 4 => .int
  | 5 => .int
  | 6 => .int
  | 7 => .int
  | 8 => .int
  | 9 => .int
  | 10 => .array .int
  | 11 => .array .int
  | 12 => .array .int
  | 13 => .array .int
  | 14 => .array .int
  | _ => .array .int
abbrev wsX100 : List Cond := u_ws RX10 TX10 16
theorem nmX10 : ∀ a, a < 16 → ∀ b, b < 16 → a ≠ b → (TX10 a).2.1 ≠ (TX10 b).2.1 := by decide +kernel
theorem tyX10_ok : ∀ k, k < 16 → parseFieldDescriptor (TX10 k).2.2.1 = some (tyX10 k) := by decide +kernel
def TX11 : u_T := fun k => match k with
  | 0 => ("FallRows", "program", "LFallRows$Program;", true)
  | 1 => ("FallRows", "orders", "LFallRows$Orders;", true)
  | 2 => ("FallRows", "costs", "LFallRows$Costs;", true)
  | 3 => ("FallRows", "bestSearch", "LFallRows$BestSearch;", true)
  | 4 => ("FallRows", "localSearch", "LFallRows$LocalSearch;", true)
  | 5 => ("FallRows", "chainSearch", "LFallRows$ChainSearch;", true)
  | 6 => ("FallRows", "layout", "LFallRows$Layout;", true)
  | 7 => ("FallRows", "picture", "LFallRows$Picture;", true)
  | 8 => ("FallRows", "tape", "LFallRows$Tape;", true)
  | 9 => ("FallRows", "runner", "LFallRows$Runner;", true)
  | 10 => ("FallRows", "plainTrace", "LFallRows$Trace;", true)
  | 11 => ("FallRows", "laidTrace", "LFallRows$Trace;", true)
  | 12 => ("FallRows", "sparePlain", "LFallRows$Trace;", true)
  | 13 => ("FallRows", "spareLaid", "LFallRows$Trace;", true)
  | 14 => ("FallRows", "offered", "[I", true)
  | 15 => ("FallRows", "ranks", "[I", true)
  | 16 => ("FallRows", "pagesKept", "I", false)
  | _ => ("FallRows", "learnable", "Z", false)
def tyX11 : Nat → FieldType := fun k => match k with
  | 0 => .object "FallRows$Program"
  | 1 => .object "FallRows$Orders"
  | 2 => .object "FallRows$Costs"
  | 3 => .object "FallRows$BestSearch"
  | 4 => .object "FallRows$LocalSearch"
  | 5 => .object "FallRows$ChainSearch"
  | 6 => .object "FallRows$Layout"
  | 7 => .object "FallRows$Picture"
  | 8 => .object "FallRows$Tape"
  | 9 => .object "FallRows$Runner"
  | 10 => .object "FallRows$Trace"
  | 11 => .object "FallRows$Trace"
  | 12 => .object "FallRows$Trace"
  | 13 => .object "FallRows$Trace"
  | 14 => .array .int
  | 15 => .array .int
  | 16 => .int
  | _ => .boolean
abbrev wsX110 : List Cond := u_ws RX11 TX11 18
theorem nmX11 : ∀ a, a < 18 → ∀ b, b < 18 → a ≠ b → (TX11 a).2.1 ≠ (TX11 b).2.1 := by decide +kernel
theorem tyX11_ok : ∀ k, k < 18 → parseFieldDescriptor (TX11 k).2.2.1 = some (tyX11 k) := by decide +kernel
def TX12 : u_T := fun k => match k with
  | 0 => ("FallRowsModel", "routines", "I", false)
  | 1 => ("FallRowsModel", "many", "[I", true)
  | 2 => ("FallRowsModel", "came", "[I", true)
  | 3 => ("FallRowsModel", "order", "[I", true)
  | 4 => ("FallRowsModel", "blocks", "I", false)
  | 5 => ("FallRowsModel", "routineOf", "[I", true)
  | 6 => ("FallRowsModel", "sizeOf", "[I", true)
  | 7 => ("FallRowsModel", "isCold", "[Z", true)
  | 8 => ("FallRowsModel", "endOf", "[I", true)
  | 9 => ("FallRowsModel", "waysOf", "[I", true)
  | 10 => ("FallRowsModel", "way", "[I", true)
  | 11 => ("FallRowsModel", "countOf", "[I", true)
  | 12 => ("FallRowsModel", "callOf", "[I", true)
  | 13 => ("FallRowsModel", "isApart", "Z", false)
  | 14 => ("FallRowsModel", "align", "I", false)
  | 15 => ("FallRowsModel", "keptPages", "I", false)
  | 16 => ("FallRowsModel", "tape", "[I", true)
  | 17 => ("FallRowsModel", "size", "I", false)
  | 18 => ("FallRowsModel", "undos", "I", false)
  | 19 => ("FallRowsModel", "undoRoutine", "[I", true)
  | 20 => ("FallRowsModel", "undoOrder", "[I", true)
  | 21 => ("FallRowsModel", "toldWay", "[I", true)
  | 22 => ("FallRowsModel", "least", "[I", true)
  | 23 => ("FallRowsModel", "behind", "[I", true)
  | 24 => ("FallRowsModel", "ahead", "[I", true)
  | 25 => ("FallRowsModel", "wayDone", "[Z", true)
  | 26 => ("FallRowsModel", "isPlaced", "[Z", true)
  | 27 => ("FallRowsModel", "rowOf", "[I", true)
  | 28 => ("FallRowsModel", "rows", "I", false)
  | 29 => ("FallRowsModel", "nextOf", "[I", true)
  | 30 => ("FallRowsModel", "addr", "[I", true)
  | 31 => ("FallRowsModel", "endAt", "[I", true)
  | 32 => ("FallRowsModel", "afterEnd", "[I", true)
  | 33 => ("FallRowsModel", "jumpTo", "[I", true)
  | 34 => ("FallRowsModel", "isLong", "[Z", true)
  | 35 => ("FallRowsModel", "longIn", "[I", true)
  | 36 => ("FallRowsModel", "jumpEnd", "[I", true)
  | 37 => ("FallRowsModel", "turns", "I", false)
  | 38 => ("FallRowsModel", "codeEnd", "I", false)
  | 39 => ("FallRowsModel", "total", "I", false)
  | 40 => ("FallRowsModel", "grows", "[Z", true)
  | 41 => ("FallRowsModel", "mayLearn", "Z", false)
  | 42 => ("FallRowsModel", "hasRun", "[Z", true)
  | 43 => ("FallRowsModel", "ranTold", "[I", true)
  | 44 => ("FallRowsModel", "passedBlock", "[I", true)
  | 45 => ("FallRowsModel", "taken", "[I", true)
  | 46 => ("FallRowsModel", "pageOf", "[I", true)
  | 47 => ("FallRowsModel", "now", "[I", true)
  | 48 => ("FallRowsModel", "path", "[I", true)
  | 49 => ("FallRowsModel", "calls", "[I", true)
  | 50 => ("FallRowsModel", "open", "I", false)
  | 51 => ("FallRowsModel", "lately", "[I", true)
  | 52 => ("FallRowsModel", "latelyMany", "I", false)
  | 53 => ("FallRowsModel", "nowTaken", "[I", true)
  | 54 => ("FallRowsModel", "nowPage", "[I", true)
  | 55 => ("FallRowsModel", "other", "[I", true)
  | _ => ("FallRowsModel", "otherTold", "[I", true)
def tyX12 : Nat → FieldType := fun k => match k with
  | 0 => .int
  | 1 => .array .int
  | 2 => .array .int
  | 3 => .array .int
  | 4 => .int
  | 5 => .array .int
  | 6 => .array .int
  | 7 => .array .boolean
  | 8 => .array .int
  | 9 => .array .int
  | 10 => .array .int
  | 11 => .array .int
  | 12 => .array .int
  | 13 => .boolean
  | 14 => .int
  | 15 => .int
  | 16 => .array .int
  | 17 => .int
  | 18 => .int
  | 19 => .array .int
  | 20 => .array .int
  | 21 => .array .int
  | 22 => .array .int
  | 23 => .array .int
  | 24 => .array .int
  | 25 => .array .boolean
  | 26 => .array .boolean
  | 27 => .array .int
  | 28 => .int
  | 29 => .array .int
  | 30 => .array .int
  | 31 => .array .int
  | 32 => .array .int
  | 33 => .array .int
  | 34 => .array .boolean
  | 35 => .array .int
  | 36 => .array .int
  | 37 => .int
  | 38 => .int
  | 39 => .int
  | 40 => .array .boolean
  | 41 => .boolean
  | 42 => .array .boolean
  | 43 => .array .int
  | 44 => .array .int
  | 45 => .array .int
  | 46 => .array .int
  | 47 => .array .int
  | 48 => .array .int
  | 49 => .array .int
  | 50 => .int
  | 51 => .array .int
  | 52 => .int
  | 53 => .array .int
  | 54 => .array .int
  | 55 => .array .int
  | _ => .array .int
abbrev wsX120 : List Cond := u_ws RX12 TX12 57
theorem nmX12 : ∀ a, a < 57 → ∀ b, b < 57 → a ≠ b → (TX12 a).2.1 ≠ (TX12 b).2.1 := by decide +kernel
theorem tyX12_ok : ∀ k, k < 57 → parseFieldDescriptor (TX12 k).2.2.1 = some (tyX12 k) := by decide +kernel
abbrev vwCl : List vw_C := [(RX0, TX0, 2), (RX1, TX1, 8), (RX2, TX2, 3), (RX3, TX3, 19), (RX4, TX4, 2), (RX5, TX5, 6), (RX6, TX6, 6), (RX7, TX7, 13), (RX8, TX8, 6), (RX9, TX9, 2), (RX10, TX10, 16), (RX11, TX11, 18), (RX12, TX12, 57)]
theorem inX0 : ∀ w ∈ wsX00, w ∈ lw_tbl := by
  have h : u_ws RX0 TX0 2 = ([247,249] : List Nat).filterMap (fun i => lw_tbl[i]?) := by decide +kernel
  intro w hw
  rw [show wsX00 = u_ws RX0 TX0 2 from rfl, h] at hw
  obtain ⟨i, -, hi⟩ := List.mem_filterMap.mp hw
  exact List.mem_of_getElem? hi
theorem inX1 : ∀ w ∈ wsX10, w ∈ lw_tbl := by
  have h : u_ws RX1 TX1 8 = ([279,281,283,285,287,289,291,293] : List Nat).filterMap (fun i => lw_tbl[i]?) := by decide +kernel
  intro w hw
  rw [show wsX10 = u_ws RX1 TX1 8 from rfl, h] at hw
  obtain ⟨i, -, hi⟩ := List.mem_filterMap.mp hw
  exact List.mem_of_getElem? hi
theorem inX2 : ∀ w ∈ wsX20, w ∈ lw_tbl := by
  have h : u_ws RX2 TX2 3 = ([232,234,236] : List Nat).filterMap (fun i => lw_tbl[i]?) := by decide +kernel
  intro w hw
  rw [show wsX20 = u_ws RX2 TX2 3 from rfl, h] at hw
  obtain ⟨i, -, hi⟩ := List.mem_filterMap.mp hw
  exact List.mem_of_getElem? hi
theorem inX3 : ∀ w ∈ wsX30, w ∈ lw_tbl := by
  have h : u_ws RX3 TX3 19 = ([340,342,344,346,348,350,352,354,356,358,360,362,364,366,368,370,372,374,376] : List Nat).filterMap (fun i => lw_tbl[i]?) := by decide +kernel
  intro w hw
  rw [show wsX30 = u_ws RX3 TX3 19 from rfl, h] at hw
  obtain ⟨i, -, hi⟩ := List.mem_filterMap.mp hw
  exact List.mem_of_getElem? hi
theorem inX4 : ∀ w ∈ wsX40, w ∈ lw_tbl := by
  have h : u_ws RX4 TX4 2 = ([260,262] : List Nat).filterMap (fun i => lw_tbl[i]?) := by decide +kernel
  intro w hw
  rw [show wsX40 = u_ws RX4 TX4 2 from rfl, h] at hw
  obtain ⟨i, -, hi⟩ := List.mem_filterMap.mp hw
  exact List.mem_of_getElem? hi
theorem inX5 : ∀ w ∈ wsX50, w ∈ lw_tbl := by
  have h : u_ws RX5 TX5 6 = ([207,209,211,213,215,217] : List Nat).filterMap (fun i => lw_tbl[i]?) := by decide +kernel
  intro w hw
  rw [show wsX50 = u_ws RX5 TX5 6 from rfl, h] at hw
  obtain ⟨i, -, hi⟩ := List.mem_filterMap.mp hw
  exact List.mem_of_getElem? hi
theorem inX6 : ∀ w ∈ wsX60, w ∈ lw_tbl := by
  have h : u_ws RX6 TX6 6 = ([392,394,396,398,400,402] : List Nat).filterMap (fun i => lw_tbl[i]?) := by decide +kernel
  intro w hw
  rw [show wsX60 = u_ws RX6 TX6 6 from rfl, h] at hw
  obtain ⟨i, -, hi⟩ := List.mem_filterMap.mp hw
  exact List.mem_of_getElem? hi
theorem inX7 : ∀ w ∈ wsX70, w ∈ lw_tbl := by
  have h : u_ws RX7 TX7 13 = ([163,165,167,169,171,173,175,177,179,181,183,185,187] : List Nat).filterMap (fun i => lw_tbl[i]?) := by decide +kernel
  intro w hw
  rw [show wsX70 = u_ws RX7 TX7 13 from rfl, h] at hw
  obtain ⟨i, -, hi⟩ := List.mem_filterMap.mp hw
  exact List.mem_of_getElem? hi
theorem inX8 : ∀ w ∈ wsX80, w ∈ lw_tbl := by
  have h : u_ws RX8 TX8 6 = ([432,434,436,438,440,442] : List Nat).filterMap (fun i => lw_tbl[i]?) := by decide +kernel
  intro w hw
  rw [show wsX80 = u_ws RX8 TX8 6 from rfl, h] at hw
  obtain ⟨i, -, hi⟩ := List.mem_filterMap.mp hw
  exact List.mem_of_getElem? hi
theorem inX9 : ∀ w ∈ wsX90, w ∈ lw_tbl := by
  have h : u_ws RX9 TX9 2 = ([415,417] : List Nat).filterMap (fun i => lw_tbl[i]?) := by decide +kernel
  intro w hw
  rw [show wsX90 = u_ws RX9 TX9 2 from rfl, h] at hw
  obtain ⟨i, -, hi⟩ := List.mem_filterMap.mp hw
  exact List.mem_of_getElem? hi
theorem inX10 : ∀ w ∈ wsX100, w ∈ lw_tbl := by
  have h : u_ws RX10 TX10 16 = ([486,488,490,492,494,496,498,500,502,504,506,508,510,512,514,516] : List Nat).filterMap (fun i => lw_tbl[i]?) := by decide +kernel
  intro w hw
  rw [show wsX100 = u_ws RX10 TX10 16 from rfl, h] at hw
  obtain ⟨i, -, hi⟩ := List.mem_filterMap.mp hw
  exact List.mem_of_getElem? hi
theorem inX11 : ∀ w ∈ wsX110, w ∈ lw_tbl := by
  have h : u_ws RX11 TX11 18 = ([537,539,541,543,545,547,549,551,553,555,557,559,561,563,565,567,569,571] : List Nat).filterMap (fun i => lw_tbl[i]?) := by decide +kernel
  intro w hw
  rw [show wsX110 = u_ws RX11 TX11 18 from rfl, h] at hw
  obtain ⟨i, -, hi⟩ := List.mem_filterMap.mp hw
  exact List.mem_of_getElem? hi
theorem inX12 : ∀ w ∈ wsX120, w ∈ lw_tbl := by
  have h : u_ws RX12 TX12 57 = ([1191,1193,1195,1197,1199,1201,1203,1205,1207,1209,1211,1213,1215,1217,1219,1221,1223,1225,1227,1229,1231,1233,1235,1237,1239,1241,1243,1245,1247,1249,1251,1253,1255,1257,1259,1261,1263,1265,1267,1269,1271,1273,1275,1277,1279,1281,1283,1285,1287,1289,1291,1293,1295,1297,1299,1301,1303] : List Nat).filterMap (fun i => lw_tbl[i]?) := by decide +kernel
  intro w hw
  rw [show wsX120 = u_ws RX12 TX12 57 from rfl, h] at hw
  obtain ⟨i, -, hi⟩ := List.mem_filterMap.mp hw
  exact List.mem_of_getElem? hi
end
section
/-! ===== a small machine of whole numbers over a heap of rows: values, one instruction, what its tables must say ===== -/
abbrev fr_V : Type := Int ⊕ (Nat ⊕ (Int64 ⊕ Unit))
abbrev fr_M : Type := Nat → Int → Int
abbrev fr_F : Type := List (Option (Option Nat))
abbrev fr_H : Type := List ((Nat × Nat) ⊕ (Nat × fr_F))
abbrev fr_L : Type := List (Option fr_V)
/-- pc, instruction, its length, and what it was resolved to -/
abbrev fr_E : Type := Nat × Instr × Nat × Nat × Nat × Int × List Nat
/-- class, name, bytes, locals, answer, code, room, kind (0 static, 1 virtual, 2 constructor, 3 law), parameters -/
abbrev fr_T : Type := Nat × MethodName × ByteArray × Nat × Option FieldType × List fr_E × Room × Nat × Nat
def fr_nth {α : Type} : List α → Nat → Option α
  | [], _ => none
  | a :: _, 0 => some a
  | _ :: l, n + 1 => fr_nth l n
def fr_stn {α : Type} : List α → Nat → α → List α
  | [], _, _ => []
  | _ :: l, 0, v => v :: l
  | a :: l, n + 1, v => a :: fr_stn l n v
abbrev fr_in (x : Int) : Prop := -2147483648 ≤ x ∧ x ≤ 2147483647
def fr_up (M : fr_M) (k : Nat) (i v : Int) : fr_M := fun k' i' => if k' = k then (if i' = i then v else M k' i') else M k' i'
def fr_zr (M : fr_M) (k : Nat) : fr_M := fun k' i => if k' = k then 0 else M k' i
def fr_cp (M : fr_M) (ks : Nat) (sp : Int) (kd : Nat) (dp n : Int) : fr_M := fun k i => if k = kd then (if dp ≤ i ∧ i < dp + n then M ks (sp + (i - dp)) else M k i) else M k i
def fr_and (x y : Int) : Int := (Int32.ofInt x &&& Int32.ofInt y).toInt
def fr_or (x y : Int) : Int := (Int32.ofInt x ||| Int32.ofInt y).toInt
def fr_xor (x y : Int) : Int := (Int32.ofInt x ^^^ Int32.ofInt y).toInt
def fr_shl (x y : Int) : Int := (Int32.ofInt x <<< (Int32.ofInt y &&& 31)).toInt
def fr_shr (x y : Int) : Int := (Int32.ofInt x >>> (Int32.ofInt y &&& 31)).toInt
def fr_ushr (x y : Int) : Int := ((Int32.ofInt x).toUInt32 >>> ((Int32.ofInt y).toUInt32 &&& Int32.toUInt32 31)).toInt32.toInt
def fr_i2b (x : Int) : Int := ((Int32.ofInt x).toInt8.toInt32).toInt
def fr_lshl (x : Int64) (y : Int) : Int64 := x <<< ((Int32.ofInt y).toInt64 &&& 63)
def fr_lshr (x : Int64) (y : Int) : Int64 := x >>> ((Int32.ofInt y).toInt64 &&& 63)
def fr_lushr (x : Int64) (y : Int) : Int64 := (x.toUInt64 >>> ((Int32.ofInt y).toInt64.toUInt64 &&& Int64.toUInt64 63)).toInt64
def fr_cat (v : fr_V) : Nat := match v with
  | .inr (.inr (.inl _)) => 2
  | _ => 1
def fr_wd : List fr_V → Nat
  | [] => 0
  | v :: l => fr_cat v + fr_wd l
/-- a local may be written: it is there, and no long stands right ahead of it -/
def fr_sk (ls : fr_L) (i : Nat) : Bool := Nat.blt i ls.length && (match i with
  | 0 => true
  | j + 1 => (match fr_nth ls j with
    | some (some (.inr (.inr (.inl _)))) => false
    | _ => true))
def fr_args : Nat → List fr_V → List fr_V → List fr_V
  | 0, _, acc => acc
  | _ + 1, [], acc => acc
  | n + 1, v :: st, acc => fr_args n st (v :: acc)
def fr_rest : Nat → List fr_V → List fr_V
  | 0, st => st
  | _ + 1, [] => []
  | n + 1, _ :: st => fr_rest n st
def fr_tsw (x : Int) (D : Nat) (J : Nat → Prop) : Int → List Nat → Prop
  | _, [] => J D
  | i, t :: ts => (x = i → J t) ∧ (x ≠ i → fr_tsw x D J (i + 1) ts)
def fr_lsw (x : Int) (D : Nat) (J : Nat → Prop) : List (Int × Int) → List Nat → Prop
  | (k, _) :: ps, t :: ts => (x = k → J t) ∧ (x ≠ k → fr_lsw x D J ps ts)
  | [], [] => J D
  | _, _ => False
def fr_ild (ls : fr_L) (i : Nat) (f : Int → Prop) : Prop := match fr_nth ls i with
  | some (some (.inl x)) => f x
  | _ => False
def fr_ald (ls : fr_L) (i : Nat) (f : fr_V → Prop) : Prop := match fr_nth ls i with
  | some (some (.inr (.inl k))) => f (.inr (.inl k))
  | some (some (.inr (.inr (.inr u)))) => f (.inr (.inr (.inr u)))
  | _ => False
def fr_u1 (st : List fr_V) (f : Int → List fr_V → Prop) : Prop := match st with
  | .inl x :: r => f x r
  | _ => False
def fr_b2 (st : List fr_V) (f : Int → Int → List fr_V → Prop) : Prop := match st with
  | .inl y :: .inl x :: r => f x y r
  | _ => False
def fr_call (d : List Nat) (ls : fr_L) (st : List fr_V) (bc bs a : Nat) (K : fr_L → List fr_V → fr_H → fr_M → Nat → Nat → Prop) (C : Nat → List fr_V → (Option fr_V → fr_H → fr_M → Prop) → Prop) : Prop := match d with
  | [n, mc, ms, rk, mx] => cond (Nat.ble n st.length && (Nat.ble (fr_wd (fr_rest n st)) 8 && (Nat.ble (fr_wd (fr_args n st [])) mx && (Nat.ble mc bc && Nat.ble ms bs)))) (C a (fr_args n st []) (fun r sh M => match r with
    | none => cond (Nat.beq rk 0) (K ls (fr_rest n st) sh M (bc - mc) (bs - ms)) False
    | some v => cond (Nat.beq rk 1) (K ls (v :: fr_rest n st) sh M (bc - mc) (bs - ms)) False)) False
  | _ => False
/-- the object that a virtual call is made on -/
def fr_rcv (sh : fr_H) (b : Nat) (v : Option fr_V) : Bool := match v with
  | some (.inr (.inl k)) => (match fr_nth sh k with
    | some (.inr (ci, _)) => Nat.beq ci b
    | _ => false)
  | _ => false
def fr_isr (v : Option fr_V) : Bool := match v with
  | some (.inr (.inl _)) => true
  | _ => false
def fr_obj (sh : fr_H) (k a : Nat) (f : fr_F → Prop) : Prop := match fr_nth sh k with
  | some (.inr (ci, fs)) => cond (Nat.beq ci a) (f fs) False
  | _ => False
def fr_arr (sh : fr_H) (k : Nat) (f : Nat → Nat → Prop) : Prop := match fr_nth sh k with
  | some (.inl (t, n)) => f t n
  | _ => False
def fr_kind (kd : List fr_F) (ci : Nat) : fr_F := match fr_nth kd ci with
  | some f => f
  | none => []
/-- one instruction: what must hold, and where it goes on (K next, J a jump, C a call, Rt the answer) -/
def fr_sem (kd : List fr_F) (scr : Option (Nat × (Int → Int))) (en : fr_E) (ls : fr_L) (st : List fr_V) (sh : fr_H) (M : fr_M) (bc bs : Nat) (K : fr_L → List fr_V → fr_H → fr_M → Nat → Nat → Prop) (J : Nat → List fr_V → Prop) (C : Nat → List fr_V → (Option fr_V → fr_H → fr_M → Prop) → Prop) (Rt : Option fr_V → Prop) : Prop := match en with
  | (_, ins, _, a, b, c, d) => match ins with
    | .iconst n => K ls (.inl n :: st) sh M bc bs
    | .bipush n => K ls (.inl n :: st) sh M bc bs
    | .sipush n => K ls (.inl n :: st) sh M bc bs
    | .ldc _ => K ls (.inl c :: st) sh M bc bs
    | .ldc_w _ => K ls (.inl c :: st) sh M bc bs
    | .ldc2_w _ => K ls (.inr (.inr (.inl (Int64.ofInt c))) :: st) sh M bc bs
    | .iload i => fr_ild ls i (fun x => K ls (.inl x :: st) sh M bc bs)
    | .iload_n i => fr_ild ls i.val (fun x => K ls (.inl x :: st) sh M bc bs)
    | .aload i => fr_ald ls i (fun x => K ls (x :: st) sh M bc bs)
    | .aload_n i => fr_ald ls i.val (fun x => K ls (x :: st) sh M bc bs)
    | .lload_n i => (match fr_nth ls i.val with
      | some (some (.inr (.inr (.inl x)))) => K ls (.inr (.inr (.inl x)) :: st) sh M bc bs
      | _ => False)
    | .istore i => fr_u1 st (fun x r => cond (fr_sk ls i) (K (fr_stn ls i (some (.inl x))) r sh M bc bs) False)
    | .istore_n i => fr_u1 st (fun x r => cond (fr_sk ls i.val) (K (fr_stn ls i.val (some (.inl x))) r sh M bc bs) False)
    | .astore_n i => (match st with
      | .inr (.inl k) :: r => cond (fr_sk ls i.val) (K (fr_stn ls i.val (some (.inr (.inl k)))) r sh M bc bs) False
      | _ => False)
    | .iinc i n => fr_ild ls i (fun x => fr_in (x + n) ∧ cond (fr_sk ls i) (K (fr_stn ls i (some (.inl (x + n)))) st sh M bc bs) False)
    | .dup => (match st with
      | v :: r => cond (Nat.beq (fr_cat v) 1) (K ls (v :: v :: r) sh M bc bs) False
      | _ => False)
    | .pop => (match st with
      | v :: r => cond (Nat.beq (fr_cat v) 1) (K ls r sh M bc bs) False
      | _ => False)
    | .dup2 => (match st with
      | v :: w :: r => cond (Nat.beq (fr_cat v) 1 && Nat.beq (fr_cat w) 1) (K ls (v :: w :: v :: w :: r) sh M bc bs) False
      | _ => False)
    | .iadd => fr_b2 st (fun x y r => fr_in (x + y) ∧ K ls (.inl (x + y) :: r) sh M bc bs)
    | .isub => fr_b2 st (fun x y r => fr_in (x - y) ∧ K ls (.inl (x - y) :: r) sh M bc bs)
    | .imul => fr_b2 st (fun x y r => fr_in (x * y) ∧ K ls (.inl (x * y) :: r) sh M bc bs)
    | .idiv => fr_b2 st (fun x y r => (0 ≤ x ∧ 0 < y) ∧ K ls (.inl (x / y) :: r) sh M bc bs)
    | .irem => fr_b2 st (fun x y r => (0 ≤ x ∧ 0 < y) ∧ K ls (.inl (x % y) :: r) sh M bc bs)
    | .ineg => fr_u1 st (fun x r => fr_in (-x) ∧ K ls (.inl (-x) :: r) sh M bc bs)
    | .iand => fr_b2 st (fun x y r => K ls (.inl (fr_and x y) :: r) sh M bc bs)
    | .ior => fr_b2 st (fun x y r => K ls (.inl (fr_or x y) :: r) sh M bc bs)
    | .ixor => fr_b2 st (fun x y r => K ls (.inl (fr_xor x y) :: r) sh M bc bs)
    | .ishl => fr_b2 st (fun x y r => K ls (.inl (fr_shl x y) :: r) sh M bc bs)
    | .ishr => fr_b2 st (fun x y r => K ls (.inl (fr_shr x y) :: r) sh M bc bs)
    | .iushr => fr_b2 st (fun x y r => K ls (.inl (fr_ushr x y) :: r) sh M bc bs)
    | .i2b => fr_u1 st (fun x r => K ls (.inl (fr_i2b x) :: r) sh M bc bs)
    | .i2l => fr_u1 st (fun x r => K ls (.inr (.inr (.inl (Int32.ofInt x).toInt64)) :: r) sh M bc bs)
    | .l2i => (match st with
      | .inr (.inr (.inl x)) :: r => K ls (.inl x.toInt32.toInt :: r) sh M bc bs
      | _ => False)
    | .lshl => (match st with
      | .inl y :: .inr (.inr (.inl x)) :: r => K ls (.inr (.inr (.inl (fr_lshl x y))) :: r) sh M bc bs
      | _ => False)
    | .lshr => (match st with
      | .inl y :: .inr (.inr (.inl x)) :: r => K ls (.inr (.inr (.inl (fr_lshr x y))) :: r) sh M bc bs
      | _ => False)
    | .lushr => (match st with
      | .inl y :: .inr (.inr (.inl x)) :: r => K ls (.inr (.inr (.inl (fr_lushr x y))) :: r) sh M bc bs
      | _ => False)
    | .land => (match st with
      | .inr (.inr (.inl y)) :: .inr (.inr (.inl x)) :: r => K ls (.inr (.inr (.inl (x &&& y))) :: r) sh M bc bs
      | _ => False)
    | .lor => (match st with
      | .inr (.inr (.inl y)) :: .inr (.inr (.inl x)) :: r => K ls (.inr (.inr (.inl (x ||| y))) :: r) sh M bc bs
      | _ => False)
    | .ifCond q _ => fr_u1 st (fun x r => match q with
      | .eq => (x = 0 → J a r) ∧ (¬ x = 0 → K ls r sh M bc bs)
      | .ne => (¬ x = 0 → J a r) ∧ (x = 0 → K ls r sh M bc bs)
      | .lt => (x < 0 → J a r) ∧ (¬ x < 0 → K ls r sh M bc bs)
      | .ge => (0 ≤ x → J a r) ∧ (¬ 0 ≤ x → K ls r sh M bc bs)
      | .gt => (0 < x → J a r) ∧ (¬ 0 < x → K ls r sh M bc bs)
      | .le => (x ≤ 0 → J a r) ∧ (¬ x ≤ 0 → K ls r sh M bc bs))
    | .if_icmp q _ => fr_b2 st (fun x y r => match q with
      | .eq => (x = y → J a r) ∧ (¬ x = y → K ls r sh M bc bs)
      | .ne => (¬ x = y → J a r) ∧ (x = y → K ls r sh M bc bs)
      | .lt => (x < y → J a r) ∧ (¬ x < y → K ls r sh M bc bs)
      | .ge => (y ≤ x → J a r) ∧ (¬ y ≤ x → K ls r sh M bc bs)
      | .gt => (y < x → J a r) ∧ (¬ y < x → K ls r sh M bc bs)
      | .le => (x ≤ y → J a r) ∧ (¬ x ≤ y → K ls r sh M bc bs))
    | .goto _ => J a st
    | .tableswitch _ lo _ _ => fr_u1 st (fun x r => fr_tsw x a (fun t => J t r) lo d)
    | .lookupswitch _ ps => fr_u1 st (fun x r => fr_lsw x a (fun t => J t r) ps.toList d)
    | .getfield _ => (match st with
      | .inr (.inl k) :: r => fr_obj sh k a (fun fs => match fr_nth fs b with
        | some none => K ls (.inl (M k c) :: r) sh M bc bs
        | some (some (some q)) => K ls (.inr (.inl q) :: r) sh M bc bs
        | _ => False)
      | _ => False)
    | .putfield _ => (match st with
      | .inl x :: .inr (.inl k) :: r => fr_obj sh k a (fun fs => match fr_nth fs b with
        | some none => (match d with
          | [] => K ls r sh (fr_up M k c x) bc bs
          | [1] => (0 ≤ x ∧ x ≤ 1) ∧ K ls r sh (fr_up M k c x) bc bs
          | _ => False)
        | _ => False)
      | .inr (.inl q) :: .inr (.inl k) :: r => fr_obj sh k a (fun fs => match fr_nth fs b with
        | some (some _) => (match d with
          | [2] => K ls r (fr_stn sh k (.inr (a, fr_stn fs b (some (some q))))) M bc bs
          | _ => False)
        | _ => False)
      | _ => False)
    | .iaload => (match st with
      | .inl i :: .inr (.inl k) :: r => fr_arr sh k (fun t n => cond (Nat.beq t 0) ((0 ≤ i ∧ i < (n : Int)) ∧ K ls (.inl (M k i) :: r) sh M bc bs) False)
      | .inl i :: .inr (.inr (.inr _)) :: r => (match scr with
        | some (n, f) => (0 ≤ i ∧ i < (n : Int)) ∧ K ls (.inl (f i) :: r) sh M bc bs
        | none => False)
      | _ => False)
    | .baload => (match st with
      | .inl i :: .inr (.inl k) :: r => fr_arr sh k (fun t n => cond (Nat.beq t 1 || Nat.beq t 2) ((0 ≤ i ∧ i < (n : Int)) ∧ K ls (.inl (M k i) :: r) sh M bc bs) False)
      | _ => False)
    | .iastore => (match st with
      | .inl x :: .inl i :: .inr (.inl k) :: r => fr_arr sh k (fun t n => cond (Nat.beq t 0) ((0 ≤ i ∧ i < (n : Int)) ∧ K ls r sh (fr_up M k i x) bc bs) False)
      | _ => False)
    | .bastore => (match st with
      | .inl x :: .inl i :: .inr (.inl k) :: r => fr_arr sh k (fun t n => cond (Nat.beq t 1) (((0 ≤ i ∧ i < (n : Int)) ∧ 0 ≤ x ∧ x ≤ 1) ∧ K ls r sh (fr_up M k i x) bc bs) (cond (Nat.beq t 2) (((0 ≤ i ∧ i < (n : Int)) ∧ -128 ≤ x ∧ x ≤ 127) ∧ K ls r sh (fr_up M k i x) bc bs) False))
      | _ => False)
    | .arraylength => (match st with
      | .inr (.inl k) :: r => fr_arr sh k (fun _ n => K ls (.inl (n : Int) :: r) sh M bc bs)
      | .inr (.inr (.inr _)) :: r => (match scr with
        | some (n, _) => fr_in (n : Int) ∧ K ls (.inl (n : Int) :: r) sh M bc bs
        | none => False)
      | _ => False)
    | .newarray _ => (match st with
      | .inl n :: r => cond (Nat.ble 1 bc && (Nat.ble n.toNat bs && (decide (0 ≤ n) && decide (n ≤ 100000)))) (K ls (.inr (.inl sh.length) :: r) (sh ++ [.inl (a, n.toNat)]) (fr_zr M sh.length) (bc - 1) (bs - n.toNat)) False
      | _ => False)
    | .new _ => cond (Nat.ble 1 bc && Nat.ble b bs) (K ls (.inr (.inl sh.length) :: st) (sh ++ [.inr (a, fr_kind kd a)]) (fr_zr M sh.length) (bc - 1) (bs - b)) False
    | .invokespecial _ => cond (Nat.beq a 999) (match st with
      | .inr (.inl _) :: r => cond (Nat.ble (fr_wd r) 8) (K ls r sh M bc bs) False
      | _ => False) (cond (fr_isr (fr_nth st (d.headD 0 - 1))) (fr_call d ls st bc bs a K C) False)
    | .invokevirtual _ => cond (fr_rcv sh b (fr_nth st (d.headD 0 - 1))) (fr_call d ls st bc bs a K C) False
    | .invokestatic _ => cond (Nat.beq a 998) (match st with
      | .inl n :: .inl dp :: .inr (.inl kd) :: .inl sp :: .inr (.inl ks) :: r => fr_arr sh ks (fun t0 n0 => fr_arr sh kd (fun t1 n1 => cond (Nat.beq t0 0 && (Nat.beq t1 0 && Nat.ble (fr_wd r) 8)) ((0 ≤ n ∧ 0 ≤ sp ∧ 0 ≤ dp ∧ sp + n ≤ (n0 : Int) ∧ dp + n ≤ (n1 : Int)) ∧ K ls r sh (fr_cp M ks sp kd dp n) bc bs) False))
      | _ => False) (cond (Nat.beq a 995) (fr_b2 st (fun x y r => cond (Nat.ble (fr_wd r) 8) (K ls (.inl (min x y) :: r) sh M bc bs) False)) (cond (Nat.beq a 996) (fr_b2 st (fun x y r => cond (Nat.ble (fr_wd r) 8) (K ls (.inl (max x y) :: r) sh M bc bs) False)) (cond (Nat.beq a 997) (fr_u1 st (fun x r => cond (Nat.ble (fr_wd r) 8) ((0 ≤ x → K ls (.inl x :: r) sh M bc bs) ∧ (¬ 0 ≤ x → fr_in (-x) ∧ K ls (.inl (-x) :: r) sh M bc bs)) False)) (fr_call d ls st bc bs a K C))))
    | .ireturn => (match st with
      | [.inl x] => cond (Nat.beq a 1) ((0 ≤ x ∧ x ≤ 1) ∧ Rt (some (.inl x))) (Rt (some (.inl x)))
      | _ => False)
    | .areturn => (match st with
      | [.inr (.inl k)] => Rt (some (.inr (.inl k)))
      | _ => False)
    | .return_ => (match st with
      | [] => Rt none
      | _ => False)
    | _ => False
def fr_own : List String := ["FallRows$BestSearch", "FallRows$ChainSearch", "FallRows$Costs", "FallRows$Layout", "FallRows$LocalSearch", "FallRows$Orders", "FallRows$Picture", "FallRows$Program", "FallRows$Runner", "FallRows$Tape", "FallRows$Trace", "FallRows", "FallRowsModel", "FallRowsLaw", "java/lang/Integer", "java/util/Arrays"]
def fr_kd : List fr_F := [
  [some none, some none],
  [some none, some none, some none, some none, some none, none, none, none],
  [some none, some none, none],
  [some none, some none, some none, some none, some none, some none, some none, some none, some none, some none, some none, none, none, none, none, none, none, none, none],
  [some none, some none],
  [some none, some none, some none, some none, some none, none],
  [some none, some none, some none, some none, none, none],
  [none, none, some none, some none, some none, some none, some none, some none, some none, some none, some none, some none, some none],
  [some none, some none, some none, some none, none, none],
  [some none, none],
  [none, none, none, none, none, none, none, none, none, none, some none, some none, some none, some none, some none, some none],
  [some none, some none, some none, some none, some none, some none, some none, some none, some none, some none, some none, some none, some none, some none, some none, some none, none, none],
  [none, some none, some none, some none, none, some none, some none, some none, some none, some none, some none, some none, some none, none, none, none, some none, none, none, some none, some none, some none, some none, some none, some none, some none, some none, some none, none, some none, some none, some none, some none, some none, some none, some none, some none, none, none, none, some none, none, some none, some none, some none, some none, some none, some none, some none, some none, none, some none, none, some none, some none, some none, some none]]
def fr_tys : List (Nat → FieldType) := [tyX0, tyX1, tyX2, tyX3, tyX4, tyX5, tyX6, tyX7, tyX8, tyX9, tyX10, tyX11, tyX12]
end
section
/-- 0 FallRows$BestSearch.<init>(LFallRows$Costs;)V -/
def k0 : List fr_E := [(0, .aload_n 0, 1, 0, 0, 0, []),
  (1, .invokespecial 3, 3, 999, 0, 0, []),
  (4, .aload_n 0, 1, 0, 0, 0, []),
  (5, .sipush 2304, 3, 0, 0, 0, []),
  (8, .newarray .int, 2, 0, 0, 0, []),
  (10, .putfield 9, 3, 0, 1, 1, [2]),
  (13, .aload_n 0, 1, 0, 0, 0, []),
  (14, .aload_n 1, 1, 0, 0, 0, []),
  (15, .putfield 15, 3, 0, 0, 0, [2]),
  (18, .return_, 1, 0, 0, 0, [])]
/-- 1 FallRows$BestSearch.bitOf(I)I -/
def k1 : List fr_E := [(0, .iload_n 0, 1, 0, 0, 0, []),
  (1, .ifCond .ne 7, 3, 4, 0, 0, []),
  (4, .iconst 0, 1, 0, 0, 0, []),
  (5, .goto 8, 3, 9, 0, 0, []),
  (8, .iconst 1, 1, 0, 0, 0, []),
  (9, .iload_n 0, 1, 0, 0, 0, []),
  (10, .iconst 1, 1, 0, 0, 0, []),
  (11, .isub, 1, 0, 0, 0, []),
  (12, .ishl, 1, 0, 0, 0, []),
  (13, .ireturn, 1, 0, 0, 0, [])]
/-- 2 FallRows$Costs.between(II)I -/
def k2 : List fr_E := [(0, .aload_n 0, 1, 0, 0, 0, []),
  (1, .getfield 11, 3, 2, 1, 1, []),
  (4, .iload_n 1, 1, 0, 0, 0, []),
  (5, .bipush 10, 2, 0, 0, 0, []),
  (7, .imul, 1, 0, 0, 0, []),
  (8, .iload_n 2, 1, 0, 0, 0, []),
  (9, .iadd, 1, 0, 0, 0, []),
  (10, .iaload, 1, 0, 0, 0, []),
  (11, .ireturn, 1, 0, 0, 0, [])]
/-- 3 FallRows$BestSearch.through(III)I -/
def k3 : List fr_E := [(0, .aload_n 0, 1, 0, 0, 0, []),
  (1, .getfield 15, 3, 0, 0, 0, []),
  (4, .iload_n 2, 1, 0, 0, 0, []),
  (5, .iload_n 3, 1, 0, 0, 0, []),
  (6, .invokevirtual 37, 3, 2, 2, 0, [3, 0, 0, 1, 3]),
  (9, .aload_n 0, 1, 0, 0, 0, []),
  (10, .getfield 9, 3, 0, 1, 1, []),
  (13, .iload_n 1, 1, 0, 0, 0, []),
  (14, .iload_n 3, 1, 0, 0, 0, []),
  (15, .invokestatic 33, 3, 1, 0, 0, [1, 0, 0, 1, 1]),
  (18, .ior, 1, 0, 0, 0, []),
  (19, .bipush 9, 2, 0, 0, 0, []),
  (21, .imul, 1, 0, 0, 0, []),
  (22, .iload_n 3, 1, 0, 0, 0, []),
  (23, .iadd, 1, 0, 0, 0, []),
  (24, .iaload, 1, 0, 0, 0, []),
  (25, .iadd, 1, 0, 0, 0, []),
  (26, .ireturn, 1, 0, 0, 0, [])]
/-- 4 FallRows$BestSearch.leastRest(III)I -/
def k4 : List fr_E := [(0, .iload_n 2, 1, 0, 0, 0, []),
  (1, .ifCond .ne 19, 3, 10, 0, 0, []),
  (4, .iload_n 1, 1, 0, 0, 0, []),
  (5, .ifCond .eq 7, 3, 6, 0, 0, []),
  (8, .iload_n 3, 1, 0, 0, 0, []),
  (9, .ifCond .ne 7, 3, 8, 0, 0, []),
  (12, .iconst 1, 1, 0, 0, 0, []),
  (13, .goto 21, 3, 18, 0, 0, []),
  (16, .iconst 0, 1, 0, 0, 0, []),
  (17, .goto 17, 3, 18, 0, 0, []),
  (20, .iload_n 1, 1, 0, 0, 0, []),
  (21, .iload_n 2, 1, 0, 0, 0, []),
  (22, .invokestatic 33, 3, 1, 0, 0, [1, 0, 0, 1, 1]),
  (25, .iand, 1, 0, 0, 0, []),
  (26, .ifCond .eq 7, 3, 17, 0, 0, []),
  (29, .iconst 1, 1, 0, 0, 0, []),
  (30, .goto 4, 3, 18, 0, 0, []),
  (33, .iconst 0, 1, 0, 0, 0, []),
  (34, .istore 4, 2, 0, 0, 0, []),
  (36, .iload 4, 2, 0, 0, 0, []),
  (38, .ifCond .ne 5, 3, 23, 0, 0, []),
  (41, .iconst 0, 1, 0, 0, 0, []),
  (42, .ireturn, 1, 0, 0, 0, []),
  (43, .iload_n 1, 1, 0, 0, 0, []),
  (44, .iload_n 3, 1, 0, 0, 0, []),
  (45, .if_icmp .ne 14, 3, 32, 0, 0, []),
  (48, .aload_n 0, 1, 0, 0, 0, []),
  (49, .getfield 15, 3, 0, 0, 0, []),
  (52, .iload_n 2, 1, 0, 0, 0, []),
  (53, .bipush 9, 2, 0, 0, 0, []),
  (55, .invokevirtual 37, 3, 2, 2, 0, [3, 0, 0, 1, 3]),
  (58, .ireturn, 1, 0, 0, 0, []),
  (59, .ldc 40, 2, 0, 0, 1000000000, []),
  (61, .istore 5, 2, 0, 0, 0, []),
  (63, .iconst 1, 1, 0, 0, 0, []),
  (64, .istore 6, 2, 0, 0, 0, []),
  (66, .iload 6, 2, 0, 0, 0, []),
  (68, .aload_n 0, 1, 0, 0, 0, []),
  (69, .getfield 15, 3, 0, 0, 0, []),
  (72, .getfield 19, 3, 2, 2, 2, []),
  (75, .if_icmp .ge 34, 3, 56, 0, 0, []),
  (78, .iload_n 1, 1, 0, 0, 0, []),
  (79, .iload 6, 2, 0, 0, 0, []),
  (81, .invokestatic 33, 3, 1, 0, 0, [1, 0, 0, 1, 1]),
  (84, .iand, 1, 0, 0, 0, []),
  (85, .ifCond .ne 18, 3, 54, 0, 0, []),
  (88, .iload 5, 2, 0, 0, 0, []),
  (90, .aload_n 0, 1, 0, 0, 0, []),
  (91, .iload_n 1, 1, 0, 0, 0, []),
  (92, .iload_n 2, 1, 0, 0, 0, []),
  (93, .iload 6, 2, 0, 0, 0, []),
  (95, .invokevirtual 41, 3, 3, 0, 0, [4, 0, 0, 1, 4]),
  (98, .invokestatic 44, 3, 995, 0, 0, []),
  (101, .istore 5, 2, 0, 0, 0, []),
  (103, .iinc 6 1, 3, 0, 0, 0, []),
  (106, .goto (-40), 3, 36, 0, 0, []),
  (109, .iload 5, 2, 0, 0, 0, []),
  (111, .ireturn, 1, 0, 0, 0, [])]
/-- 5 FallRows$BestSearch.firstBest(II)I -/
def k5 : List fr_E := [(0, .iconst 1, 1, 0, 0, 0, []),
  (1, .istore_n 3, 1, 0, 0, 0, []),
  (2, .iload_n 3, 1, 0, 0, 0, []),
  (3, .aload_n 0, 1, 0, 0, 0, []),
  (4, .getfield 15, 3, 0, 0, 0, []),
  (7, .getfield 19, 3, 2, 2, 2, []),
  (10, .if_icmp .ge 41, 3, 30, 0, 0, []),
  (13, .iload_n 1, 1, 0, 0, 0, []),
  (14, .iload_n 3, 1, 0, 0, 0, []),
  (15, .invokestatic 33, 3, 1, 0, 0, [1, 0, 0, 1, 1]),
  (18, .iand, 1, 0, 0, 0, []),
  (19, .ifCond .ne 26, 3, 28, 0, 0, []),
  (22, .aload_n 0, 1, 0, 0, 0, []),
  (23, .iload_n 1, 1, 0, 0, 0, []),
  (24, .iload_n 2, 1, 0, 0, 0, []),
  (25, .iload_n 3, 1, 0, 0, 0, []),
  (26, .invokevirtual 41, 3, 3, 0, 0, [4, 0, 0, 1, 4]),
  (29, .aload_n 0, 1, 0, 0, 0, []),
  (30, .getfield 9, 3, 0, 1, 1, []),
  (33, .iload_n 1, 1, 0, 0, 0, []),
  (34, .bipush 9, 2, 0, 0, 0, []),
  (36, .imul, 1, 0, 0, 0, []),
  (37, .iload_n 2, 1, 0, 0, 0, []),
  (38, .iadd, 1, 0, 0, 0, []),
  (39, .iaload, 1, 0, 0, 0, []),
  (40, .if_icmp .ne 5, 3, 28, 0, 0, []),
  (43, .iload_n 3, 1, 0, 0, 0, []),
  (44, .ireturn, 1, 0, 0, 0, []),
  (45, .iinc 3 1, 3, 0, 0, 0, []),
  (48, .goto (-46), 3, 2, 0, 0, []),
  (51, .iconst 0, 1, 0, 0, 0, []),
  (52, .ireturn, 1, 0, 0, 0, [])]
/-- 6 FallRows$BestSearch.find([I)I -/
def k6 : List fr_E := [(0, .aload_n 0, 1, 0, 0, 0, []),
  (1, .getfield 15, 3, 0, 0, 0, []),
  (4, .getfield 19, 3, 2, 2, 2, []),
  (7, .ifCond .ne 5, 3, 6, 0, 0, []),
  (10, .iconst 0, 1, 0, 0, 0, []),
  (11, .ireturn, 1, 0, 0, 0, []),
  (12, .iconst 1, 1, 0, 0, 0, []),
  (13, .aload_n 0, 1, 0, 0, 0, []),
  (14, .getfield 15, 3, 0, 0, 0, []),
  (17, .getfield 19, 3, 2, 2, 2, []),
  (20, .iconst 1, 1, 0, 0, 0, []),
  (21, .isub, 1, 0, 0, 0, []),
  (22, .ishl, 1, 0, 0, 0, []),
  (23, .iconst 1, 1, 0, 0, 0, []),
  (24, .isub, 1, 0, 0, 0, []),
  (25, .istore_n 2, 1, 0, 0, 0, []),
  (26, .iload_n 2, 1, 0, 0, 0, []),
  (27, .istore_n 3, 1, 0, 0, 0, []),
  (28, .iload_n 3, 1, 0, 0, 0, []),
  (29, .ifCond .lt 50, 3, 44, 0, 0, []),
  (32, .iconst 0, 1, 0, 0, 0, []),
  (33, .istore 4, 2, 0, 0, 0, []),
  (35, .iload 4, 2, 0, 0, 0, []),
  (37, .aload_n 0, 1, 0, 0, 0, []),
  (38, .getfield 15, 3, 0, 0, 0, []),
  (41, .getfield 19, 3, 2, 2, 2, []),
  (44, .if_icmp .ge 29, 3, 42, 0, 0, []),
  (47, .aload_n 0, 1, 0, 0, 0, []),
  (48, .getfield 9, 3, 0, 1, 1, []),
  (51, .iload_n 3, 1, 0, 0, 0, []),
  (52, .bipush 9, 2, 0, 0, 0, []),
  (54, .imul, 1, 0, 0, 0, []),
  (55, .iload 4, 2, 0, 0, 0, []),
  (57, .iadd, 1, 0, 0, 0, []),
  (58, .aload_n 0, 1, 0, 0, 0, []),
  (59, .iload_n 3, 1, 0, 0, 0, []),
  (60, .iload 4, 2, 0, 0, 0, []),
  (62, .iload_n 2, 1, 0, 0, 0, []),
  (63, .invokevirtual 25, 3, 4, 0, 0, [4, 0, 0, 1, 7]),
  (66, .iastore, 1, 0, 0, 0, []),
  (67, .iinc 4 1, 3, 0, 0, 0, []),
  (70, .goto (-35), 3, 22, 0, 0, []),
  (73, .iinc 3 (-1), 3, 0, 0, 0, []),
  (76, .goto (-48), 3, 18, 0, 0, []),
  (79, .aload_n 1, 1, 0, 0, 0, []),
  (80, .iconst 0, 1, 0, 0, 0, []),
  (81, .iconst 0, 1, 0, 0, 0, []),
  (82, .iastore, 1, 0, 0, 0, []),
  (83, .iconst 0, 1, 0, 0, 0, []),
  (84, .istore_n 3, 1, 0, 0, 0, []),
  (85, .iconst 1, 1, 0, 0, 0, []),
  (86, .istore 4, 2, 0, 0, 0, []),
  (88, .iload 4, 2, 0, 0, 0, []),
  (90, .aload_n 0, 1, 0, 0, 0, []),
  (91, .getfield 15, 3, 0, 0, 0, []),
  (94, .getfield 19, 3, 2, 2, 2, []),
  (97, .if_icmp .ge 34, 3, 77, 0, 0, []),
  (100, .aload_n 1, 1, 0, 0, 0, []),
  (101, .iload 4, 2, 0, 0, 0, []),
  (103, .aload_n 0, 1, 0, 0, 0, []),
  (104, .iload_n 3, 1, 0, 0, 0, []),
  (105, .aload_n 1, 1, 0, 0, 0, []),
  (106, .iload 4, 2, 0, 0, 0, []),
  (108, .iconst 1, 1, 0, 0, 0, []),
  (109, .isub, 1, 0, 0, 0, []),
  (110, .iaload, 1, 0, 0, 0, []),
  (111, .invokevirtual 29, 3, 5, 0, 0, [3, 0, 0, 1, 4]),
  (114, .iastore, 1, 0, 0, 0, []),
  (115, .iload_n 3, 1, 0, 0, 0, []),
  (116, .aload_n 1, 1, 0, 0, 0, []),
  (117, .iload 4, 2, 0, 0, 0, []),
  (119, .iaload, 1, 0, 0, 0, []),
  (120, .invokestatic 33, 3, 1, 0, 0, [1, 0, 0, 1, 1]),
  (123, .ior, 1, 0, 0, 0, []),
  (124, .istore_n 3, 1, 0, 0, 0, []),
  (125, .iinc 4 1, 3, 0, 0, 0, []),
  (128, .goto (-40), 3, 52, 0, 0, []),
  (131, .aload_n 0, 1, 0, 0, 0, []),
  (132, .getfield 9, 3, 0, 1, 1, []),
  (135, .iconst 0, 1, 0, 0, 0, []),
  (136, .iaload, 1, 0, 0, 0, []),
  (137, .ireturn, 1, 0, 0, 0, [])]
/-- 7 FallRows$ChainSearch.<init>(LFallRows$Program;)V -/
def k7 : List fr_E := [(0, .aload_n 0, 1, 0, 0, 0, []),
  (1, .invokespecial 3, 3, 999, 0, 0, []),
  (4, .aload_n 0, 1, 0, 0, 0, []),
  (5, .bipush 9, 2, 0, 0, 0, []),
  (7, .newarray .int, 2, 0, 0, 0, []),
  (9, .putfield 9, 3, 1, 1, 1, [2]),
  (12, .aload_n 0, 1, 0, 0, 0, []),
  (13, .bipush 9, 2, 0, 0, 0, []),
  (15, .newarray .int, 2, 0, 0, 0, []),
  (17, .putfield 15, 3, 1, 2, 2, [2]),
  (20, .aload_n 0, 1, 0, 0, 0, []),
  (21, .bipush 18, 2, 0, 0, 0, []),
  (23, .newarray .boolean, 2, 1, 0, 0, []),
  (25, .putfield 18, 3, 1, 3, 3, [2]),
  (28, .aload_n 0, 1, 0, 0, 0, []),
  (29, .bipush 9, 2, 0, 0, 0, []),
  (31, .newarray .boolean, 2, 1, 0, 0, []),
  (33, .putfield 22, 3, 1, 4, 4, [2]),
  (36, .aload_n 0, 1, 0, 0, 0, []),
  (37, .aload_n 1, 1, 0, 0, 0, []),
  (38, .putfield 25, 3, 1, 0, 0, [2]),
  (41, .return_, 1, 0, 0, 0, [])]
/-- 8 FallRows$Program.ownBlock(II)I -/
def k8 : List fr_E := [(0, .aload_n 0, 1, 0, 0, 0, []),
  (1, .getfield 15, 3, 7, 3, 3, []),
  (4, .iload_n 1, 1, 0, 0, 0, []),
  (5, .bipush 9, 2, 0, 0, 0, []),
  (7, .imul, 1, 0, 0, 0, []),
  (8, .iload_n 2, 1, 0, 0, 0, []),
  (9, .iadd, 1, 0, 0, 0, []),
  (10, .iaload, 1, 0, 0, 0, []),
  (11, .ireturn, 1, 0, 0, 0, [])]
/-- 9 FallRows$Program.goesOn(I)Z -/
def k9 : List fr_E := [(0, .aload_n 0, 1, 0, 0, 0, []),
  (1, .getfield 27, 3, 7, 7, 7, []),
  (4, .iload_n 1, 1, 0, 0, 0, []),
  (5, .iaload, 1, 0, 0, 0, []),
  (6, .iconst 2, 1, 0, 0, 0, []),
  (7, .if_icmp .eq 24, 3, 18, 0, 0, []),
  (10, .aload_n 0, 1, 0, 0, 0, []),
  (11, .getfield 27, 3, 7, 7, 7, []),
  (14, .iload_n 1, 1, 0, 0, 0, []),
  (15, .iaload, 1, 0, 0, 0, []),
  (16, .iconst 5, 1, 0, 0, 0, []),
  (17, .if_icmp .eq 14, 3, 18, 0, 0, []),
  (20, .aload_n 0, 1, 0, 0, 0, []),
  (21, .getfield 27, 3, 7, 7, 7, []),
  (24, .iload_n 1, 1, 0, 0, 0, []),
  (25, .iaload, 1, 0, 0, 0, []),
  (26, .bipush 6, 2, 0, 0, 0, []),
  (28, .if_icmp .ne 7, 3, 20, 0, 0, []),
  (31, .iconst 1, 1, 0, 0, 0, []),
  (32, .goto 4, 3, 21, 0, 0, []),
  (35, .iconst 0, 1, 0, 0, 0, []),
  (36, .ireturn, 1, 1, 0, 0, [])]
/-- 10 FallRows$Program.countOf(II)I -/
def k10 : List fr_E := [(0, .iload_n 2, 1, 0, 0, 0, []),
  (1, .aload_n 0, 1, 0, 0, 0, []),
  (2, .getfield 30, 3, 7, 8, 8, []),
  (5, .iload_n 1, 1, 0, 0, 0, []),
  (6, .iaload, 1, 0, 0, 0, []),
  (7, .if_icmp .ge 16, 3, 15, 0, 0, []),
  (10, .aload_n 0, 1, 0, 0, 0, []),
  (11, .getfield 43, 3, 7, 12, 12, []),
  (14, .iload_n 1, 1, 0, 0, 0, []),
  (15, .iconst 4, 1, 0, 0, 0, []),
  (16, .imul, 1, 0, 0, 0, []),
  (17, .iload_n 2, 1, 0, 0, 0, []),
  (18, .iadd, 1, 0, 0, 0, []),
  (19, .iaload, 1, 0, 0, 0, []),
  (20, .goto 4, 3, 16, 0, 0, []),
  (23, .iconst 0, 1, 0, 0, 0, []),
  (24, .ireturn, 1, 0, 0, 0, [])]
/-- 11 FallRows$ChainSearch.pull(I)I -/
def k11 : List fr_E := [(0, .aload_n 0, 1, 0, 0, 0, []),
  (1, .getfield 25, 3, 1, 0, 0, []),
  (4, .aload_n 0, 1, 0, 0, 0, []),
  (5, .getfield 29, 3, 1, 5, 5, []),
  (8, .iload_n 1, 1, 0, 0, 0, []),
  (9, .iconst 2, 1, 0, 0, 0, []),
  (10, .idiv, 1, 0, 0, 0, []),
  (11, .invokevirtual 59, 3, 8, 7, 0, [3, 0, 0, 1, 3]),
  (14, .istore_n 2, 1, 0, 0, 0, []),
  (15, .iload_n 1, 1, 0, 0, 0, []),
  (16, .iconst 2, 1, 0, 0, 0, []),
  (17, .irem, 1, 0, 0, 0, []),
  (18, .istore_n 3, 1, 0, 0, 0, []),
  (19, .aload_n 0, 1, 0, 0, 0, []),
  (20, .getfield 25, 3, 1, 0, 0, []),
  (23, .getfield 77, 3, 7, 7, 7, []),
  (26, .iload_n 2, 1, 0, 0, 0, []),
  (27, .iaload, 1, 0, 0, 0, []),
  (28, .iconst 3, 1, 0, 0, 0, []),
  (29, .if_icmp .eq 18, 3, 27, 0, 0, []),
  (32, .iload_n 3, 1, 0, 0, 0, []),
  (33, .ifCond .ne 18, 3, 29, 0, 0, []),
  (36, .aload_n 0, 1, 0, 0, 0, []),
  (37, .getfield 25, 3, 1, 0, 0, []),
  (40, .iload_n 2, 1, 0, 0, 0, []),
  (41, .invokevirtual 80, 3, 9, 7, 0, [2, 0, 0, 1, 2]),
  (44, .ifCond .eq 7, 3, 29, 0, 0, []),
  (47, .iconst 1, 1, 0, 0, 0, []),
  (48, .goto 4, 3, 30, 0, 0, []),
  (51, .iconst 0, 1, 0, 0, 0, []),
  (52, .istore 4, 2, 0, 0, 0, []),
  (54, .iload 4, 2, 0, 0, 0, []),
  (56, .ifCond .eq 15, 3, 39, 0, 0, []),
  (59, .aload_n 0, 1, 0, 0, 0, []),
  (60, .getfield 25, 3, 1, 0, 0, []),
  (63, .iload_n 2, 1, 0, 0, 0, []),
  (64, .iload_n 3, 1, 0, 0, 0, []),
  (65, .invokevirtual 84, 3, 10, 7, 0, [3, 0, 0, 1, 3]),
  (68, .goto 4, 3, 40, 0, 0, []),
  (71, .iconst 0, 1, 0, 0, 0, []),
  (72, .ireturn, 1, 0, 0, 0, [])]
/-- 12 FallRows$ChainSearch.greatest()I -/
def k12 : List fr_E := [(0, .iconst (-1), 1, 0, 0, 0, []),
  (1, .istore_n 1, 1, 0, 0, 0, []),
  (2, .iconst 0, 1, 0, 0, 0, []),
  (3, .istore_n 2, 1, 0, 0, 0, []),
  (4, .iconst 0, 1, 0, 0, 0, []),
  (5, .istore_n 3, 1, 0, 0, 0, []),
  (6, .iload_n 3, 1, 0, 0, 0, []),
  (7, .iconst 2, 1, 0, 0, 0, []),
  (8, .aload_n 0, 1, 0, 0, 0, []),
  (9, .getfield 38, 3, 1, 6, 6, []),
  (12, .imul, 1, 0, 0, 0, []),
  (13, .if_icmp .ge 40, 3, 32, 0, 0, []),
  (16, .aload_n 0, 1, 0, 0, 0, []),
  (17, .getfield 18, 3, 1, 3, 3, []),
  (20, .iload_n 3, 1, 0, 0, 0, []),
  (21, .baload, 1, 0, 0, 0, []),
  (22, .ifCond .eq 7, 3, 19, 0, 0, []),
  (25, .iconst 0, 1, 0, 0, 0, []),
  (26, .goto 8, 3, 22, 0, 0, []),
  (29, .aload_n 0, 1, 0, 0, 0, []),
  (30, .iload_n 3, 1, 0, 0, 0, []),
  (31, .invokevirtual 73, 3, 11, 1, 0, [2, 0, 0, 1, 5]),
  (34, .istore 4, 2, 0, 0, 0, []),
  (36, .iload 4, 2, 0, 0, 0, []),
  (38, .iload_n 2, 1, 0, 0, 0, []),
  (39, .if_icmp .le 8, 3, 30, 0, 0, []),
  (42, .iload 4, 2, 0, 0, 0, []),
  (44, .istore_n 2, 1, 0, 0, 0, []),
  (45, .iload_n 3, 1, 0, 0, 0, []),
  (46, .istore_n 1, 1, 0, 0, 0, []),
  (47, .iinc 3 1, 3, 0, 0, 0, []),
  (50, .goto (-44), 3, 6, 0, 0, []),
  (53, .iload_n 1, 1, 0, 0, 0, []),
  (54, .ireturn, 1, 0, 0, 0, [])]
/-- 13 FallRows$Program.wayOf(II)I -/
def k13 : List fr_E := [(0, .iload_n 2, 1, 0, 0, 0, []),
  (1, .aload_n 0, 1, 0, 0, 0, []),
  (2, .getfield 30, 3, 7, 8, 8, []),
  (5, .iload_n 1, 1, 0, 0, 0, []),
  (6, .iaload, 1, 0, 0, 0, []),
  (7, .if_icmp .ge 16, 3, 15, 0, 0, []),
  (10, .aload_n 0, 1, 0, 0, 0, []),
  (11, .getfield 40, 3, 7, 11, 11, []),
  (14, .iload_n 1, 1, 0, 0, 0, []),
  (15, .iconst 4, 1, 0, 0, 0, []),
  (16, .imul, 1, 0, 0, 0, []),
  (17, .iload_n 2, 1, 0, 0, 0, []),
  (18, .iadd, 1, 0, 0, 0, []),
  (19, .iaload, 1, 0, 0, 0, []),
  (20, .goto 4, 3, 16, 0, 0, []),
  (23, .iconst (-1), 1, 0, 0, 0, []),
  (24, .ireturn, 1, 0, 0, 0, [])]
/-- 14 FallRows$ChainSearch.join(II)V -/
def k14 : List fr_E := [(0, .iload_n 2, 1, 0, 0, 0, []),
  (1, .ifCond .eq 33, 3, 20, 0, 0, []),
  (4, .aload_n 0, 1, 0, 0, 0, []),
  (5, .getfield 15, 3, 1, 2, 2, []),
  (8, .iload_n 1, 1, 0, 0, 0, []),
  (9, .iaload, 1, 0, 0, 0, []),
  (10, .iconst (-1), 1, 0, 0, 0, []),
  (11, .if_icmp .ne 23, 3, 20, 0, 0, []),
  (14, .aload_n 0, 1, 0, 0, 0, []),
  (15, .getfield 9, 3, 1, 1, 1, []),
  (18, .iload_n 2, 1, 0, 0, 0, []),
  (19, .iaload, 1, 0, 0, 0, []),
  (20, .iload_n 2, 1, 0, 0, 0, []),
  (21, .if_icmp .ne 13, 3, 20, 0, 0, []),
  (24, .aload_n 0, 1, 0, 0, 0, []),
  (25, .getfield 9, 3, 1, 1, 1, []),
  (28, .iload_n 1, 1, 0, 0, 0, []),
  (29, .iaload, 1, 0, 0, 0, []),
  (30, .iload_n 2, 1, 0, 0, 0, []),
  (31, .if_icmp .ne 4, 3, 21, 0, 0, []),
  (34, .return_, 1, 0, 0, 0, []),
  (35, .aload_n 0, 1, 0, 0, 0, []),
  (36, .getfield 15, 3, 1, 2, 2, []),
  (39, .iload_n 1, 1, 0, 0, 0, []),
  (40, .iload_n 2, 1, 0, 0, 0, []),
  (41, .iastore, 1, 0, 0, 0, []),
  (42, .iconst 0, 1, 0, 0, 0, []),
  (43, .istore_n 3, 1, 0, 0, 0, []),
  (44, .iload_n 3, 1, 0, 0, 0, []),
  (45, .aload_n 0, 1, 0, 0, 0, []),
  (46, .getfield 38, 3, 1, 6, 6, []),
  (49, .if_icmp .ge 31, 3, 48, 0, 0, []),
  (52, .aload_n 0, 1, 0, 0, 0, []),
  (53, .getfield 9, 3, 1, 1, 1, []),
  (56, .iload_n 3, 1, 0, 0, 0, []),
  (57, .iaload, 1, 0, 0, 0, []),
  (58, .iload_n 2, 1, 0, 0, 0, []),
  (59, .if_icmp .ne 15, 3, 46, 0, 0, []),
  (62, .aload_n 0, 1, 0, 0, 0, []),
  (63, .getfield 9, 3, 1, 1, 1, []),
  (66, .iload_n 3, 1, 0, 0, 0, []),
  (67, .aload_n 0, 1, 0, 0, 0, []),
  (68, .getfield 9, 3, 1, 1, 1, []),
  (71, .iload_n 1, 1, 0, 0, 0, []),
  (72, .iaload, 1, 0, 0, 0, []),
  (73, .iastore, 1, 0, 0, 0, []),
  (74, .iinc 3 1, 3, 0, 0, 0, []),
  (77, .goto (-33), 3, 28, 0, 0, []),
  (80, .return_, 1, 0, 0, 0, [])]
/-- 15 FallRows$ChainSearch.joinAll()V -/
def k15 : List fr_E := [(0, .iconst 0, 1, 0, 0, 0, []),
  (1, .istore_n 1, 1, 0, 0, 0, []),
  (2, .iload_n 1, 1, 0, 0, 0, []),
  (3, .iconst 2, 1, 0, 0, 0, []),
  (4, .aload_n 0, 1, 0, 0, 0, []),
  (5, .getfield 38, 3, 1, 6, 6, []),
  (8, .imul, 1, 0, 0, 0, []),
  (9, .if_icmp .ge 68, 3, 47, 0, 0, []),
  (12, .aload_n 0, 1, 0, 0, 0, []),
  (13, .invokevirtual 55, 3, 12, 1, 0, [1, 0, 0, 1, 5]),
  (16, .istore_n 2, 1, 0, 0, 0, []),
  (17, .iload_n 2, 1, 0, 0, 0, []),
  (18, .iconst (-1), 1, 0, 0, 0, []),
  (19, .if_icmp .ne 4, 3, 15, 0, 0, []),
  (22, .return_, 1, 0, 0, 0, []),
  (23, .aload_n 0, 1, 0, 0, 0, []),
  (24, .getfield 18, 3, 1, 3, 3, []),
  (27, .iload_n 2, 1, 0, 0, 0, []),
  (28, .iconst 1, 1, 0, 0, 0, []),
  (29, .bastore, 1, 0, 0, 0, []),
  (30, .aload_n 0, 1, 0, 0, 0, []),
  (31, .getfield 25, 3, 1, 0, 0, []),
  (34, .aload_n 0, 1, 0, 0, 0, []),
  (35, .getfield 29, 3, 1, 5, 5, []),
  (38, .iload_n 2, 1, 0, 0, 0, []),
  (39, .iconst 2, 1, 0, 0, 0, []),
  (40, .idiv, 1, 0, 0, 0, []),
  (41, .invokevirtual 59, 3, 8, 7, 0, [3, 0, 0, 1, 3]),
  (44, .istore_n 3, 1, 0, 0, 0, []),
  (45, .aload_n 0, 1, 0, 0, 0, []),
  (46, .iload_n 2, 1, 0, 0, 0, []),
  (47, .iconst 2, 1, 0, 0, 0, []),
  (48, .idiv, 1, 0, 0, 0, []),
  (49, .aload_n 0, 1, 0, 0, 0, []),
  (50, .getfield 25, 3, 1, 0, 0, []),
  (53, .getfield 63, 3, 7, 5, 5, []),
  (56, .aload_n 0, 1, 0, 0, 0, []),
  (57, .getfield 25, 3, 1, 0, 0, []),
  (60, .iload_n 3, 1, 0, 0, 0, []),
  (61, .iload_n 2, 1, 0, 0, 0, []),
  (62, .iconst 2, 1, 0, 0, 0, []),
  (63, .irem, 1, 0, 0, 0, []),
  (64, .invokevirtual 66, 3, 13, 7, 0, [3, 0, 0, 1, 3]),
  (67, .iaload, 1, 0, 0, 0, []),
  (68, .invokevirtual 69, 3, 14, 1, 0, [3, 0, 0, 0, 4]),
  (71, .iinc 1 1, 3, 0, 0, 0, []),
  (74, .goto (-72), 3, 2, 0, 0, []),
  (77, .return_, 1, 0, 0, 0, [])]
/-- 16 FallRows$ChainSearch.place(I[I)V -/
def k16 : List fr_E := [(0, .iload_n 1, 1, 0, 0, 0, []),
  (1, .istore_n 3, 1, 0, 0, 0, []),
  (2, .iconst 0, 1, 0, 0, 0, []),
  (3, .istore 4, 2, 0, 0, 0, []),
  (5, .iload 4, 2, 0, 0, 0, []),
  (7, .aload_n 0, 1, 0, 0, 0, []),
  (8, .getfield 38, 3, 1, 6, 6, []),
  (11, .if_icmp .ge 56, 3, 39, 0, 0, []),
  (14, .iload_n 3, 1, 0, 0, 0, []),
  (15, .iconst (-1), 1, 0, 0, 0, []),
  (16, .if_icmp .eq 51, 3, 39, 0, 0, []),
  (19, .aload_n 0, 1, 0, 0, 0, []),
  (20, .getfield 41, 3, 1, 7, 7, []),
  (23, .aload_n 0, 1, 0, 0, 0, []),
  (24, .getfield 38, 3, 1, 6, 6, []),
  (27, .if_icmp .ge 40, 3, 39, 0, 0, []),
  (30, .aload_n 2, 1, 0, 0, 0, []),
  (31, .aload_n 0, 1, 0, 0, 0, []),
  (32, .getfield 41, 3, 1, 7, 7, []),
  (35, .iload_n 3, 1, 0, 0, 0, []),
  (36, .iastore, 1, 0, 0, 0, []),
  (37, .aload_n 0, 1, 0, 0, 0, []),
  (38, .getfield 22, 3, 1, 4, 4, []),
  (41, .iload_n 3, 1, 0, 0, 0, []),
  (42, .iconst 1, 1, 0, 0, 0, []),
  (43, .bastore, 1, 0, 0, 0, []),
  (44, .aload_n 0, 1, 0, 0, 0, []),
  (45, .dup, 1, 0, 0, 0, []),
  (46, .getfield 41, 3, 1, 7, 7, []),
  (49, .iconst 1, 1, 0, 0, 0, []),
  (50, .iadd, 1, 0, 0, 0, []),
  (51, .putfield 41, 3, 1, 7, 7, []),
  (54, .aload_n 0, 1, 0, 0, 0, []),
  (55, .getfield 15, 3, 1, 2, 2, []),
  (58, .iload_n 3, 1, 0, 0, 0, []),
  (59, .iaload, 1, 0, 0, 0, []),
  (60, .istore_n 3, 1, 0, 0, 0, []),
  (61, .iinc 4 1, 3, 0, 0, 0, []),
  (64, .goto (-59), 3, 4, 0, 0, []),
  (67, .return_, 1, 0, 0, 0, [])]
/-- 17 FallRows$ChainSearch.leadTo(I[I)I -/
def k17 : List fr_E := [(0, .iconst 0, 1, 0, 0, 0, []),
  (1, .istore_n 3, 1, 0, 0, 0, []),
  (2, .iconst 0, 1, 0, 0, 0, []),
  (3, .istore 4, 2, 0, 0, 0, []),
  (5, .iload 4, 2, 0, 0, 0, []),
  (7, .aload_n 0, 1, 0, 0, 0, []),
  (8, .getfield 41, 3, 1, 7, 7, []),
  (11, .if_icmp .ge 92, 3, 52, 0, 0, []),
  (14, .aload_n 0, 1, 0, 0, 0, []),
  (15, .getfield 25, 3, 1, 0, 0, []),
  (18, .aload_n 0, 1, 0, 0, 0, []),
  (19, .getfield 29, 3, 1, 5, 5, []),
  (22, .aload_n 2, 1, 0, 0, 0, []),
  (23, .iload 4, 2, 0, 0, 0, []),
  (25, .iaload, 1, 0, 0, 0, []),
  (26, .invokevirtual 59, 3, 8, 7, 0, [3, 0, 0, 1, 3]),
  (29, .istore 5, 2, 0, 0, 0, []),
  (31, .iconst 0, 1, 0, 0, 0, []),
  (32, .istore 6, 2, 0, 0, 0, []),
  (34, .iload 6, 2, 0, 0, 0, []),
  (36, .aload_n 0, 1, 0, 0, 0, []),
  (37, .getfield 25, 3, 1, 0, 0, []),
  (40, .getfield 91, 3, 7, 8, 8, []),
  (43, .iload 5, 2, 0, 0, 0, []),
  (45, .iaload, 1, 0, 0, 0, []),
  (46, .if_icmp .ge 51, 3, 50, 0, 0, []),
  (49, .aload_n 0, 1, 0, 0, 0, []),
  (50, .getfield 9, 3, 1, 1, 1, []),
  (53, .aload_n 0, 1, 0, 0, 0, []),
  (54, .getfield 25, 3, 1, 0, 0, []),
  (57, .getfield 63, 3, 7, 5, 5, []),
  (60, .aload_n 0, 1, 0, 0, 0, []),
  (61, .getfield 25, 3, 1, 0, 0, []),
  (64, .iload 5, 2, 0, 0, 0, []),
  (66, .iload 6, 2, 0, 0, 0, []),
  (68, .invokevirtual 66, 3, 13, 7, 0, [3, 0, 0, 1, 3]),
  (71, .iaload, 1, 0, 0, 0, []),
  (72, .iaload, 1, 0, 0, 0, []),
  (73, .iload_n 1, 1, 0, 0, 0, []),
  (74, .if_icmp .ne 17, 3, 48, 0, 0, []),
  (77, .iload_n 3, 1, 0, 0, 0, []),
  (78, .aload_n 0, 1, 0, 0, 0, []),
  (79, .getfield 25, 3, 1, 0, 0, []),
  (82, .iload 5, 2, 0, 0, 0, []),
  (84, .iload 6, 2, 0, 0, 0, []),
  (86, .invokevirtual 84, 3, 10, 7, 0, [3, 0, 0, 1, 3]),
  (89, .iadd, 1, 0, 0, 0, []),
  (90, .istore_n 3, 1, 0, 0, 0, []),
  (91, .iinc 6 1, 3, 0, 0, 0, []),
  (94, .goto (-60), 3, 19, 0, 0, []),
  (97, .iinc 4 1, 3, 0, 0, 0, []),
  (100, .goto (-95), 3, 4, 0, 0, []),
  (103, .iload_n 3, 1, 0, 0, 0, []),
  (104, .ireturn, 1, 0, 0, 0, [])]
/-- 18 FallRows$ChainSearch.strongest([I)I -/
def k18 : List fr_E := [(0, .iconst (-1), 1, 0, 0, 0, []),
  (1, .istore_n 2, 1, 0, 0, 0, []),
  (2, .iconst (-1), 1, 0, 0, 0, []),
  (3, .istore_n 3, 1, 0, 0, 0, []),
  (4, .iconst 0, 1, 0, 0, 0, []),
  (5, .istore 4, 2, 0, 0, 0, []),
  (7, .iload 4, 2, 0, 0, 0, []),
  (9, .aload_n 0, 1, 0, 0, 0, []),
  (10, .getfield 38, 3, 1, 6, 6, []),
  (13, .if_icmp .ge 52, 3, 35, 0, 0, []),
  (16, .aload_n 0, 1, 0, 0, 0, []),
  (17, .getfield 9, 3, 1, 1, 1, []),
  (20, .iload 4, 2, 0, 0, 0, []),
  (22, .iaload, 1, 0, 0, 0, []),
  (23, .iload 4, 2, 0, 0, 0, []),
  (25, .if_icmp .ne 34, 3, 33, 0, 0, []),
  (28, .aload_n 0, 1, 0, 0, 0, []),
  (29, .getfield 22, 3, 1, 4, 4, []),
  (32, .iload 4, 2, 0, 0, 0, []),
  (34, .baload, 1, 0, 0, 0, []),
  (35, .ifCond .ne 24, 3, 33, 0, 0, []),
  (38, .aload_n 0, 1, 0, 0, 0, []),
  (39, .iload 4, 2, 0, 0, 0, []),
  (41, .aload_n 1, 1, 0, 0, 0, []),
  (42, .invokevirtual 87, 3, 17, 1, 0, [3, 0, 0, 1, 7]),
  (45, .istore 5, 2, 0, 0, 0, []),
  (47, .iload 5, 2, 0, 0, 0, []),
  (49, .iload_n 3, 1, 0, 0, 0, []),
  (50, .if_icmp .le 9, 3, 33, 0, 0, []),
  (53, .iload 5, 2, 0, 0, 0, []),
  (55, .istore_n 3, 1, 0, 0, 0, []),
  (56, .iload 4, 2, 0, 0, 0, []),
  (58, .istore_n 2, 1, 0, 0, 0, []),
  (59, .iinc 4 1, 3, 0, 0, 0, []),
  (62, .goto (-55), 3, 6, 0, 0, []),
  (65, .iload_n 2, 1, 0, 0, 0, []),
  (66, .ireturn, 1, 0, 0, 0, [])]
/-- 19 FallRows$ChainSearch.find(I[I)V -/
def k19 : List fr_E := [(0, .aload_n 0, 1, 0, 0, 0, []),
  (1, .iload_n 1, 1, 0, 0, 0, []),
  (2, .putfield 29, 3, 1, 5, 5, []),
  (5, .aload_n 0, 1, 0, 0, 0, []),
  (6, .aload_n 0, 1, 0, 0, 0, []),
  (7, .getfield 25, 3, 1, 0, 0, []),
  (10, .getfield 33, 3, 7, 2, 2, []),
  (13, .iload_n 1, 1, 0, 0, 0, []),
  (14, .iaload, 1, 0, 0, 0, []),
  (15, .putfield 38, 3, 1, 6, 6, []),
  (18, .aload_n 0, 1, 0, 0, 0, []),
  (19, .iconst 0, 1, 0, 0, 0, []),
  (20, .putfield 41, 3, 1, 7, 7, []),
  (23, .iconst 0, 1, 0, 0, 0, []),
  (24, .istore_n 3, 1, 0, 0, 0, []),
  (25, .iload_n 3, 1, 0, 0, 0, []),
  (26, .aload_n 0, 1, 0, 0, 0, []),
  (27, .getfield 38, 3, 1, 6, 6, []),
  (30, .if_icmp .ge 50, 3, 52, 0, 0, []),
  (33, .aload_n 0, 1, 0, 0, 0, []),
  (34, .getfield 9, 3, 1, 1, 1, []),
  (37, .iload_n 3, 1, 0, 0, 0, []),
  (38, .iload_n 3, 1, 0, 0, 0, []),
  (39, .iastore, 1, 0, 0, 0, []),
  (40, .aload_n 0, 1, 0, 0, 0, []),
  (41, .getfield 15, 3, 1, 2, 2, []),
  (44, .iload_n 3, 1, 0, 0, 0, []),
  (45, .iconst (-1), 1, 0, 0, 0, []),
  (46, .iastore, 1, 0, 0, 0, []),
  (47, .aload_n 0, 1, 0, 0, 0, []),
  (48, .getfield 22, 3, 1, 4, 4, []),
  (51, .iload_n 3, 1, 0, 0, 0, []),
  (52, .iconst 0, 1, 0, 0, 0, []),
  (53, .bastore, 1, 0, 0, 0, []),
  (54, .aload_n 0, 1, 0, 0, 0, []),
  (55, .getfield 18, 3, 1, 3, 3, []),
  (58, .iconst 2, 1, 0, 0, 0, []),
  (59, .iload_n 3, 1, 0, 0, 0, []),
  (60, .imul, 1, 0, 0, 0, []),
  (61, .iconst 0, 1, 0, 0, 0, []),
  (62, .bastore, 1, 0, 0, 0, []),
  (63, .aload_n 0, 1, 0, 0, 0, []),
  (64, .getfield 18, 3, 1, 3, 3, []),
  (67, .iconst 2, 1, 0, 0, 0, []),
  (68, .iload_n 3, 1, 0, 0, 0, []),
  (69, .imul, 1, 0, 0, 0, []),
  (70, .iconst 1, 1, 0, 0, 0, []),
  (71, .iadd, 1, 0, 0, 0, []),
  (72, .iconst 0, 1, 0, 0, 0, []),
  (73, .bastore, 1, 0, 0, 0, []),
  (74, .iinc 3 1, 3, 0, 0, 0, []),
  (77, .goto (-52), 3, 15, 0, 0, []),
  (80, .aload_n 0, 1, 0, 0, 0, []),
  (81, .invokevirtual 44, 3, 15, 1, 0, [1, 0, 0, 0, 4]),
  (84, .aload_n 0, 1, 0, 0, 0, []),
  (85, .iconst 0, 1, 0, 0, 0, []),
  (86, .aload_n 2, 1, 0, 0, 0, []),
  (87, .invokevirtual 47, 3, 16, 1, 0, [3, 0, 0, 0, 5]),
  (90, .iconst 1, 1, 0, 0, 0, []),
  (91, .istore_n 3, 1, 0, 0, 0, []),
  (92, .iload_n 3, 1, 0, 0, 0, []),
  (93, .aload_n 0, 1, 0, 0, 0, []),
  (94, .getfield 38, 3, 1, 6, 6, []),
  (97, .if_icmp .ge 30, 3, 77, 0, 0, []),
  (100, .aload_n 0, 1, 0, 0, 0, []),
  (101, .getfield 41, 3, 1, 7, 7, []),
  (104, .aload_n 0, 1, 0, 0, 0, []),
  (105, .getfield 38, 3, 1, 6, 6, []),
  (108, .if_icmp .ge 19, 3, 77, 0, 0, []),
  (111, .aload_n 0, 1, 0, 0, 0, []),
  (112, .aload_n 0, 1, 0, 0, 0, []),
  (113, .aload_n 2, 1, 0, 0, 0, []),
  (114, .invokevirtual 51, 3, 18, 1, 0, [2, 0, 0, 1, 6]),
  (117, .aload_n 2, 1, 0, 0, 0, []),
  (118, .invokevirtual 47, 3, 16, 1, 0, [3, 0, 0, 0, 5]),
  (121, .iinc 3 1, 3, 0, 0, 0, []),
  (124, .goto (-32), 3, 60, 0, 0, []),
  (127, .return_, 1, 0, 0, 0, [])]
/-- 20 FallRows$Costs.<init>(LFallRows$Program;)V -/
def k20 : List fr_E := [(0, .aload_n 0, 1, 0, 0, 0, []),
  (1, .invokespecial 3, 3, 999, 0, 0, []),
  (4, .aload_n 0, 1, 0, 0, 0, []),
  (5, .bipush 90, 2, 0, 0, 0, []),
  (7, .newarray .int, 2, 0, 0, 0, []),
  (9, .putfield 11, 3, 2, 1, 1, [2]),
  (12, .aload_n 0, 1, 0, 0, 0, []),
  (13, .aload_n 1, 1, 0, 0, 0, []),
  (14, .putfield 15, 3, 2, 0, 0, [2]),
  (17, .aload_n 0, 1, 0, 0, 0, []),
  (18, .iconst 0, 1, 0, 0, 0, []),
  (19, .putfield 19, 3, 2, 2, 2, []),
  (22, .return_, 1, 0, 0, 0, [])]
/-- 21 FallRows$Costs.priceOf(II)I -/
def k21 : List fr_E := [(0, .aload_n 0, 1, 0, 0, 0, []),
  (1, .getfield 15, 3, 2, 0, 0, []),
  (4, .iload_n 1, 1, 0, 0, 0, []),
  (5, .iconst 0, 1, 0, 0, 0, []),
  (6, .invokevirtual 35, 3, 10, 7, 0, [3, 0, 0, 1, 3]),
  (9, .istore_n 3, 1, 0, 0, 0, []),
  (10, .aload_n 0, 1, 0, 0, 0, []),
  (11, .getfield 15, 3, 2, 0, 0, []),
  (14, .iload_n 1, 1, 0, 0, 0, []),
  (15, .iconst 1, 1, 0, 0, 0, []),
  (16, .invokevirtual 35, 3, 10, 7, 0, [3, 0, 0, 1, 3]),
  (19, .istore 4, 2, 0, 0, 0, []),
  (21, .aload_n 0, 1, 0, 0, 0, []),
  (22, .getfield 15, 3, 2, 0, 0, []),
  (25, .iload_n 1, 1, 0, 0, 0, []),
  (26, .invokevirtual 38, 3, 9, 7, 0, [2, 0, 0, 1, 2]),
  (29, .ifCond .eq 24, 3, 30, 0, 0, []),
  (32, .aload_n 0, 1, 0, 0, 0, []),
  (33, .getfield 15, 3, 2, 0, 0, []),
  (36, .iload_n 1, 1, 0, 0, 0, []),
  (37, .iconst 0, 1, 0, 0, 0, []),
  (38, .invokevirtual 42, 3, 13, 7, 0, [3, 0, 0, 1, 3]),
  (41, .iload_n 2, 1, 0, 0, 0, []),
  (42, .if_icmp .ne 7, 3, 26, 0, 0, []),
  (45, .iconst 0, 1, 0, 0, 0, []),
  (46, .goto 6, 3, 29, 0, 0, []),
  (49, .iconst 2, 1, 0, 0, 0, []),
  (50, .iload_n 3, 1, 0, 0, 0, []),
  (51, .imul, 1, 0, 0, 0, []),
  (52, .ireturn, 1, 0, 0, 0, []),
  (53, .aload_n 0, 1, 0, 0, 0, []),
  (54, .getfield 15, 3, 2, 0, 0, []),
  (57, .getfield 45, 3, 7, 7, 7, []),
  (60, .iload_n 1, 1, 0, 0, 0, []),
  (61, .iaload, 1, 0, 0, 0, []),
  (62, .iconst 3, 1, 0, 0, 0, []),
  (63, .if_icmp .eq 5, 3, 39, 0, 0, []),
  (66, .iconst 0, 1, 0, 0, 0, []),
  (67, .ireturn, 1, 0, 0, 0, []),
  (68, .aload_n 0, 1, 0, 0, 0, []),
  (69, .getfield 15, 3, 2, 0, 0, []),
  (72, .iload_n 1, 1, 0, 0, 0, []),
  (73, .iconst 1, 1, 0, 0, 0, []),
  (74, .invokevirtual 42, 3, 13, 7, 0, [3, 0, 0, 1, 3]),
  (77, .iload_n 2, 1, 0, 0, 0, []),
  (78, .if_icmp .ne 10, 3, 52, 0, 0, []),
  (81, .iconst 3, 1, 0, 0, 0, []),
  (82, .iload_n 3, 1, 0, 0, 0, []),
  (83, .imul, 1, 0, 0, 0, []),
  (84, .iload 4, 2, 0, 0, 0, []),
  (86, .iadd, 1, 0, 0, 0, []),
  (87, .ireturn, 1, 0, 0, 0, []),
  (88, .aload_n 0, 1, 0, 0, 0, []),
  (89, .getfield 15, 3, 2, 0, 0, []),
  (92, .iload_n 1, 1, 0, 0, 0, []),
  (93, .iconst 0, 1, 0, 0, 0, []),
  (94, .invokevirtual 42, 3, 13, 7, 0, [3, 0, 0, 1, 3]),
  (97, .iload_n 2, 1, 0, 0, 0, []),
  (98, .if_icmp .ne 10, 3, 65, 0, 0, []),
  (101, .iload_n 3, 1, 0, 0, 0, []),
  (102, .iconst 3, 1, 0, 0, 0, []),
  (103, .iload 4, 2, 0, 0, 0, []),
  (105, .imul, 1, 0, 0, 0, []),
  (106, .iadd, 1, 0, 0, 0, []),
  (107, .ireturn, 1, 0, 0, 0, []),
  (108, .iconst 3, 1, 0, 0, 0, []),
  (109, .iload_n 3, 1, 0, 0, 0, []),
  (110, .imul, 1, 0, 0, 0, []),
  (111, .iconst 3, 1, 0, 0, 0, []),
  (112, .iload 4, 2, 0, 0, 0, []),
  (114, .imul, 1, 0, 0, 0, []),
  (115, .iadd, 1, 0, 0, 0, []),
  (116, .ireturn, 1, 0, 0, 0, [])]
/-- 22 FallRows$Costs.load(I)V -/
def k22 : List fr_E := [(0, .aload_n 0, 1, 0, 0, 0, []),
  (1, .aload_n 0, 1, 0, 0, 0, []),
  (2, .getfield 15, 3, 2, 0, 0, []),
  (5, .getfield 23, 3, 7, 2, 2, []),
  (8, .iload_n 1, 1, 0, 0, 0, []),
  (9, .iaload, 1, 0, 0, 0, []),
  (10, .putfield 19, 3, 2, 2, 2, []),
  (13, .iconst 0, 1, 0, 0, 0, []),
  (14, .istore_n 2, 1, 0, 0, 0, []),
  (15, .iload_n 2, 1, 0, 0, 0, []),
  (16, .aload_n 0, 1, 0, 0, 0, []),
  (17, .getfield 19, 3, 2, 2, 2, []),
  (20, .if_icmp .ge 82, 3, 57, 0, 0, []),
  (23, .aload_n 0, 1, 0, 0, 0, []),
  (24, .getfield 15, 3, 2, 0, 0, []),
  (27, .iload_n 1, 1, 0, 0, 0, []),
  (28, .iload_n 2, 1, 0, 0, 0, []),
  (29, .invokevirtual 28, 3, 8, 7, 0, [3, 0, 0, 1, 3]),
  (32, .istore_n 3, 1, 0, 0, 0, []),
  (33, .iconst 0, 1, 0, 0, 0, []),
  (34, .istore 4, 2, 0, 0, 0, []),
  (36, .iload 4, 2, 0, 0, 0, []),
  (38, .aload_n 0, 1, 0, 0, 0, []),
  (39, .getfield 19, 3, 2, 2, 2, []),
  (42, .if_icmp .ge 36, 3, 43, 0, 0, []),
  (45, .aload_n 0, 1, 0, 0, 0, []),
  (46, .getfield 11, 3, 2, 1, 1, []),
  (49, .iload_n 2, 1, 0, 0, 0, []),
  (50, .bipush 10, 2, 0, 0, 0, []),
  (52, .imul, 1, 0, 0, 0, []),
  (53, .iload 4, 2, 0, 0, 0, []),
  (55, .iadd, 1, 0, 0, 0, []),
  (56, .aload_n 0, 1, 0, 0, 0, []),
  (57, .iload_n 3, 1, 0, 0, 0, []),
  (58, .aload_n 0, 1, 0, 0, 0, []),
  (59, .getfield 15, 3, 2, 0, 0, []),
  (62, .iload_n 1, 1, 0, 0, 0, []),
  (63, .iload 4, 2, 0, 0, 0, []),
  (65, .invokevirtual 28, 3, 8, 7, 0, [3, 0, 0, 1, 3]),
  (68, .invokevirtual 32, 3, 21, 2, 0, [3, 0, 0, 1, 5]),
  (71, .iastore, 1, 0, 0, 0, []),
  (72, .iinc 4 1, 3, 0, 0, 0, []),
  (75, .goto (-39), 3, 21, 0, 0, []),
  (78, .aload_n 0, 1, 0, 0, 0, []),
  (79, .getfield 11, 3, 2, 1, 1, []),
  (82, .iload_n 2, 1, 0, 0, 0, []),
  (83, .bipush 10, 2, 0, 0, 0, []),
  (85, .imul, 1, 0, 0, 0, []),
  (86, .bipush 9, 2, 0, 0, 0, []),
  (88, .iadd, 1, 0, 0, 0, []),
  (89, .aload_n 0, 1, 0, 0, 0, []),
  (90, .iload_n 3, 1, 0, 0, 0, []),
  (91, .iconst (-1), 1, 0, 0, 0, []),
  (92, .invokevirtual 32, 3, 21, 2, 0, [3, 0, 0, 1, 5]),
  (95, .iastore, 1, 0, 0, 0, []),
  (96, .iinc 2 1, 3, 0, 0, 0, []),
  (99, .goto (-84), 3, 9, 0, 0, []),
  (102, .return_, 1, 0, 0, 0, [])]
/-- 23 FallRows$Costs.weigh([I)I -/
def k23 : List fr_E := [(0, .iconst 0, 1, 0, 0, 0, []),
  (1, .istore_n 2, 1, 0, 0, 0, []),
  (2, .iconst 0, 1, 0, 0, 0, []),
  (3, .istore_n 3, 1, 0, 0, 0, []),
  (4, .iload_n 3, 1, 0, 0, 0, []),
  (5, .aload_n 0, 1, 0, 0, 0, []),
  (6, .getfield 19, 3, 2, 2, 2, []),
  (9, .if_icmp .ge 39, 3, 31, 0, 0, []),
  (12, .iload_n 2, 1, 0, 0, 0, []),
  (13, .aload_n 0, 1, 0, 0, 0, []),
  (14, .aload_n 1, 1, 0, 0, 0, []),
  (15, .iload_n 3, 1, 0, 0, 0, []),
  (16, .iaload, 1, 0, 0, 0, []),
  (17, .iload_n 3, 1, 0, 0, 0, []),
  (18, .iconst 1, 1, 0, 0, 0, []),
  (19, .iadd, 1, 0, 0, 0, []),
  (20, .aload_n 0, 1, 0, 0, 0, []),
  (21, .getfield 19, 3, 2, 2, 2, []),
  (24, .if_icmp .ge 11, 3, 25, 0, 0, []),
  (27, .aload_n 1, 1, 0, 0, 0, []),
  (28, .iload_n 3, 1, 0, 0, 0, []),
  (29, .iconst 1, 1, 0, 0, 0, []),
  (30, .iadd, 1, 0, 0, 0, []),
  (31, .iaload, 1, 0, 0, 0, []),
  (32, .goto 5, 3, 26, 0, 0, []),
  (35, .bipush 9, 2, 0, 0, 0, []),
  (37, .invokevirtual 48, 3, 2, 2, 0, [3, 0, 0, 1, 3]),
  (40, .iadd, 1, 0, 0, 0, []),
  (41, .istore_n 2, 1, 0, 0, 0, []),
  (42, .iinc 3 1, 3, 0, 0, 0, []),
  (45, .goto (-41), 3, 4, 0, 0, []),
  (48, .iload_n 2, 1, 0, 0, 0, []),
  (49, .ireturn, 1, 0, 0, 0, [])]
/-- 24 FallRows$Costs.bound()I -/
def k24 : List fr_E := [(0, .iconst 0, 1, 0, 0, 0, []),
  (1, .istore_n 1, 1, 0, 0, 0, []),
  (2, .iconst 0, 1, 0, 0, 0, []),
  (3, .istore_n 2, 1, 0, 0, 0, []),
  (4, .iload_n 2, 1, 0, 0, 0, []),
  (5, .aload_n 0, 1, 0, 0, 0, []),
  (6, .getfield 19, 3, 2, 2, 2, []),
  (9, .if_icmp .ge 51, 3, 34, 0, 0, []),
  (12, .aload_n 0, 1, 0, 0, 0, []),
  (13, .iload_n 2, 1, 0, 0, 0, []),
  (14, .bipush 9, 2, 0, 0, 0, []),
  (16, .invokevirtual 48, 3, 2, 2, 0, [3, 0, 0, 1, 3]),
  (19, .istore_n 3, 1, 0, 0, 0, []),
  (20, .iconst 0, 1, 0, 0, 0, []),
  (21, .istore 4, 2, 0, 0, 0, []),
  (23, .iload 4, 2, 0, 0, 0, []),
  (25, .aload_n 0, 1, 0, 0, 0, []),
  (26, .getfield 19, 3, 2, 2, 2, []),
  (29, .if_icmp .ge 21, 3, 28, 0, 0, []),
  (32, .iload_n 3, 1, 0, 0, 0, []),
  (33, .aload_n 0, 1, 0, 0, 0, []),
  (34, .iload_n 2, 1, 0, 0, 0, []),
  (35, .iload 4, 2, 0, 0, 0, []),
  (37, .invokevirtual 48, 3, 2, 2, 0, [3, 0, 0, 1, 3]),
  (40, .invokestatic 51, 3, 995, 0, 0, []),
  (43, .istore_n 3, 1, 0, 0, 0, []),
  (44, .iinc 4 1, 3, 0, 0, 0, []),
  (47, .goto (-24), 3, 15, 0, 0, []),
  (50, .iload_n 1, 1, 0, 0, 0, []),
  (51, .iload_n 3, 1, 0, 0, 0, []),
  (52, .iadd, 1, 0, 0, 0, []),
  (53, .istore_n 1, 1, 0, 0, 0, []),
  (54, .iinc 2 1, 3, 0, 0, 0, []),
  (57, .goto (-53), 3, 4, 0, 0, []),
  (60, .iload_n 1, 1, 0, 0, 0, []),
  (61, .ireturn, 1, 0, 0, 0, [])]
/-- 25 FallRows$Layout.<init>(LFallRows$Program;LFallRows$Orders;)V -/
def k25 : List fr_E := [(0, .aload_n 0, 1, 0, 0, 0, []),
  (1, .invokespecial 3, 3, 999, 0, 0, []),
  (4, .aload_n 0, 1, 0, 0, 0, []),
  (5, .bipush 40, 2, 0, 0, 0, []),
  (7, .newarray .int, 2, 0, 0, 0, []),
  (9, .putfield 9, 3, 3, 2, 2, [2]),
  (12, .aload_n 0, 1, 0, 0, 0, []),
  (13, .bipush 40, 2, 0, 0, 0, []),
  (15, .newarray .int, 2, 0, 0, 0, []),
  (17, .putfield 15, 3, 3, 3, 3, [2]),
  (20, .aload_n 0, 1, 0, 0, 0, []),
  (21, .bipush 40, 2, 0, 0, 0, []),
  (23, .newarray .int, 2, 0, 0, 0, []),
  (25, .putfield 18, 3, 3, 4, 4, [2]),
  (28, .aload_n 0, 1, 0, 0, 0, []),
  (29, .bipush 40, 2, 0, 0, 0, []),
  (31, .newarray .int, 2, 0, 0, 0, []),
  (33, .putfield 21, 3, 3, 5, 5, [2]),
  (36, .aload_n 0, 1, 0, 0, 0, []),
  (37, .bipush 80, 2, 0, 0, 0, []),
  (39, .newarray .int, 2, 0, 0, 0, []),
  (41, .putfield 24, 3, 3, 6, 6, [2]),
  (44, .aload_n 0, 1, 0, 0, 0, []),
  (45, .bipush 80, 2, 0, 0, 0, []),
  (47, .newarray .int, 2, 0, 0, 0, []),
  (49, .putfield 27, 3, 3, 7, 7, [2]),
  (52, .aload_n 0, 1, 0, 0, 0, []),
  (53, .bipush 80, 2, 0, 0, 0, []),
  (55, .newarray .boolean, 2, 1, 0, 0, []),
  (57, .putfield 30, 3, 3, 8, 8, [2]),
  (60, .aload_n 0, 1, 0, 0, 0, []),
  (61, .bipush 40, 2, 0, 0, 0, []),
  (63, .newarray .boolean, 2, 1, 0, 0, []),
  (65, .putfield 34, 3, 3, 9, 9, [2]),
  (68, .aload_n 0, 1, 0, 0, 0, []),
  (69, .bipush 40, 2, 0, 0, 0, []),
  (71, .newarray .int, 2, 0, 0, 0, []),
  (73, .putfield 37, 3, 3, 10, 10, [2]),
  (76, .aload_n 0, 1, 0, 0, 0, []),
  (77, .aload_n 1, 1, 0, 0, 0, []),
  (78, .putfield 40, 3, 3, 0, 0, [2]),
  (81, .aload_n 0, 1, 0, 0, 0, []),
  (82, .aload_n 2, 1, 0, 0, 0, []),
  (83, .putfield 44, 3, 3, 1, 1, [2]),
  (86, .aload_n 0, 1, 0, 0, 0, []),
  (87, .iconst 1, 1, 0, 0, 0, []),
  (88, .putfield 48, 3, 3, 11, 11, []),
  (91, .aload_n 0, 1, 0, 0, 0, []),
  (92, .iconst 0, 1, 0, 0, 0, []),
  (93, .putfield 52, 3, 3, 12, 12, [1]),
  (96, .aload_n 0, 1, 0, 0, 0, []),
  (97, .iconst 0, 1, 0, 0, 0, []),
  (98, .putfield 56, 3, 3, 17, 17, []),
  (101, .aload_n 0, 1, 0, 0, 0, []),
  (102, .iconst 0, 1, 0, 0, 0, []),
  (103, .putfield 59, 3, 3, 18, 18, [1]),
  (106, .return_, 1, 0, 0, 0, [])]
/-- 26 FallRows$Layout.disturb()V -/
def k26 : List fr_E := [(0, .aload_n 0, 1, 0, 0, 0, []),
  (1, .iconst 0, 1, 0, 0, 0, []),
  (2, .putfield 59, 3, 3, 18, 18, [1]),
  (5, .return_, 1, 0, 0, 0, [])]
/-- 27 FallRows$Layout.lineUpThose(ZI)I -/
def k27 : List fr_E := [(0, .iload_n 2, 1, 0, 0, 0, []),
  (1, .istore_n 3, 1, 0, 0, 0, []),
  (2, .iconst 0, 1, 0, 0, 0, []),
  (3, .istore 4, 2, 0, 0, 0, []),
  (5, .iload 4, 2, 0, 0, 0, []),
  (7, .aload_n 0, 1, 0, 0, 0, []),
  (8, .getfield 40, 3, 3, 0, 0, []),
  (11, .getfield 88, 3, 7, 0, 0, []),
  (14, .if_icmp .ge 91, 3, 52, 0, 0, []),
  (17, .iconst 0, 1, 0, 0, 0, []),
  (18, .istore 5, 2, 0, 0, 0, []),
  (20, .iload 5, 2, 0, 0, 0, []),
  (22, .aload_n 0, 1, 0, 0, 0, []),
  (23, .getfield 40, 3, 3, 0, 0, []),
  (26, .getfield 91, 3, 7, 2, 2, []),
  (29, .iload 4, 2, 0, 0, 0, []),
  (31, .iaload, 1, 0, 0, 0, []),
  (32, .if_icmp .ge 67, 3, 50, 0, 0, []),
  (35, .aload_n 0, 1, 0, 0, 0, []),
  (36, .getfield 44, 3, 3, 1, 1, []),
  (39, .getfield 94, 3, 5, 1, 1, []),
  (42, .iload 4, 2, 0, 0, 0, []),
  (44, .bipush 9, 2, 0, 0, 0, []),
  (46, .imul, 1, 0, 0, 0, []),
  (47, .iload 5, 2, 0, 0, 0, []),
  (49, .iadd, 1, 0, 0, 0, []),
  (50, .iaload, 1, 0, 0, 0, []),
  (51, .istore 6, 2, 0, 0, 0, []),
  (53, .aload_n 0, 1, 0, 0, 0, []),
  (54, .getfield 52, 3, 3, 12, 12, []),
  (57, .ifCond .eq 20, 3, 39, 0, 0, []),
  (60, .aload_n 0, 1, 0, 0, 0, []),
  (61, .getfield 40, 3, 3, 0, 0, []),
  (64, .getfield 99, 3, 7, 10, 10, []),
  (67, .iload 6, 2, 0, 0, 0, []),
  (69, .baload, 1, 0, 0, 0, []),
  (70, .ifCond .eq 7, 3, 39, 0, 0, []),
  (73, .iconst 1, 1, 0, 0, 0, []),
  (74, .goto 4, 3, 40, 0, 0, []),
  (77, .iconst 0, 1, 0, 0, 0, []),
  (78, .iload_n 1, 1, 0, 0, 0, []),
  (79, .if_icmp .ne 14, 3, 48, 0, 0, []),
  (82, .aload_n 0, 1, 0, 0, 0, []),
  (83, .getfield 9, 3, 3, 2, 2, []),
  (86, .iload_n 3, 1, 0, 0, 0, []),
  (87, .iload 6, 2, 0, 0, 0, []),
  (89, .iastore, 1, 0, 0, 0, []),
  (90, .iinc 3 1, 3, 0, 0, 0, []),
  (93, .iinc 5 1, 3, 0, 0, 0, []),
  (96, .goto (-76), 3, 11, 0, 0, []),
  (99, .iinc 4 1, 3, 0, 0, 0, []),
  (102, .goto (-97), 3, 4, 0, 0, []),
  (105, .iload_n 3, 1, 0, 0, 0, []),
  (106, .ireturn, 1, 0, 0, 0, [])]
/-- 28 FallRows$Layout.lineUp()V -/
def k28 : List fr_E := [(0, .aload_n 0, 1, 0, 0, 0, []),
  (1, .iconst 0, 1, 0, 0, 0, []),
  (2, .iconst 0, 1, 0, 0, 0, []),
  (3, .invokevirtual 84, 3, 27, 3, 0, [3, 0, 0, 1, 7]),
  (6, .istore_n 1, 1, 0, 0, 0, []),
  (7, .aload_n 0, 1, 0, 0, 0, []),
  (8, .getfield 52, 3, 3, 12, 12, []),
  (11, .ifCond .eq 10, 3, 13, 0, 0, []),
  (14, .aload_n 0, 1, 0, 0, 0, []),
  (15, .iconst 1, 1, 0, 0, 0, []),
  (16, .iload_n 1, 1, 0, 0, 0, []),
  (17, .invokevirtual 84, 3, 27, 3, 0, [3, 0, 0, 1, 7]),
  (20, .istore_n 1, 1, 0, 0, 0, []),
  (21, .iconst 0, 1, 0, 0, 0, []),
  (22, .istore_n 2, 1, 0, 0, 0, []),
  (23, .iload_n 2, 1, 0, 0, 0, []),
  (24, .iload_n 1, 1, 0, 0, 0, []),
  (25, .if_icmp .ge 39, 3, 40, 0, 0, []),
  (28, .aload_n 0, 1, 0, 0, 0, []),
  (29, .getfield 15, 3, 3, 3, 3, []),
  (32, .aload_n 0, 1, 0, 0, 0, []),
  (33, .getfield 9, 3, 3, 2, 2, []),
  (36, .iload_n 2, 1, 0, 0, 0, []),
  (37, .iaload, 1, 0, 0, 0, []),
  (38, .iload_n 2, 1, 0, 0, 0, []),
  (39, .iconst 1, 1, 0, 0, 0, []),
  (40, .iadd, 1, 0, 0, 0, []),
  (41, .iload_n 1, 1, 0, 0, 0, []),
  (42, .if_icmp .ge 14, 3, 36, 0, 0, []),
  (45, .aload_n 0, 1, 0, 0, 0, []),
  (46, .getfield 9, 3, 3, 2, 2, []),
  (49, .iload_n 2, 1, 0, 0, 0, []),
  (50, .iconst 1, 1, 0, 0, 0, []),
  (51, .iadd, 1, 0, 0, 0, []),
  (52, .iaload, 1, 0, 0, 0, []),
  (53, .goto 4, 3, 37, 0, 0, []),
  (56, .iconst (-1), 1, 0, 0, 0, []),
  (57, .iastore, 1, 0, 0, 0, []),
  (58, .iinc 2 1, 3, 0, 0, 0, []),
  (61, .goto (-38), 3, 15, 0, 0, []),
  (64, .return_, 1, 0, 0, 0, [])]
/-- 29 FallRows$Layout.chooseJumps(I)V -/
def k29 : List fr_E := [(0, .aload_n 0, 1, 0, 0, 0, []),
  (1, .getfield 40, 3, 3, 0, 0, []),
  (4, .iload_n 1, 1, 0, 0, 0, []),
  (5, .iconst 0, 1, 0, 0, 0, []),
  (6, .invokevirtual 102, 3, 13, 7, 0, [3, 0, 0, 1, 3]),
  (9, .istore_n 2, 1, 0, 0, 0, []),
  (10, .aload_n 0, 1, 0, 0, 0, []),
  (11, .getfield 40, 3, 3, 0, 0, []),
  (14, .iload_n 1, 1, 0, 0, 0, []),
  (15, .iconst 1, 1, 0, 0, 0, []),
  (16, .invokevirtual 102, 3, 13, 7, 0, [3, 0, 0, 1, 3]),
  (19, .istore_n 3, 1, 0, 0, 0, []),
  (20, .iconst (-1), 1, 0, 0, 0, []),
  (21, .istore 4, 2, 0, 0, 0, []),
  (23, .iconst (-1), 1, 0, 0, 0, []),
  (24, .istore 5, 2, 0, 0, 0, []),
  (26, .iconst 0, 1, 0, 0, 0, []),
  (27, .istore 6, 2, 0, 0, 0, []),
  (29, .aload_n 0, 1, 0, 0, 0, []),
  (30, .getfield 40, 3, 3, 0, 0, []),
  (33, .iload_n 1, 1, 0, 0, 0, []),
  (34, .invokevirtual 106, 3, 9, 7, 0, [2, 0, 0, 1, 2]),
  (37, .ifCond .eq 23, 3, 34, 0, 0, []),
  (40, .iload_n 2, 1, 0, 0, 0, []),
  (41, .aload_n 0, 1, 0, 0, 0, []),
  (42, .getfield 15, 3, 3, 3, 3, []),
  (45, .iload_n 1, 1, 0, 0, 0, []),
  (46, .iaload, 1, 0, 0, 0, []),
  (47, .if_icmp .ne 7, 3, 31, 0, 0, []),
  (50, .iconst (-1), 1, 0, 0, 0, []),
  (51, .goto 4, 3, 32, 0, 0, []),
  (54, .iload_n 2, 1, 0, 0, 0, []),
  (55, .istore 5, 2, 0, 0, 0, []),
  (57, .goto 77, 3, 75, 0, 0, []),
  (60, .aload_n 0, 1, 0, 0, 0, []),
  (61, .getfield 40, 3, 3, 0, 0, []),
  (64, .getfield 109, 3, 7, 7, 7, []),
  (67, .iload_n 1, 1, 0, 0, 0, []),
  (68, .iaload, 1, 0, 0, 0, []),
  (69, .iconst 3, 1, 0, 0, 0, []),
  (70, .if_icmp .ne 64, 3, 75, 0, 0, []),
  (73, .iload_n 3, 1, 0, 0, 0, []),
  (74, .aload_n 0, 1, 0, 0, 0, []),
  (75, .getfield 15, 3, 3, 3, 3, []),
  (78, .iload_n 1, 1, 0, 0, 0, []),
  (79, .iaload, 1, 0, 0, 0, []),
  (80, .if_icmp .eq 17, 3, 55, 0, 0, []),
  (83, .iload_n 2, 1, 0, 0, 0, []),
  (84, .aload_n 0, 1, 0, 0, 0, []),
  (85, .getfield 15, 3, 3, 3, 3, []),
  (88, .iload_n 1, 1, 0, 0, 0, []),
  (89, .iaload, 1, 0, 0, 0, []),
  (90, .if_icmp .ne 7, 3, 55, 0, 0, []),
  (93, .iconst 1, 1, 0, 0, 0, []),
  (94, .goto 4, 3, 56, 0, 0, []),
  (97, .iconst 0, 1, 0, 0, 0, []),
  (98, .istore 6, 2, 0, 0, 0, []),
  (100, .iload 6, 2, 0, 0, 0, []),
  (102, .ifCond .eq 7, 3, 61, 0, 0, []),
  (105, .iload_n 3, 1, 0, 0, 0, []),
  (106, .goto 4, 3, 62, 0, 0, []),
  (109, .iload_n 2, 1, 0, 0, 0, []),
  (110, .istore 4, 2, 0, 0, 0, []),
  (112, .iload 6, 2, 0, 0, 0, []),
  (114, .ifCond .ne 13, 3, 71, 0, 0, []),
  (117, .iload_n 3, 1, 0, 0, 0, []),
  (118, .aload_n 0, 1, 0, 0, 0, []),
  (119, .getfield 15, 3, 3, 3, 3, []),
  (122, .iload_n 1, 1, 0, 0, 0, []),
  (123, .iaload, 1, 0, 0, 0, []),
  (124, .if_icmp .ne 7, 3, 73, 0, 0, []),
  (127, .iconst (-1), 1, 0, 0, 0, []),
  (128, .goto 4, 3, 74, 0, 0, []),
  (131, .iload_n 3, 1, 0, 0, 0, []),
  (132, .istore 5, 2, 0, 0, 0, []),
  (134, .aload_n 0, 1, 0, 0, 0, []),
  (135, .getfield 24, 3, 3, 6, 6, []),
  (138, .iconst 2, 1, 0, 0, 0, []),
  (139, .iload_n 1, 1, 0, 0, 0, []),
  (140, .imul, 1, 0, 0, 0, []),
  (141, .iload 4, 2, 0, 0, 0, []),
  (143, .iastore, 1, 0, 0, 0, []),
  (144, .aload_n 0, 1, 0, 0, 0, []),
  (145, .getfield 24, 3, 3, 6, 6, []),
  (148, .iconst 2, 1, 0, 0, 0, []),
  (149, .iload_n 1, 1, 0, 0, 0, []),
  (150, .imul, 1, 0, 0, 0, []),
  (151, .iconst 1, 1, 0, 0, 0, []),
  (152, .iadd, 1, 0, 0, 0, []),
  (153, .iload 5, 2, 0, 0, 0, []),
  (155, .iastore, 1, 0, 0, 0, []),
  (156, .aload_n 0, 1, 0, 0, 0, []),
  (157, .getfield 34, 3, 3, 9, 9, []),
  (160, .iload_n 1, 1, 0, 0, 0, []),
  (161, .iload 6, 2, 0, 0, 0, []),
  (163, .bastore, 1, 0, 0, 0, []),
  (164, .aload_n 0, 1, 0, 0, 0, []),
  (165, .getfield 30, 3, 3, 8, 8, []),
  (168, .iconst 2, 1, 0, 0, 0, []),
  (169, .iload_n 1, 1, 0, 0, 0, []),
  (170, .imul, 1, 0, 0, 0, []),
  (171, .iconst 0, 1, 0, 0, 0, []),
  (172, .bastore, 1, 0, 0, 0, []),
  (173, .aload_n 0, 1, 0, 0, 0, []),
  (174, .getfield 30, 3, 3, 8, 8, []),
  (177, .iconst 2, 1, 0, 0, 0, []),
  (178, .iload_n 1, 1, 0, 0, 0, []),
  (179, .imul, 1, 0, 0, 0, []),
  (180, .iconst 1, 1, 0, 0, 0, []),
  (181, .iadd, 1, 0, 0, 0, []),
  (182, .iconst 0, 1, 0, 0, 0, []),
  (183, .bastore, 1, 0, 0, 0, []),
  (184, .aload_n 0, 1, 0, 0, 0, []),
  (185, .getfield 37, 3, 3, 10, 10, []),
  (188, .iload_n 1, 1, 0, 0, 0, []),
  (189, .iconst 0, 1, 0, 0, 0, []),
  (190, .iastore, 1, 0, 0, 0, []),
  (191, .return_, 1, 0, 0, 0, [])]
/-- 30 FallRows$Layout.wordsFrom(I)I -/
def k30 : List fr_E := [(0, .iload_n 0, 1, 0, 0, 0, []),
  (1, .iconst 2, 1, 0, 0, 0, []),
  (2, .iadd, 1, 0, 0, 0, []),
  (3, .iconst 3, 1, 0, 0, 0, []),
  (4, .iadd, 1, 0, 0, 0, []),
  (5, .bipush (-4), 2, 0, 0, 0, []),
  (7, .iand, 1, 0, 0, 0, []),
  (8, .ireturn, 1, 0, 0, 0, [])]
/-- 31 FallRows$Layout.slotBytes(II)I -/
def k31 : List fr_E := [(0, .aload_n 0, 1, 0, 0, 0, []),
  (1, .getfield 24, 3, 3, 6, 6, []),
  (4, .iload_n 1, 1, 0, 0, 0, []),
  (5, .iaload, 1, 0, 0, 0, []),
  (6, .iconst (-1), 1, 0, 0, 0, []),
  (7, .if_icmp .ne 5, 3, 8, 0, 0, []),
  (10, .iconst 0, 1, 0, 0, 0, []),
  (11, .ireturn, 1, 0, 0, 0, []),
  (12, .aload_n 0, 1, 0, 0, 0, []),
  (13, .getfield 30, 3, 3, 8, 8, []),
  (16, .iload_n 1, 1, 0, 0, 0, []),
  (17, .baload, 1, 0, 0, 0, []),
  (18, .ifCond .eq 7, 3, 15, 0, 0, []),
  (21, .iload_n 2, 1, 0, 0, 0, []),
  (22, .goto 4, 3, 16, 0, 0, []),
  (25, .iconst 2, 1, 0, 0, 0, []),
  (26, .ireturn, 1, 0, 0, 0, [])]
/-- 32 FallRows$Layout.layEnd(II)I -/
def k32 : List fr_E := [(0, .aload_n 0, 1, 0, 0, 0, []),
  (1, .getfield 40, 3, 3, 0, 0, []),
  (4, .getfield 109, 3, 7, 7, 7, []),
  (7, .iload_n 1, 1, 0, 0, 0, []),
  (8, .iaload, 1, 0, 0, 0, []),
  (9, .istore_n 3, 1, 0, 0, 0, []),
  (10, .iload_n 3, 1, 0, 0, 0, []),
  (11, .ifCond .eq 8, 3, 11, 0, 0, []),
  (14, .iload_n 3, 1, 0, 0, 0, []),
  (15, .iconst 1, 1, 0, 0, 0, []),
  (16, .if_icmp .ne 7, 3, 15, 0, 0, []),
  (19, .iload_n 2, 1, 0, 0, 0, []),
  (20, .iconst 1, 1, 0, 0, 0, []),
  (21, .iadd, 1, 0, 0, 0, []),
  (22, .ireturn, 1, 0, 0, 0, []),
  (23, .iload_n 3, 1, 0, 0, 0, []),
  (24, .iconst 4, 1, 0, 0, 0, []),
  (25, .if_icmp .ne 20, 3, 29, 0, 0, []),
  (28, .iload_n 2, 1, 0, 0, 0, []),
  (29, .invokestatic 127, 3, 30, 3, 0, [1, 0, 0, 1, 1]),
  (32, .iconst 4, 1, 0, 0, 0, []),
  (33, .aload_n 0, 1, 0, 0, 0, []),
  (34, .getfield 40, 3, 3, 0, 0, []),
  (37, .getfield 131, 3, 7, 8, 8, []),
  (40, .iload_n 1, 1, 0, 0, 0, []),
  (41, .iaload, 1, 0, 0, 0, []),
  (42, .imul, 1, 0, 0, 0, []),
  (43, .iadd, 1, 0, 0, 0, []),
  (44, .ireturn, 1, 0, 0, 0, []),
  (45, .iload_n 3, 1, 0, 0, 0, []),
  (46, .iconst 5, 1, 0, 0, 0, []),
  (47, .if_icmp .ne 9, 3, 36, 0, 0, []),
  (50, .iload_n 2, 1, 0, 0, 0, []),
  (51, .iconst 5, 1, 0, 0, 0, []),
  (52, .iadd, 1, 0, 0, 0, []),
  (53, .goto 4, 3, 37, 0, 0, []),
  (56, .iload_n 2, 1, 0, 0, 0, []),
  (57, .istore 4, 2, 0, 0, 0, []),
  (59, .iload 4, 2, 0, 0, 0, []),
  (61, .aload_n 0, 1, 0, 0, 0, []),
  (62, .iconst 2, 1, 0, 0, 0, []),
  (63, .iload_n 1, 1, 0, 0, 0, []),
  (64, .imul, 1, 0, 0, 0, []),
  (65, .bipush 6, 2, 0, 0, 0, []),
  (67, .invokevirtual 134, 3, 31, 3, 0, [3, 0, 0, 1, 3]),
  (70, .iadd, 1, 0, 0, 0, []),
  (71, .istore 4, 2, 0, 0, 0, []),
  (73, .aload_n 0, 1, 0, 0, 0, []),
  (74, .getfield 27, 3, 3, 7, 7, []),
  (77, .iconst 2, 1, 0, 0, 0, []),
  (78, .iload_n 1, 1, 0, 0, 0, []),
  (79, .imul, 1, 0, 0, 0, []),
  (80, .iload 4, 2, 0, 0, 0, []),
  (82, .iastore, 1, 0, 0, 0, []),
  (83, .iload 4, 2, 0, 0, 0, []),
  (85, .aload_n 0, 1, 0, 0, 0, []),
  (86, .iconst 2, 1, 0, 0, 0, []),
  (87, .iload_n 1, 1, 0, 0, 0, []),
  (88, .imul, 1, 0, 0, 0, []),
  (89, .iconst 1, 1, 0, 0, 0, []),
  (90, .iadd, 1, 0, 0, 0, []),
  (91, .iconst 5, 1, 0, 0, 0, []),
  (92, .invokevirtual 134, 3, 31, 3, 0, [3, 0, 0, 1, 3]),
  (95, .iadd, 1, 0, 0, 0, []),
  (96, .istore 4, 2, 0, 0, 0, []),
  (98, .aload_n 0, 1, 0, 0, 0, []),
  (99, .getfield 27, 3, 3, 7, 7, []),
  (102, .iconst 2, 1, 0, 0, 0, []),
  (103, .iload_n 1, 1, 0, 0, 0, []),
  (104, .imul, 1, 0, 0, 0, []),
  (105, .iconst 1, 1, 0, 0, 0, []),
  (106, .iadd, 1, 0, 0, 0, []),
  (107, .iload 4, 2, 0, 0, 0, []),
  (109, .iastore, 1, 0, 0, 0, []),
  (110, .iload 4, 2, 0, 0, 0, []),
  (112, .ireturn, 1, 0, 0, 0, [])]
/-- 33 FallRows$Layout.layAll()V -/
def k33 : List fr_E := [(0, .iconst 0, 1, 0, 0, 0, []),
  (1, .istore_n 1, 1, 0, 0, 0, []),
  (2, .iconst 0, 1, 0, 0, 0, []),
  (3, .istore_n 2, 1, 0, 0, 0, []),
  (4, .aload_n 0, 1, 0, 0, 0, []),
  (5, .iconst 0, 1, 0, 0, 0, []),
  (6, .putfield 112, 3, 3, 14, 14, []),
  (9, .iconst 0, 1, 0, 0, 0, []),
  (10, .istore_n 3, 1, 0, 0, 0, []),
  (11, .iload_n 3, 1, 0, 0, 0, []),
  (12, .aload_n 0, 1, 0, 0, 0, []),
  (13, .getfield 40, 3, 3, 0, 0, []),
  (16, .getfield 65, 3, 7, 1, 1, []),
  (19, .if_icmp .ge 106, 3, 74, 0, 0, []),
  (22, .aload_n 0, 1, 0, 0, 0, []),
  (23, .getfield 9, 3, 3, 2, 2, []),
  (26, .iload_n 3, 1, 0, 0, 0, []),
  (27, .iaload, 1, 0, 0, 0, []),
  (28, .istore 4, 2, 0, 0, 0, []),
  (30, .iload_n 1, 1, 0, 0, 0, []),
  (31, .aload_n 0, 1, 0, 0, 0, []),
  (32, .getfield 48, 3, 3, 11, 11, []),
  (35, .iadd, 1, 0, 0, 0, []),
  (36, .iconst 1, 1, 0, 0, 0, []),
  (37, .isub, 1, 0, 0, 0, []),
  (38, .aload_n 0, 1, 0, 0, 0, []),
  (39, .getfield 48, 3, 3, 11, 11, []),
  (42, .ineg, 1, 0, 0, 0, []),
  (43, .iand, 1, 0, 0, 0, []),
  (44, .istore 5, 2, 0, 0, 0, []),
  (46, .aload_n 0, 1, 0, 0, 0, []),
  (47, .dup, 1, 0, 0, 0, []),
  (48, .getfield 112, 3, 3, 14, 14, []),
  (51, .iload 5, 2, 0, 0, 0, []),
  (53, .iload_n 1, 1, 0, 0, 0, []),
  (54, .isub, 1, 0, 0, 0, []),
  (55, .iadd, 1, 0, 0, 0, []),
  (56, .putfield 112, 3, 3, 14, 14, []),
  (59, .aload_n 0, 1, 0, 0, 0, []),
  (60, .getfield 18, 3, 3, 4, 4, []),
  (63, .iload 4, 2, 0, 0, 0, []),
  (65, .iload 5, 2, 0, 0, 0, []),
  (67, .iastore, 1, 0, 0, 0, []),
  (68, .aload_n 0, 1, 0, 0, 0, []),
  (69, .iload 4, 2, 0, 0, 0, []),
  (71, .iload 5, 2, 0, 0, 0, []),
  (73, .aload_n 0, 1, 0, 0, 0, []),
  (74, .getfield 40, 3, 3, 0, 0, []),
  (77, .getfield 115, 3, 7, 6, 6, []),
  (80, .iload 4, 2, 0, 0, 0, []),
  (82, .iaload, 1, 0, 0, 0, []),
  (83, .iadd, 1, 0, 0, 0, []),
  (84, .invokevirtual 118, 3, 32, 3, 0, [3, 0, 0, 1, 5]),
  (87, .istore_n 1, 1, 0, 0, 0, []),
  (88, .aload_n 0, 1, 0, 0, 0, []),
  (89, .getfield 21, 3, 3, 5, 5, []),
  (92, .iload 4, 2, 0, 0, 0, []),
  (94, .iload_n 1, 1, 0, 0, 0, []),
  (95, .iastore, 1, 0, 0, 0, []),
  (96, .iload_n 2, 1, 0, 0, 0, []),
  (97, .aload_n 0, 1, 0, 0, 0, []),
  (98, .getfield 40, 3, 3, 0, 0, []),
  (101, .getfield 109, 3, 7, 7, 7, []),
  (104, .iload 4, 2, 0, 0, 0, []),
  (106, .iaload, 1, 0, 0, 0, []),
  (107, .bipush 6, 2, 0, 0, 0, []),
  (109, .if_icmp .ne 7, 3, 69, 0, 0, []),
  (112, .iconst 1, 1, 0, 0, 0, []),
  (113, .goto 4, 3, 70, 0, 0, []),
  (116, .iconst 0, 1, 0, 0, 0, []),
  (117, .iadd, 1, 0, 0, 0, []),
  (118, .istore_n 2, 1, 0, 0, 0, []),
  (119, .iinc 3 1, 3, 0, 0, 0, []),
  (122, .goto (-111), 3, 9, 0, 0, []),
  (125, .aload_n 0, 1, 0, 0, 0, []),
  (126, .iload_n 1, 1, 0, 0, 0, []),
  (127, .putfield 121, 3, 3, 15, 15, []),
  (130, .aload_n 0, 1, 0, 0, 0, []),
  (131, .iload_n 1, 1, 0, 0, 0, []),
  (132, .bipush 8, 2, 0, 0, 0, []),
  (134, .iload_n 2, 1, 0, 0, 0, []),
  (135, .imul, 1, 0, 0, 0, []),
  (136, .iadd, 1, 0, 0, 0, []),
  (137, .putfield 124, 3, 3, 16, 16, []),
  (140, .return_, 1, 0, 0, 0, [])]
/-- 34 FallRows$Layout.reach(I)I -/
def k34 : List fr_E := [(0, .aload_n 0, 1, 0, 0, 0, []),
  (1, .getfield 18, 3, 3, 4, 4, []),
  (4, .aload_n 0, 1, 0, 0, 0, []),
  (5, .getfield 24, 3, 3, 6, 6, []),
  (8, .iload_n 1, 1, 0, 0, 0, []),
  (9, .iaload, 1, 0, 0, 0, []),
  (10, .iaload, 1, 0, 0, 0, []),
  (11, .aload_n 0, 1, 0, 0, 0, []),
  (12, .getfield 27, 3, 3, 7, 7, []),
  (15, .iload_n 1, 1, 0, 0, 0, []),
  (16, .iaload, 1, 0, 0, 0, []),
  (17, .isub, 1, 0, 0, 0, []),
  (18, .ireturn, 1, 0, 0, 0, [])]
/-- 35 FallRows$Layout.lengthen(I)Z -/
def k35 : List fr_E := [(0, .iconst 0, 1, 0, 0, 0, []),
  (1, .istore_n 2, 1, 0, 0, 0, []),
  (2, .iconst 0, 1, 0, 0, 0, []),
  (3, .istore_n 3, 1, 0, 0, 0, []),
  (4, .iload_n 3, 1, 0, 0, 0, []),
  (5, .iconst 2, 1, 0, 0, 0, []),
  (6, .aload_n 0, 1, 0, 0, 0, []),
  (7, .getfield 40, 3, 3, 0, 0, []),
  (10, .getfield 65, 3, 7, 1, 1, []),
  (13, .imul, 1, 0, 0, 0, []),
  (14, .if_icmp .ge 66, 3, 48, 0, 0, []),
  (17, .aload_n 0, 1, 0, 0, 0, []),
  (18, .getfield 24, 3, 3, 6, 6, []),
  (21, .iload_n 3, 1, 0, 0, 0, []),
  (22, .iaload, 1, 0, 0, 0, []),
  (23, .iconst (-1), 1, 0, 0, 0, []),
  (24, .if_icmp .eq 50, 3, 46, 0, 0, []),
  (27, .aload_n 0, 1, 0, 0, 0, []),
  (28, .getfield 30, 3, 3, 8, 8, []),
  (31, .iload_n 3, 1, 0, 0, 0, []),
  (32, .baload, 1, 0, 0, 0, []),
  (33, .ifCond .ne 41, 3, 46, 0, 0, []),
  (36, .aload_n 0, 1, 0, 0, 0, []),
  (37, .iload_n 3, 1, 0, 0, 0, []),
  (38, .invokevirtual 137, 3, 34, 3, 0, [2, 0, 0, 1, 2]),
  (41, .bipush (-128), 2, 0, 0, 0, []),
  (43, .if_icmp .lt 13, 3, 32, 0, 0, []),
  (46, .aload_n 0, 1, 0, 0, 0, []),
  (47, .iload_n 3, 1, 0, 0, 0, []),
  (48, .invokevirtual 137, 3, 34, 3, 0, [2, 0, 0, 1, 2]),
  (51, .bipush 127, 2, 0, 0, 0, []),
  (53, .if_icmp .le 21, 3, 46, 0, 0, []),
  (56, .aload_n 0, 1, 0, 0, 0, []),
  (57, .getfield 30, 3, 3, 8, 8, []),
  (60, .iload_n 3, 1, 0, 0, 0, []),
  (61, .iconst 1, 1, 0, 0, 0, []),
  (62, .bastore, 1, 0, 0, 0, []),
  (63, .aload_n 0, 1, 0, 0, 0, []),
  (64, .getfield 37, 3, 3, 10, 10, []),
  (67, .iload_n 3, 1, 0, 0, 0, []),
  (68, .iconst 2, 1, 0, 0, 0, []),
  (69, .idiv, 1, 0, 0, 0, []),
  (70, .iload_n 1, 1, 0, 0, 0, []),
  (71, .iastore, 1, 0, 0, 0, []),
  (72, .iconst 1, 1, 0, 0, 0, []),
  (73, .istore_n 2, 1, 0, 0, 0, []),
  (74, .iinc 3 1, 3, 0, 0, 0, []),
  (77, .goto (-73), 3, 4, 0, 0, []),
  (80, .iload_n 2, 1, 0, 0, 0, []),
  (81, .ireturn, 1, 1, 0, 0, [])]
/-- 36 FallRows$Layout.settle()V -/
def k36 : List fr_E := [(0, .aload_n 0, 1, 0, 0, 0, []),
  (1, .getfield 59, 3, 3, 18, 18, []),
  (4, .ifCond .eq 4, 3, 4, 0, 0, []),
  (7, .return_, 1, 0, 0, 0, []),
  (8, .aload_n 0, 1, 0, 0, 0, []),
  (9, .iconst 1, 1, 0, 0, 0, []),
  (10, .putfield 59, 3, 3, 18, 18, [1]),
  (13, .aload_n 0, 1, 0, 0, 0, []),
  (14, .dup, 1, 0, 0, 0, []),
  (15, .getfield 56, 3, 3, 17, 17, []),
  (18, .iconst 1, 1, 0, 0, 0, []),
  (19, .iadd, 1, 0, 0, 0, []),
  (20, .putfield 56, 3, 3, 17, 17, []),
  (23, .aload_n 0, 1, 0, 0, 0, []),
  (24, .invokevirtual 62, 3, 28, 3, 0, [1, 0, 0, 0, 3]),
  (27, .iconst 0, 1, 0, 0, 0, []),
  (28, .istore_n 1, 1, 0, 0, 0, []),
  (29, .iload_n 1, 1, 0, 0, 0, []),
  (30, .aload_n 0, 1, 0, 0, 0, []),
  (31, .getfield 40, 3, 3, 0, 0, []),
  (34, .getfield 65, 3, 7, 1, 1, []),
  (37, .if_icmp .ge 14, 3, 27, 0, 0, []),
  (40, .aload_n 0, 1, 0, 0, 0, []),
  (41, .iload_n 1, 1, 0, 0, 0, []),
  (42, .invokevirtual 70, 3, 29, 3, 0, [2, 0, 0, 0, 7]),
  (45, .iinc 1 1, 3, 0, 0, 0, []),
  (48, .goto (-19), 3, 17, 0, 0, []),
  (51, .aload_n 0, 1, 0, 0, 0, []),
  (52, .iconst 0, 1, 0, 0, 0, []),
  (53, .putfield 74, 3, 3, 13, 13, []),
  (56, .aload_n 0, 1, 0, 0, 0, []),
  (57, .invokevirtual 77, 3, 33, 3, 0, [1, 0, 0, 0, 6]),
  (60, .iconst 1, 1, 0, 0, 0, []),
  (61, .istore_n 1, 1, 0, 0, 0, []),
  (62, .iload_n 1, 1, 0, 0, 0, []),
  (63, .bipush 80, 2, 0, 0, 0, []),
  (65, .if_icmp .gt 26, 3, 48, 0, 0, []),
  (68, .aload_n 0, 1, 0, 0, 0, []),
  (69, .iload_n 1, 1, 0, 0, 0, []),
  (70, .invokevirtual 80, 3, 35, 3, 0, [2, 0, 0, 1, 4]),
  (73, .ifCond .eq 18, 3, 48, 0, 0, []),
  (76, .aload_n 0, 1, 0, 0, 0, []),
  (77, .iload_n 1, 1, 0, 0, 0, []),
  (78, .putfield 74, 3, 3, 13, 13, []),
  (81, .aload_n 0, 1, 0, 0, 0, []),
  (82, .invokevirtual 77, 3, 33, 3, 0, [1, 0, 0, 0, 6]),
  (85, .iinc 1 1, 3, 0, 0, 0, []),
  (88, .goto (-26), 3, 34, 0, 0, []),
  (91, .return_, 1, 0, 0, 0, [])]
/-- 37 FallRows$Layout.endAddress(I)I -/
def k37 : List fr_E := [(0, .aload_n 0, 1, 0, 0, 0, []),
  (1, .getfield 18, 3, 3, 4, 4, []),
  (4, .iload_n 1, 1, 0, 0, 0, []),
  (5, .iaload, 1, 0, 0, 0, []),
  (6, .aload_n 0, 1, 0, 0, 0, []),
  (7, .getfield 40, 3, 3, 0, 0, []),
  (10, .getfield 115, 3, 7, 6, 6, []),
  (13, .iload_n 1, 1, 0, 0, 0, []),
  (14, .iaload, 1, 0, 0, 0, []),
  (15, .iadd, 1, 0, 0, 0, []),
  (16, .ireturn, 1, 0, 0, 0, [])]
/-- 38 FallRows$Layout.jumpsOf(IZ)I -/
def k38 : List fr_E := [(0, .iconst 0, 1, 0, 0, 0, []),
  (1, .istore_n 3, 1, 0, 0, 0, []),
  (2, .iconst 2, 1, 0, 0, 0, []),
  (3, .iload_n 1, 1, 0, 0, 0, []),
  (4, .imul, 1, 0, 0, 0, []),
  (5, .istore 4, 2, 0, 0, 0, []),
  (7, .iload 4, 2, 0, 0, 0, []),
  (9, .iconst 2, 1, 0, 0, 0, []),
  (10, .iload_n 1, 1, 0, 0, 0, []),
  (11, .imul, 1, 0, 0, 0, []),
  (12, .iconst 1, 1, 0, 0, 0, []),
  (13, .iadd, 1, 0, 0, 0, []),
  (14, .if_icmp .gt 39, 3, 33, 0, 0, []),
  (17, .iload_n 3, 1, 0, 0, 0, []),
  (18, .aload_n 0, 1, 0, 0, 0, []),
  (19, .getfield 24, 3, 3, 6, 6, []),
  (22, .iload 4, 2, 0, 0, 0, []),
  (24, .iaload, 1, 0, 0, 0, []),
  (25, .iconst (-1), 1, 0, 0, 0, []),
  (26, .if_icmp .eq 18, 3, 28, 0, 0, []),
  (29, .aload_n 0, 1, 0, 0, 0, []),
  (30, .getfield 30, 3, 3, 8, 8, []),
  (33, .iload 4, 2, 0, 0, 0, []),
  (35, .baload, 1, 0, 0, 0, []),
  (36, .iload_n 2, 1, 0, 0, 0, []),
  (37, .if_icmp .ne 7, 3, 28, 0, 0, []),
  (40, .iconst 1, 1, 0, 0, 0, []),
  (41, .goto 4, 3, 29, 0, 0, []),
  (44, .iconst 0, 1, 0, 0, 0, []),
  (45, .iadd, 1, 0, 0, 0, []),
  (46, .istore_n 3, 1, 0, 0, 0, []),
  (47, .iinc 4 1, 3, 0, 0, 0, []),
  (50, .goto (-43), 3, 6, 0, 0, []),
  (53, .iload_n 3, 1, 0, 0, 0, []),
  (54, .ireturn, 1, 0, 0, 0, [])]
/-- 39 FallRows$Layout.allJumps(Z)I -/
def k39 : List fr_E := [(0, .iconst 0, 1, 0, 0, 0, []),
  (1, .istore_n 2, 1, 0, 0, 0, []),
  (2, .iconst 0, 1, 0, 0, 0, []),
  (3, .istore_n 3, 1, 0, 0, 0, []),
  (4, .iload_n 3, 1, 0, 0, 0, []),
  (5, .aload_n 0, 1, 0, 0, 0, []),
  (6, .getfield 40, 3, 3, 0, 0, []),
  (9, .getfield 65, 3, 7, 1, 1, []),
  (12, .if_icmp .ge 18, 3, 18, 0, 0, []),
  (15, .iload_n 2, 1, 0, 0, 0, []),
  (16, .aload_n 0, 1, 0, 0, 0, []),
  (17, .iload_n 3, 1, 0, 0, 0, []),
  (18, .iload_n 1, 1, 0, 0, 0, []),
  (19, .invokevirtual 140, 3, 38, 3, 0, [3, 0, 0, 1, 5]),
  (22, .iadd, 1, 0, 0, 0, []),
  (23, .istore_n 2, 1, 0, 0, 0, []),
  (24, .iinc 3 1, 3, 0, 0, 0, []),
  (27, .goto (-23), 3, 4, 0, 0, []),
  (30, .iload_n 2, 1, 0, 0, 0, []),
  (31, .ireturn, 1, 0, 0, 0, [])]
/-- 40 FallRows$LocalSearch.<init>(LFallRows$Costs;)V -/
def k40 : List fr_E := [(0, .aload_n 0, 1, 0, 0, 0, []),
  (1, .invokespecial 3, 3, 999, 0, 0, []),
  (4, .aload_n 0, 1, 0, 0, 0, []),
  (5, .bipush 9, 2, 0, 0, 0, []),
  (7, .newarray .int, 2, 0, 0, 0, []),
  (9, .putfield 9, 3, 4, 1, 1, [2]),
  (12, .aload_n 0, 1, 0, 0, 0, []),
  (13, .aload_n 1, 1, 0, 0, 0, []),
  (14, .putfield 15, 3, 4, 0, 0, [2]),
  (17, .return_, 1, 0, 0, 0, [])]
/-- 41 FallRows$LocalSearch.attempt([IIII)V -/
def k41 : List fr_E := [(0, .aload_n 1, 1, 0, 0, 0, []),
  (1, .iconst 0, 1, 0, 0, 0, []),
  (2, .aload_n 0, 1, 0, 0, 0, []),
  (3, .getfield 9, 3, 4, 1, 1, []),
  (6, .iconst 0, 1, 0, 0, 0, []),
  (7, .bipush 9, 2, 0, 0, 0, []),
  (9, .invokestatic 38, 3, 998, 0, 0, []),
  (12, .iload_n 2, 1, 0, 0, 0, []),
  (13, .ifCond .ne 26, 3, 24, 0, 0, []),
  (16, .aload_n 0, 1, 0, 0, 0, []),
  (17, .getfield 9, 3, 4, 1, 1, []),
  (20, .iload_n 3, 1, 0, 0, 0, []),
  (21, .aload_n 1, 1, 0, 0, 0, []),
  (22, .iload 4, 2, 0, 0, 0, []),
  (24, .iaload, 1, 0, 0, 0, []),
  (25, .iastore, 1, 0, 0, 0, []),
  (26, .aload_n 0, 1, 0, 0, 0, []),
  (27, .getfield 9, 3, 4, 1, 1, []),
  (30, .iload 4, 2, 0, 0, 0, []),
  (32, .aload_n 1, 1, 0, 0, 0, []),
  (33, .iload_n 3, 1, 0, 0, 0, []),
  (34, .iaload, 1, 0, 0, 0, []),
  (35, .iastore, 1, 0, 0, 0, []),
  (36, .goto 103, 3, 86, 0, 0, []),
  (39, .iload_n 2, 1, 0, 0, 0, []),
  (40, .iconst 1, 1, 0, 0, 0, []),
  (41, .if_icmp .ne 38, 3, 46, 0, 0, []),
  (44, .iload_n 3, 1, 0, 0, 0, []),
  (45, .istore 5, 2, 0, 0, 0, []),
  (47, .iload 5, 2, 0, 0, 0, []),
  (49, .iload 4, 2, 0, 0, 0, []),
  (51, .if_icmp .gt 25, 3, 45, 0, 0, []),
  (54, .aload_n 0, 1, 0, 0, 0, []),
  (55, .getfield 9, 3, 4, 1, 1, []),
  (58, .iload 5, 2, 0, 0, 0, []),
  (60, .aload_n 1, 1, 0, 0, 0, []),
  (61, .iload_n 3, 1, 0, 0, 0, []),
  (62, .iload 4, 2, 0, 0, 0, []),
  (64, .iadd, 1, 0, 0, 0, []),
  (65, .iload 5, 2, 0, 0, 0, []),
  (67, .isub, 1, 0, 0, 0, []),
  (68, .iaload, 1, 0, 0, 0, []),
  (69, .iastore, 1, 0, 0, 0, []),
  (70, .iinc 5 1, 3, 0, 0, 0, []),
  (73, .goto (-26), 3, 29, 0, 0, []),
  (76, .goto 63, 3, 86, 0, 0, []),
  (79, .iload_n 2, 1, 0, 0, 0, []),
  (80, .iconst 2, 1, 0, 0, 0, []),
  (81, .if_icmp .ne 32, 3, 68, 0, 0, []),
  (84, .aload_n 1, 1, 0, 0, 0, []),
  (85, .iload_n 3, 1, 0, 0, 0, []),
  (86, .iconst 1, 1, 0, 0, 0, []),
  (87, .iadd, 1, 0, 0, 0, []),
  (88, .aload_n 0, 1, 0, 0, 0, []),
  (89, .getfield 9, 3, 4, 1, 1, []),
  (92, .iload_n 3, 1, 0, 0, 0, []),
  (93, .iload 4, 2, 0, 0, 0, []),
  (95, .iload_n 3, 1, 0, 0, 0, []),
  (96, .isub, 1, 0, 0, 0, []),
  (97, .invokestatic 38, 3, 998, 0, 0, []),
  (100, .aload_n 0, 1, 0, 0, 0, []),
  (101, .getfield 9, 3, 4, 1, 1, []),
  (104, .iload 4, 2, 0, 0, 0, []),
  (106, .aload_n 1, 1, 0, 0, 0, []),
  (107, .iload_n 3, 1, 0, 0, 0, []),
  (108, .iaload, 1, 0, 0, 0, []),
  (109, .iastore, 1, 0, 0, 0, []),
  (110, .goto 29, 3, 86, 0, 0, []),
  (113, .aload_n 1, 1, 0, 0, 0, []),
  (114, .iload_n 3, 1, 0, 0, 0, []),
  (115, .aload_n 0, 1, 0, 0, 0, []),
  (116, .getfield 9, 3, 4, 1, 1, []),
  (119, .iload_n 3, 1, 0, 0, 0, []),
  (120, .iconst 1, 1, 0, 0, 0, []),
  (121, .iadd, 1, 0, 0, 0, []),
  (122, .iload 4, 2, 0, 0, 0, []),
  (124, .iload_n 3, 1, 0, 0, 0, []),
  (125, .isub, 1, 0, 0, 0, []),
  (126, .invokestatic 38, 3, 998, 0, 0, []),
  (129, .aload_n 0, 1, 0, 0, 0, []),
  (130, .getfield 9, 3, 4, 1, 1, []),
  (133, .iload_n 3, 1, 0, 0, 0, []),
  (134, .aload_n 1, 1, 0, 0, 0, []),
  (135, .iload 4, 2, 0, 0, 0, []),
  (137, .iaload, 1, 0, 0, 0, []),
  (138, .iastore, 1, 0, 0, 0, []),
  (139, .return_, 1, 0, 0, 0, [])]
/-- 42 FallRows$LocalSearch.improveOnce([I)Z -/
def k42 : List fr_E := [(0, .aload_n 0, 1, 0, 0, 0, []),
  (1, .getfield 15, 3, 4, 0, 0, []),
  (4, .aload_n 1, 1, 0, 0, 0, []),
  (5, .invokevirtual 24, 3, 23, 2, 0, [2, 0, 0, 1, 4]),
  (8, .istore_n 2, 1, 0, 0, 0, []),
  (9, .iconst 0, 1, 0, 0, 0, []),
  (10, .istore_n 3, 1, 0, 0, 0, []),
  (11, .iload_n 3, 1, 0, 0, 0, []),
  (12, .iconst 3, 1, 0, 0, 0, []),
  (13, .if_icmp .gt 93, 3, 54, 0, 0, []),
  (16, .iconst 1, 1, 0, 0, 0, []),
  (17, .istore 4, 2, 0, 0, 0, []),
  (19, .iload 4, 2, 0, 0, 0, []),
  (21, .aload_n 0, 1, 0, 0, 0, []),
  (22, .getfield 15, 3, 4, 0, 0, []),
  (25, .getfield 30, 3, 2, 2, 2, []),
  (28, .if_icmp .ge 72, 3, 52, 0, 0, []),
  (31, .iload 4, 2, 0, 0, 0, []),
  (33, .iconst 1, 1, 0, 0, 0, []),
  (34, .iadd, 1, 0, 0, 0, []),
  (35, .istore 5, 2, 0, 0, 0, []),
  (37, .iload 5, 2, 0, 0, 0, []),
  (39, .aload_n 0, 1, 0, 0, 0, []),
  (40, .getfield 15, 3, 4, 0, 0, []),
  (43, .getfield 30, 3, 2, 2, 2, []),
  (46, .if_icmp .ge 48, 3, 50, 0, 0, []),
  (49, .aload_n 0, 1, 0, 0, 0, []),
  (50, .aload_n 1, 1, 0, 0, 0, []),
  (51, .iload_n 3, 1, 0, 0, 0, []),
  (52, .iload 4, 2, 0, 0, 0, []),
  (54, .iload 5, 2, 0, 0, 0, []),
  (56, .invokevirtual 34, 3, 41, 4, 0, [5, 0, 0, 0, 6]),
  (59, .aload_n 0, 1, 0, 0, 0, []),
  (60, .getfield 15, 3, 4, 0, 0, []),
  (63, .aload_n 0, 1, 0, 0, 0, []),
  (64, .getfield 9, 3, 4, 1, 1, []),
  (67, .invokevirtual 24, 3, 23, 2, 0, [2, 0, 0, 1, 4]),
  (70, .iload_n 2, 1, 0, 0, 0, []),
  (71, .if_icmp .ge 17, 3, 48, 0, 0, []),
  (74, .aload_n 0, 1, 0, 0, 0, []),
  (75, .getfield 9, 3, 4, 1, 1, []),
  (78, .iconst 0, 1, 0, 0, 0, []),
  (79, .aload_n 1, 1, 0, 0, 0, []),
  (80, .iconst 0, 1, 0, 0, 0, []),
  (81, .bipush 9, 2, 0, 0, 0, []),
  (83, .invokestatic 38, 3, 998, 0, 0, []),
  (86, .iconst 1, 1, 0, 0, 0, []),
  (87, .ireturn, 1, 1, 0, 0, []),
  (88, .iinc 5 1, 3, 0, 0, 0, []),
  (91, .goto (-54), 3, 21, 0, 0, []),
  (94, .iinc 4 1, 3, 0, 0, 0, []),
  (97, .goto (-78), 3, 12, 0, 0, []),
  (100, .iinc 3 1, 3, 0, 0, 0, []),
  (103, .goto (-92), 3, 7, 0, 0, []),
  (106, .iconst 0, 1, 0, 0, 0, []),
  (107, .ireturn, 1, 1, 0, 0, [])]
/-- 43 FallRows$LocalSearch.improve([I)V -/
def k43 : List fr_E := [(0, .iconst 0, 1, 0, 0, 0, []),
  (1, .istore_n 2, 1, 0, 0, 0, []),
  (2, .iload_n 2, 1, 0, 0, 0, []),
  (3, .ldc 19, 2, 0, 0, 40320, []),
  (5, .if_icmp .ge 18, 3, 12, 0, 0, []),
  (8, .aload_n 0, 1, 0, 0, 0, []),
  (9, .aload_n 1, 1, 0, 0, 0, []),
  (10, .invokevirtual 20, 3, 42, 4, 0, [2, 0, 0, 1, 6]),
  (13, .ifCond .ne 4, 3, 10, 0, 0, []),
  (16, .return_, 1, 0, 0, 0, []),
  (17, .iinc 2 1, 3, 0, 0, 0, []),
  (20, .goto (-18), 3, 2, 0, 0, []),
  (23, .return_, 1, 0, 0, 0, [])]
/-- 44 FallRows$Orders.<init>(LFallRows$Program;)V -/
def k44 : List fr_E := [(0, .aload_n 0, 1, 0, 0, 0, []),
  (1, .invokespecial 3, 3, 999, 0, 0, []),
  (4, .aload_n 0, 1, 0, 0, 0, []),
  (5, .bipush 54, 2, 0, 0, 0, []),
  (7, .newarray .int, 2, 0, 0, 0, []),
  (9, .putfield 9, 3, 5, 1, 1, [2]),
  (12, .aload_n 0, 1, 0, 0, 0, []),
  (13, .bipush 40, 2, 0, 0, 0, []),
  (15, .newarray .int, 2, 0, 0, 0, []),
  (17, .putfield 15, 3, 5, 2, 2, [2]),
  (20, .aload_n 0, 1, 0, 0, 0, []),
  (21, .bipush 108, 2, 0, 0, 0, []),
  (23, .newarray .int, 2, 0, 0, 0, []),
  (25, .putfield 18, 3, 5, 3, 3, [2]),
  (28, .aload_n 0, 1, 0, 0, 0, []),
  (29, .bipush 12, 2, 0, 0, 0, []),
  (31, .newarray .int, 2, 0, 0, 0, []),
  (33, .putfield 21, 3, 5, 4, 4, [2]),
  (36, .aload_n 0, 1, 0, 0, 0, []),
  (37, .aload_n 1, 1, 0, 0, 0, []),
  (38, .putfield 24, 3, 5, 0, 0, [2]),
  (41, .aload_n 0, 1, 0, 0, 0, []),
  (42, .iconst 0, 1, 0, 0, 0, []),
  (43, .putfield 28, 3, 5, 5, 5, []),
  (46, .return_, 1, 0, 0, 0, [])]
/-- 45 FallRows$Orders.put(III)V -/
def k45 : List fr_E := [(0, .aload_n 0, 1, 0, 0, 0, []),
  (1, .getfield 9, 3, 5, 1, 1, []),
  (4, .iload_n 1, 1, 0, 0, 0, []),
  (5, .bipush 9, 2, 0, 0, 0, []),
  (7, .imul, 1, 0, 0, 0, []),
  (8, .iload_n 2, 1, 0, 0, 0, []),
  (9, .iadd, 1, 0, 0, 0, []),
  (10, .iload_n 3, 1, 0, 0, 0, []),
  (11, .iastore, 1, 0, 0, 0, []),
  (12, .aload_n 0, 1, 0, 0, 0, []),
  (13, .getfield 15, 3, 5, 2, 2, []),
  (16, .iload_n 3, 1, 0, 0, 0, []),
  (17, .iload_n 2, 1, 0, 0, 0, []),
  (18, .iastore, 1, 0, 0, 0, []),
  (19, .return_, 1, 0, 0, 0, [])]
/-- 46 FallRows$Orders.append(I)V -/
def k46 : List fr_E := [(0, .aload_n 0, 1, 0, 0, 0, []),
  (1, .aload_n 0, 1, 0, 0, 0, []),
  (2, .getfield 24, 3, 5, 0, 0, []),
  (5, .getfield 32, 3, 7, 4, 4, []),
  (8, .iload_n 1, 1, 0, 0, 0, []),
  (9, .iaload, 1, 0, 0, 0, []),
  (10, .aload_n 0, 1, 0, 0, 0, []),
  (11, .getfield 24, 3, 5, 0, 0, []),
  (14, .getfield 37, 3, 7, 5, 5, []),
  (17, .iload_n 1, 1, 0, 0, 0, []),
  (18, .iaload, 1, 0, 0, 0, []),
  (19, .iload_n 1, 1, 0, 0, 0, []),
  (20, .invokevirtual 40, 3, 45, 5, 0, [4, 0, 0, 0, 4]),
  (23, .return_, 1, 0, 0, 0, [])]
/-- 47 FallRows$Orders.nextOf(I)I -/
def k47 : List fr_E := [(0, .aload_n 0, 1, 0, 0, 0, []),
  (1, .getfield 24, 3, 5, 0, 0, []),
  (4, .getfield 32, 3, 7, 4, 4, []),
  (7, .iload_n 1, 1, 0, 0, 0, []),
  (8, .iaload, 1, 0, 0, 0, []),
  (9, .istore_n 2, 1, 0, 0, 0, []),
  (10, .aload_n 0, 1, 0, 0, 0, []),
  (11, .getfield 15, 3, 5, 2, 2, []),
  (14, .iload_n 1, 1, 0, 0, 0, []),
  (15, .iaload, 1, 0, 0, 0, []),
  (16, .iconst 1, 1, 0, 0, 0, []),
  (17, .iadd, 1, 0, 0, 0, []),
  (18, .istore_n 3, 1, 0, 0, 0, []),
  (19, .iload_n 3, 1, 0, 0, 0, []),
  (20, .aload_n 0, 1, 0, 0, 0, []),
  (21, .getfield 24, 3, 5, 0, 0, []),
  (24, .getfield 44, 3, 7, 2, 2, []),
  (27, .iload_n 2, 1, 0, 0, 0, []),
  (28, .iaload, 1, 0, 0, 0, []),
  (29, .if_icmp .ge 17, 3, 29, 0, 0, []),
  (32, .aload_n 0, 1, 0, 0, 0, []),
  (33, .getfield 9, 3, 5, 1, 1, []),
  (36, .iload_n 2, 1, 0, 0, 0, []),
  (37, .bipush 9, 2, 0, 0, 0, []),
  (39, .imul, 1, 0, 0, 0, []),
  (40, .iload_n 3, 1, 0, 0, 0, []),
  (41, .iadd, 1, 0, 0, 0, []),
  (42, .iaload, 1, 0, 0, 0, []),
  (43, .goto 4, 3, 30, 0, 0, []),
  (46, .iconst (-1), 1, 0, 0, 0, []),
  (47, .ireturn, 1, 0, 0, 0, [])]
/-- 48 FallRows$Orders.shift(II)V -/
def k48 : List fr_E := [(0, .aload_n 0, 1, 0, 0, 0, []),
  (1, .getfield 24, 3, 5, 0, 0, []),
  (4, .getfield 32, 3, 7, 4, 4, []),
  (7, .iload_n 1, 1, 0, 0, 0, []),
  (8, .iaload, 1, 0, 0, 0, []),
  (9, .istore_n 3, 1, 0, 0, 0, []),
  (10, .aload_n 0, 1, 0, 0, 0, []),
  (11, .getfield 15, 3, 5, 2, 2, []),
  (14, .iload_n 1, 1, 0, 0, 0, []),
  (15, .iaload, 1, 0, 0, 0, []),
  (16, .iload_n 2, 1, 0, 0, 0, []),
  (17, .if_icmp .ge 7, 3, 14, 0, 0, []),
  (20, .iconst 1, 1, 0, 0, 0, []),
  (21, .goto 4, 3, 15, 0, 0, []),
  (24, .iconst (-1), 1, 0, 0, 0, []),
  (25, .istore 4, 2, 0, 0, 0, []),
  (27, .iload_n 2, 1, 0, 0, 0, []),
  (28, .aload_n 0, 1, 0, 0, 0, []),
  (29, .getfield 15, 3, 5, 2, 2, []),
  (32, .iload_n 1, 1, 0, 0, 0, []),
  (33, .iaload, 1, 0, 0, 0, []),
  (34, .isub, 1, 0, 0, 0, []),
  (35, .invokestatic 47, 3, 997, 0, 0, []),
  (38, .istore 5, 2, 0, 0, 0, []),
  (40, .aload_n 0, 1, 0, 0, 0, []),
  (41, .getfield 15, 3, 5, 2, 2, []),
  (44, .iload_n 1, 1, 0, 0, 0, []),
  (45, .iaload, 1, 0, 0, 0, []),
  (46, .istore 6, 2, 0, 0, 0, []),
  (48, .iconst 0, 1, 0, 0, 0, []),
  (49, .istore 7, 2, 0, 0, 0, []),
  (51, .iload 7, 2, 0, 0, 0, []),
  (53, .iload 5, 2, 0, 0, 0, []),
  (55, .if_icmp .ge 38, 3, 54, 0, 0, []),
  (58, .aload_n 0, 1, 0, 0, 0, []),
  (59, .iload_n 3, 1, 0, 0, 0, []),
  (60, .iload 6, 2, 0, 0, 0, []),
  (62, .aload_n 0, 1, 0, 0, 0, []),
  (63, .getfield 9, 3, 5, 1, 1, []),
  (66, .iload_n 3, 1, 0, 0, 0, []),
  (67, .bipush 9, 2, 0, 0, 0, []),
  (69, .imul, 1, 0, 0, 0, []),
  (70, .iload 6, 2, 0, 0, 0, []),
  (72, .iadd, 1, 0, 0, 0, []),
  (73, .iload 4, 2, 0, 0, 0, []),
  (75, .iadd, 1, 0, 0, 0, []),
  (76, .iaload, 1, 0, 0, 0, []),
  (77, .invokevirtual 40, 3, 45, 5, 0, [4, 0, 0, 0, 4]),
  (80, .iload 6, 2, 0, 0, 0, []),
  (82, .iload 4, 2, 0, 0, 0, []),
  (84, .iadd, 1, 0, 0, 0, []),
  (85, .istore 6, 2, 0, 0, 0, []),
  (87, .iinc 7 1, 3, 0, 0, 0, []),
  (90, .goto (-39), 3, 31, 0, 0, []),
  (93, .aload_n 0, 1, 0, 0, 0, []),
  (94, .iload_n 3, 1, 0, 0, 0, []),
  (95, .iload_n 2, 1, 0, 0, 0, []),
  (96, .iload_n 1, 1, 0, 0, 0, []),
  (97, .invokevirtual 40, 3, 45, 5, 0, [4, 0, 0, 0, 4]),
  (100, .return_, 1, 0, 0, 0, [])]
/-- 49 FallRows$Orders.exchange(II)V -/
def k49 : List fr_E := [(0, .aload_n 0, 1, 0, 0, 0, []),
  (1, .getfield 24, 3, 5, 0, 0, []),
  (4, .getfield 32, 3, 7, 4, 4, []),
  (7, .iload_n 1, 1, 0, 0, 0, []),
  (8, .iaload, 1, 0, 0, 0, []),
  (9, .istore_n 3, 1, 0, 0, 0, []),
  (10, .aload_n 0, 1, 0, 0, 0, []),
  (11, .getfield 15, 3, 5, 2, 2, []),
  (14, .iload_n 1, 1, 0, 0, 0, []),
  (15, .iaload, 1, 0, 0, 0, []),
  (16, .istore 4, 2, 0, 0, 0, []),
  (18, .aload_n 0, 1, 0, 0, 0, []),
  (19, .iload_n 3, 1, 0, 0, 0, []),
  (20, .aload_n 0, 1, 0, 0, 0, []),
  (21, .getfield 15, 3, 5, 2, 2, []),
  (24, .iload_n 2, 1, 0, 0, 0, []),
  (25, .iaload, 1, 0, 0, 0, []),
  (26, .iload_n 1, 1, 0, 0, 0, []),
  (27, .invokevirtual 40, 3, 45, 5, 0, [4, 0, 0, 0, 4]),
  (30, .aload_n 0, 1, 0, 0, 0, []),
  (31, .iload_n 3, 1, 0, 0, 0, []),
  (32, .iload 4, 2, 0, 0, 0, []),
  (34, .iload_n 2, 1, 0, 0, 0, []),
  (35, .invokevirtual 40, 3, 45, 5, 0, [4, 0, 0, 0, 4]),
  (38, .return_, 1, 0, 0, 0, [])]
/-- 50 FallRows$Orders.readRanks(I[I)V -/
def k50 : List fr_E := [(0, .iconst 0, 1, 0, 0, 0, []),
  (1, .istore_n 3, 1, 0, 0, 0, []),
  (2, .iload_n 3, 1, 0, 0, 0, []),
  (3, .aload_n 0, 1, 0, 0, 0, []),
  (4, .getfield 24, 3, 5, 0, 0, []),
  (7, .getfield 44, 3, 7, 2, 2, []),
  (10, .iload_n 1, 1, 0, 0, 0, []),
  (11, .iaload, 1, 0, 0, 0, []),
  (12, .if_icmp .ge 31, 3, 26, 0, 0, []),
  (15, .aload_n 2, 1, 0, 0, 0, []),
  (16, .iload_n 3, 1, 0, 0, 0, []),
  (17, .aload_n 0, 1, 0, 0, 0, []),
  (18, .getfield 24, 3, 5, 0, 0, []),
  (21, .getfield 37, 3, 7, 5, 5, []),
  (24, .aload_n 0, 1, 0, 0, 0, []),
  (25, .getfield 9, 3, 5, 1, 1, []),
  (28, .iload_n 1, 1, 0, 0, 0, []),
  (29, .bipush 9, 2, 0, 0, 0, []),
  (31, .imul, 1, 0, 0, 0, []),
  (32, .iload_n 3, 1, 0, 0, 0, []),
  (33, .iadd, 1, 0, 0, 0, []),
  (34, .iaload, 1, 0, 0, 0, []),
  (35, .iaload, 1, 0, 0, 0, []),
  (36, .iastore, 1, 0, 0, 0, []),
  (37, .iinc 3 1, 3, 0, 0, 0, []),
  (40, .goto (-38), 3, 2, 0, 0, []),
  (43, .return_, 1, 0, 0, 0, [])]
/-- 51 FallRows$Orders.writeRanks(I[I)V -/
def k51 : List fr_E := [(0, .iconst 0, 1, 0, 0, 0, []),
  (1, .istore_n 3, 1, 0, 0, 0, []),
  (2, .iload_n 3, 1, 0, 0, 0, []),
  (3, .aload_n 0, 1, 0, 0, 0, []),
  (4, .getfield 24, 3, 5, 0, 0, []),
  (7, .getfield 44, 3, 7, 2, 2, []),
  (10, .iload_n 1, 1, 0, 0, 0, []),
  (11, .iaload, 1, 0, 0, 0, []),
  (12, .if_icmp .ge 26, 3, 22, 0, 0, []),
  (15, .aload_n 0, 1, 0, 0, 0, []),
  (16, .iload_n 1, 1, 0, 0, 0, []),
  (17, .iload_n 3, 1, 0, 0, 0, []),
  (18, .aload_n 0, 1, 0, 0, 0, []),
  (19, .getfield 24, 3, 5, 0, 0, []),
  (22, .iload_n 1, 1, 0, 0, 0, []),
  (23, .aload_n 2, 1, 0, 0, 0, []),
  (24, .iload_n 3, 1, 0, 0, 0, []),
  (25, .iaload, 1, 0, 0, 0, []),
  (26, .invokevirtual 53, 3, 8, 7, 0, [3, 0, 0, 1, 3]),
  (29, .invokevirtual 40, 3, 45, 5, 0, [4, 0, 0, 0, 4]),
  (32, .iinc 3 1, 3, 0, 0, 0, []),
  (35, .goto (-33), 3, 2, 0, 0, []),
  (38, .return_, 1, 0, 0, 0, [])]
/-- 52 FallRows$Orders.fallsOn(I)Z -/
def k52 : List fr_E := [(0, .aload_n 0, 1, 0, 0, 0, []),
  (1, .iload_n 1, 1, 0, 0, 0, []),
  (2, .invokevirtual 61, 3, 47, 5, 0, [2, 0, 0, 1, 4]),
  (5, .istore_n 2, 1, 0, 0, 0, []),
  (6, .iconst 0, 1, 0, 0, 0, []),
  (7, .istore_n 3, 1, 0, 0, 0, []),
  (8, .iload_n 3, 1, 0, 0, 0, []),
  (9, .aload_n 0, 1, 0, 0, 0, []),
  (10, .getfield 24, 3, 5, 0, 0, []),
  (13, .getfield 64, 3, 7, 8, 8, []),
  (16, .iload_n 1, 1, 0, 0, 0, []),
  (17, .iaload, 1, 0, 0, 0, []),
  (18, .if_icmp .ge 29, 3, 27, 0, 0, []),
  (21, .iload_n 2, 1, 0, 0, 0, []),
  (22, .iconst (-1), 1, 0, 0, 0, []),
  (23, .if_icmp .eq 18, 3, 25, 0, 0, []),
  (26, .aload_n 0, 1, 0, 0, 0, []),
  (27, .getfield 24, 3, 5, 0, 0, []),
  (30, .iload_n 1, 1, 0, 0, 0, []),
  (31, .iload_n 3, 1, 0, 0, 0, []),
  (32, .invokevirtual 67, 3, 13, 7, 0, [3, 0, 0, 1, 3]),
  (35, .iload_n 2, 1, 0, 0, 0, []),
  (36, .if_icmp .ne 5, 3, 25, 0, 0, []),
  (39, .iconst 1, 1, 0, 0, 0, []),
  (40, .ireturn, 1, 1, 0, 0, []),
  (41, .iinc 3 1, 3, 0, 0, 0, []),
  (44, .goto (-36), 3, 6, 0, 0, []),
  (47, .iconst 0, 1, 0, 0, 0, []),
  (48, .ireturn, 1, 1, 0, 0, [])]
/-- 53 FallRows$Orders.falls(I)I -/
def k53 : List fr_E := [(0, .iconst 0, 1, 0, 0, 0, []),
  (1, .istore_n 2, 1, 0, 0, 0, []),
  (2, .iconst 0, 1, 0, 0, 0, []),
  (3, .istore_n 3, 1, 0, 0, 0, []),
  (4, .iload_n 3, 1, 0, 0, 0, []),
  (5, .aload_n 0, 1, 0, 0, 0, []),
  (6, .getfield 24, 3, 5, 0, 0, []),
  (9, .getfield 44, 3, 7, 2, 2, []),
  (12, .iload_n 1, 1, 0, 0, 0, []),
  (13, .iaload, 1, 0, 0, 0, []),
  (14, .if_icmp .ge 30, 3, 25, 0, 0, []),
  (17, .aload_n 0, 1, 0, 0, 0, []),
  (18, .aload_n 0, 1, 0, 0, 0, []),
  (19, .getfield 9, 3, 5, 1, 1, []),
  (22, .iload_n 1, 1, 0, 0, 0, []),
  (23, .bipush 9, 2, 0, 0, 0, []),
  (25, .imul, 1, 0, 0, 0, []),
  (26, .iload_n 3, 1, 0, 0, 0, []),
  (27, .iadd, 1, 0, 0, 0, []),
  (28, .iaload, 1, 0, 0, 0, []),
  (29, .invokevirtual 57, 3, 52, 5, 0, [2, 0, 0, 1, 4]),
  (32, .ifCond .eq 6, 3, 23, 0, 0, []),
  (35, .iinc 2 1, 3, 0, 0, 0, []),
  (38, .iinc 3 1, 3, 0, 0, 0, []),
  (41, .goto (-37), 3, 4, 0, 0, []),
  (44, .iload_n 2, 1, 0, 0, 0, []),
  (45, .ireturn, 1, 0, 0, 0, [])]
/-- 54 FallRows$Orders.keep(I)V -/
def k54 : List fr_E := [(0, .aload_n 0, 1, 0, 0, 0, []),
  (1, .getfield 28, 3, 5, 5, 5, []),
  (4, .bipush 12, 2, 0, 0, 0, []),
  (6, .if_icmp .ne 44, 3, 26, 0, 0, []),
  (9, .aload_n 0, 1, 0, 0, 0, []),
  (10, .getfield 18, 3, 5, 3, 3, []),
  (13, .bipush 9, 2, 0, 0, 0, []),
  (15, .aload_n 0, 1, 0, 0, 0, []),
  (16, .getfield 18, 3, 5, 3, 3, []),
  (19, .iconst 0, 1, 0, 0, 0, []),
  (20, .bipush 99, 2, 0, 0, 0, []),
  (22, .invokestatic 70, 3, 998, 0, 0, []),
  (25, .aload_n 0, 1, 0, 0, 0, []),
  (26, .getfield 21, 3, 5, 4, 4, []),
  (29, .iconst 1, 1, 0, 0, 0, []),
  (30, .aload_n 0, 1, 0, 0, 0, []),
  (31, .getfield 21, 3, 5, 4, 4, []),
  (34, .iconst 0, 1, 0, 0, 0, []),
  (35, .bipush 11, 2, 0, 0, 0, []),
  (37, .invokestatic 70, 3, 998, 0, 0, []),
  (40, .aload_n 0, 1, 0, 0, 0, []),
  (41, .dup, 1, 0, 0, 0, []),
  (42, .getfield 28, 3, 5, 5, 5, []),
  (45, .iconst 1, 1, 0, 0, 0, []),
  (46, .isub, 1, 0, 0, 0, []),
  (47, .putfield 28, 3, 5, 5, 5, []),
  (50, .aload_n 0, 1, 0, 0, 0, []),
  (51, .getfield 9, 3, 5, 1, 1, []),
  (54, .iload_n 1, 1, 0, 0, 0, []),
  (55, .bipush 9, 2, 0, 0, 0, []),
  (57, .imul, 1, 0, 0, 0, []),
  (58, .aload_n 0, 1, 0, 0, 0, []),
  (59, .getfield 18, 3, 5, 3, 3, []),
  (62, .aload_n 0, 1, 0, 0, 0, []),
  (63, .getfield 28, 3, 5, 5, 5, []),
  (66, .bipush 9, 2, 0, 0, 0, []),
  (68, .imul, 1, 0, 0, 0, []),
  (69, .bipush 9, 2, 0, 0, 0, []),
  (71, .invokestatic 70, 3, 998, 0, 0, []),
  (74, .aload_n 0, 1, 0, 0, 0, []),
  (75, .getfield 21, 3, 5, 4, 4, []),
  (78, .aload_n 0, 1, 0, 0, 0, []),
  (79, .getfield 28, 3, 5, 5, 5, []),
  (82, .iload_n 1, 1, 0, 0, 0, []),
  (83, .iastore, 1, 0, 0, 0, []),
  (84, .aload_n 0, 1, 0, 0, 0, []),
  (85, .dup, 1, 0, 0, 0, []),
  (86, .getfield 28, 3, 5, 5, 5, []),
  (89, .iconst 1, 1, 0, 0, 0, []),
  (90, .iadd, 1, 0, 0, 0, []),
  (91, .putfield 28, 3, 5, 5, 5, []),
  (94, .return_, 1, 0, 0, 0, [])]
/-- 55 FallRows$Orders.restore()V -/
def k55 : List fr_E := [(0, .aload_n 0, 1, 0, 0, 0, []),
  (1, .getfield 28, 3, 5, 5, 5, []),
  (4, .ifCond .ne 4, 3, 4, 0, 0, []),
  (7, .return_, 1, 0, 0, 0, []),
  (8, .aload_n 0, 1, 0, 0, 0, []),
  (9, .dup, 1, 0, 0, 0, []),
  (10, .getfield 28, 3, 5, 5, 5, []),
  (13, .iconst 1, 1, 0, 0, 0, []),
  (14, .isub, 1, 0, 0, 0, []),
  (15, .putfield 28, 3, 5, 5, 5, []),
  (18, .aload_n 0, 1, 0, 0, 0, []),
  (19, .getfield 21, 3, 5, 4, 4, []),
  (22, .aload_n 0, 1, 0, 0, 0, []),
  (23, .getfield 28, 3, 5, 5, 5, []),
  (26, .iaload, 1, 0, 0, 0, []),
  (27, .istore_n 1, 1, 0, 0, 0, []),
  (28, .iconst 0, 1, 0, 0, 0, []),
  (29, .istore_n 2, 1, 0, 0, 0, []),
  (30, .iload_n 2, 1, 0, 0, 0, []),
  (31, .aload_n 0, 1, 0, 0, 0, []),
  (32, .getfield 24, 3, 5, 0, 0, []),
  (35, .getfield 44, 3, 7, 2, 2, []),
  (38, .iload_n 1, 1, 0, 0, 0, []),
  (39, .iaload, 1, 0, 0, 0, []),
  (40, .if_icmp .ge 29, 3, 40, 0, 0, []),
  (43, .aload_n 0, 1, 0, 0, 0, []),
  (44, .iload_n 1, 1, 0, 0, 0, []),
  (45, .iload_n 2, 1, 0, 0, 0, []),
  (46, .aload_n 0, 1, 0, 0, 0, []),
  (47, .getfield 18, 3, 5, 3, 3, []),
  (50, .aload_n 0, 1, 0, 0, 0, []),
  (51, .getfield 28, 3, 5, 5, 5, []),
  (54, .bipush 9, 2, 0, 0, 0, []),
  (56, .imul, 1, 0, 0, 0, []),
  (57, .iload_n 2, 1, 0, 0, 0, []),
  (58, .iadd, 1, 0, 0, 0, []),
  (59, .iaload, 1, 0, 0, 0, []),
  (60, .invokevirtual 40, 3, 45, 5, 0, [4, 0, 0, 0, 4]),
  (63, .iinc 2 1, 3, 0, 0, 0, []),
  (66, .goto (-36), 3, 18, 0, 0, []),
  (69, .return_, 1, 0, 0, 0, [])]
/-- 56 FallRows$Orders.forget()V -/
def k56 : List fr_E := [(0, .aload_n 0, 1, 0, 0, 0, []),
  (1, .iconst 0, 1, 0, 0, 0, []),
  (2, .putfield 28, 3, 5, 5, 5, []),
  (5, .return_, 1, 0, 0, 0, [])]
/-- 57 FallRows$Picture.<init>(LFallRows$Program;LFallRows$Layout;)V -/
def k57 : List fr_E := [(0, .aload_n 0, 1, 0, 0, 0, []),
  (1, .invokespecial 3, 3, 999, 0, 0, []),
  (4, .aload_n 0, 1, 0, 0, 0, []),
  (5, .sipush 9760, 3, 0, 0, 0, []),
  (8, .newarray .byte, 2, 2, 0, 0, []),
  (10, .putfield 11, 3, 6, 2, 2, [2]),
  (13, .aload_n 0, 1, 0, 0, 0, []),
  (14, .bipush 40, 2, 0, 0, 0, []),
  (16, .newarray .int, 2, 0, 0, 0, []),
  (18, .putfield 15, 3, 6, 3, 3, [2]),
  (21, .aload_n 0, 1, 0, 0, 0, []),
  (22, .aload_n 1, 1, 0, 0, 0, []),
  (23, .putfield 19, 3, 6, 0, 0, [2]),
  (26, .aload_n 0, 1, 0, 0, 0, []),
  (27, .aload_n 2, 1, 0, 0, 0, []),
  (28, .putfield 23, 3, 6, 1, 1, [2]),
  (31, .aload_n 0, 1, 0, 0, 0, []),
  (32, .iconst 0, 1, 0, 0, 0, []),
  (33, .putfield 27, 3, 6, 4, 4, []),
  (36, .aload_n 0, 1, 0, 0, 0, []),
  (37, .iconst 0, 1, 0, 0, 0, []),
  (38, .putfield 31, 3, 6, 5, 5, []),
  (41, .return_, 1, 0, 0, 0, [])]
/-- 58 FallRows$Picture.byteAt(I)I -/
def k58 : List fr_E := [(0, .iload_n 1, 1, 0, 0, 0, []),
  (1, .ifCond .lt 10, 3, 5, 0, 0, []),
  (4, .iload_n 1, 1, 0, 0, 0, []),
  (5, .sipush 9760, 3, 0, 0, 0, []),
  (8, .if_icmp .lt 7, 3, 7, 0, 0, []),
  (11, .iconst 0, 1, 0, 0, 0, []),
  (12, .goto 13, 3, 13, 0, 0, []),
  (15, .aload_n 0, 1, 0, 0, 0, []),
  (16, .getfield 11, 3, 6, 2, 2, []),
  (19, .iload_n 1, 1, 0, 0, 0, []),
  (20, .baload, 1, 0, 0, 0, []),
  (21, .sipush 255, 3, 0, 0, 0, []),
  (24, .iand, 1, 0, 0, 0, []),
  (25, .ireturn, 1, 0, 0, 0, [])]
/-- 59 FallRows$Picture.signedAt(I)I -/
def k59 : List fr_E := [(0, .aload_n 0, 1, 0, 0, 0, []),
  (1, .iload_n 1, 1, 0, 0, 0, []),
  (2, .invokevirtual 34, 3, 58, 6, 0, [2, 0, 0, 1, 2]),
  (5, .i2b, 1, 0, 0, 0, []),
  (6, .ireturn, 1, 0, 0, 0, [])]
/-- 60 FallRows$Picture.wordAt(I)I -/
def k60 : List fr_E := [(0, .aload_n 0, 1, 0, 0, 0, []),
  (1, .iload_n 1, 1, 0, 0, 0, []),
  (2, .invokevirtual 34, 3, 58, 6, 0, [2, 0, 0, 1, 2]),
  (5, .aload_n 0, 1, 0, 0, 0, []),
  (6, .iload_n 1, 1, 0, 0, 0, []),
  (7, .iconst 1, 1, 0, 0, 0, []),
  (8, .iadd, 1, 0, 0, 0, []),
  (9, .invokevirtual 34, 3, 58, 6, 0, [2, 0, 0, 1, 2]),
  (12, .bipush 8, 2, 0, 0, 0, []),
  (14, .ishl, 1, 0, 0, 0, []),
  (15, .ior, 1, 0, 0, 0, []),
  (16, .aload_n 0, 1, 0, 0, 0, []),
  (17, .iload_n 1, 1, 0, 0, 0, []),
  (18, .iconst 2, 1, 0, 0, 0, []),
  (19, .iadd, 1, 0, 0, 0, []),
  (20, .invokevirtual 34, 3, 58, 6, 0, [2, 0, 0, 1, 2]),
  (23, .bipush 16, 2, 0, 0, 0, []),
  (25, .ishl, 1, 0, 0, 0, []),
  (26, .ior, 1, 0, 0, 0, []),
  (27, .aload_n 0, 1, 0, 0, 0, []),
  (28, .iload_n 1, 1, 0, 0, 0, []),
  (29, .iconst 3, 1, 0, 0, 0, []),
  (30, .iadd, 1, 0, 0, 0, []),
  (31, .invokevirtual 34, 3, 58, 6, 0, [2, 0, 0, 1, 2]),
  (34, .bipush 24, 2, 0, 0, 0, []),
  (36, .ishl, 1, 0, 0, 0, []),
  (37, .ior, 1, 0, 0, 0, []),
  (38, .ireturn, 1, 0, 0, 0, [])]
/-- 61 FallRows$Program.isBlock(I)Z -/
def k61 : List fr_E := [(0, .iload_n 1, 1, 0, 0, 0, []),
  (1, .ifCond .lt 15, 3, 8, 0, 0, []),
  (4, .iload_n 1, 1, 0, 0, 0, []),
  (5, .aload_n 0, 1, 0, 0, 0, []),
  (6, .getfield 50, 3, 7, 1, 1, []),
  (9, .if_icmp .ge 7, 3, 8, 0, 0, []),
  (12, .iconst 1, 1, 0, 0, 0, []),
  (13, .goto 4, 3, 9, 0, 0, []),
  (16, .iconst 0, 1, 0, 0, 0, []),
  (17, .ireturn, 1, 1, 0, 0, [])]
/-- 62 FallRows$Picture.blockAt(I)I -/
def k62 : List fr_E := [(0, .aload_n 0, 1, 0, 0, 0, []),
  (1, .iload_n 1, 1, 0, 0, 0, []),
  (2, .invokevirtual 34, 3, 58, 6, 0, [2, 0, 0, 1, 2]),
  (5, .istore_n 2, 1, 0, 0, 0, []),
  (6, .aload_n 0, 1, 0, 0, 0, []),
  (7, .getfield 19, 3, 6, 0, 0, []),
  (10, .iload_n 2, 1, 0, 0, 0, []),
  (11, .invokevirtual 38, 3, 61, 7, 0, [2, 0, 0, 1, 2]),
  (14, .ifCond .eq 20, 3, 18, 0, 0, []),
  (17, .aload_n 0, 1, 0, 0, 0, []),
  (18, .getfield 23, 3, 6, 1, 1, []),
  (21, .getfield 44, 3, 3, 4, 4, []),
  (24, .iload_n 2, 1, 0, 0, 0, []),
  (25, .iaload, 1, 0, 0, 0, []),
  (26, .iload_n 1, 1, 0, 0, 0, []),
  (27, .if_icmp .ne 7, 3, 18, 0, 0, []),
  (30, .iload_n 2, 1, 0, 0, 0, []),
  (31, .goto 4, 3, 19, 0, 0, []),
  (34, .iconst (-1), 1, 0, 0, 0, []),
  (35, .ireturn, 1, 0, 0, 0, [])]
/-- 63 FallRows$Picture.put(I)V -/
def k63 : List fr_E := [(0, .aload_n 0, 1, 0, 0, 0, []),
  (1, .getfield 31, 3, 6, 5, 5, []),
  (4, .sipush 9760, 3, 0, 0, 0, []),
  (7, .if_icmp .ge 24, 3, 17, 0, 0, []),
  (10, .aload_n 0, 1, 0, 0, 0, []),
  (11, .getfield 11, 3, 6, 2, 2, []),
  (14, .aload_n 0, 1, 0, 0, 0, []),
  (15, .getfield 31, 3, 6, 5, 5, []),
  (18, .iload_n 1, 1, 0, 0, 0, []),
  (19, .i2b, 1, 0, 0, 0, []),
  (20, .bastore, 1, 0, 0, 0, []),
  (21, .aload_n 0, 1, 0, 0, 0, []),
  (22, .dup, 1, 0, 0, 0, []),
  (23, .getfield 31, 3, 6, 5, 5, []),
  (26, .iconst 1, 1, 0, 0, 0, []),
  (27, .iadd, 1, 0, 0, 0, []),
  (28, .putfield 31, 3, 6, 5, 5, []),
  (31, .return_, 1, 0, 0, 0, [])]
/-- 64 FallRows$Picture.fillTo(II)V -/
def k64 : List fr_E := [(0, .aload_n 0, 1, 0, 0, 0, []),
  (1, .getfield 31, 3, 6, 5, 5, []),
  (4, .istore_n 3, 1, 0, 0, 0, []),
  (5, .iload_n 3, 1, 0, 0, 0, []),
  (6, .iload_n 1, 1, 0, 0, 0, []),
  (7, .if_icmp .ge 14, 3, 11, 0, 0, []),
  (10, .aload_n 0, 1, 0, 0, 0, []),
  (11, .iload_n 2, 1, 0, 0, 0, []),
  (12, .invokevirtual 76, 3, 63, 6, 0, [2, 0, 0, 0, 2]),
  (15, .iinc 3 1, 3, 0, 0, 0, []),
  (18, .goto (-13), 3, 3, 0, 0, []),
  (21, .return_, 1, 0, 0, 0, [])]
/-- 65 FallRows$Picture.putWord(I)V -/
def k65 : List fr_E := [(0, .aload_n 0, 1, 0, 0, 0, []),
  (1, .iload_n 1, 1, 0, 0, 0, []),
  (2, .invokevirtual 76, 3, 63, 6, 0, [2, 0, 0, 0, 2]),
  (5, .aload_n 0, 1, 0, 0, 0, []),
  (6, .iload_n 1, 1, 0, 0, 0, []),
  (7, .bipush 8, 2, 0, 0, 0, []),
  (9, .ishr, 1, 0, 0, 0, []),
  (10, .invokevirtual 76, 3, 63, 6, 0, [2, 0, 0, 0, 2]),
  (13, .aload_n 0, 1, 0, 0, 0, []),
  (14, .iload_n 1, 1, 0, 0, 0, []),
  (15, .bipush 16, 2, 0, 0, 0, []),
  (17, .ishr, 1, 0, 0, 0, []),
  (18, .invokevirtual 76, 3, 63, 6, 0, [2, 0, 0, 0, 2]),
  (21, .aload_n 0, 1, 0, 0, 0, []),
  (22, .iload_n 1, 1, 0, 0, 0, []),
  (23, .bipush 24, 2, 0, 0, 0, []),
  (25, .ishr, 1, 0, 0, 0, []),
  (26, .invokevirtual 76, 3, 63, 6, 0, [2, 0, 0, 0, 2]),
  (29, .return_, 1, 0, 0, 0, [])]
/-- 66 FallRows$Picture.writeTable(I)V -/
def k66 : List fr_E := [(0, .aload_n 0, 1, 0, 0, 0, []),
  (1, .getfield 31, 3, 6, 5, 5, []),
  (4, .invokestatic 98, 3, 30, 3, 0, [1, 0, 0, 1, 1]),
  (7, .istore_n 2, 1, 0, 0, 0, []),
  (8, .aload_n 0, 1, 0, 0, 0, []),
  (9, .sipush 255, 3, 0, 0, 0, []),
  (12, .invokevirtual 76, 3, 63, 6, 0, [2, 0, 0, 0, 2]),
  (15, .aload_n 0, 1, 0, 0, 0, []),
  (16, .bipush 36, 2, 0, 0, 0, []),
  (18, .invokevirtual 76, 3, 63, 6, 0, [2, 0, 0, 0, 2]),
  (21, .aload_n 0, 1, 0, 0, 0, []),
  (22, .iload_n 2, 1, 0, 0, 0, []),
  (23, .iconst 0, 1, 0, 0, 0, []),
  (24, .invokevirtual 66, 3, 64, 6, 0, [3, 0, 0, 0, 4]),
  (27, .iconst 0, 1, 0, 0, 0, []),
  (28, .istore_n 3, 1, 0, 0, 0, []),
  (29, .iload_n 3, 1, 0, 0, 0, []),
  (30, .aload_n 0, 1, 0, 0, 0, []),
  (31, .getfield 19, 3, 6, 0, 0, []),
  (34, .getfield 101, 3, 7, 8, 8, []),
  (37, .iload_n 1, 1, 0, 0, 0, []),
  (38, .iaload, 1, 0, 0, 0, []),
  (39, .if_icmp .ge 30, 3, 36, 0, 0, []),
  (42, .aload_n 0, 1, 0, 0, 0, []),
  (43, .aload_n 0, 1, 0, 0, 0, []),
  (44, .getfield 23, 3, 6, 1, 1, []),
  (47, .getfield 44, 3, 3, 4, 4, []),
  (50, .aload_n 0, 1, 0, 0, 0, []),
  (51, .getfield 19, 3, 6, 0, 0, []),
  (54, .iload_n 1, 1, 0, 0, 0, []),
  (55, .iload_n 3, 1, 0, 0, 0, []),
  (56, .invokevirtual 104, 3, 13, 7, 0, [3, 0, 0, 1, 3]),
  (59, .iaload, 1, 0, 0, 0, []),
  (60, .invokevirtual 89, 3, 65, 6, 0, [2, 0, 0, 0, 2]),
  (63, .iinc 3 1, 3, 0, 0, 0, []),
  (66, .goto (-37), 3, 16, 0, 0, []),
  (69, .return_, 1, 0, 0, 0, [])]
/-- 67 FallRows$Picture.writeJump(I)V -/
def k67 : List fr_E := [(0, .aload_n 0, 1, 0, 0, 0, []),
  (1, .getfield 23, 3, 6, 1, 1, []),
  (4, .getfield 107, 3, 3, 6, 6, []),
  (7, .iload_n 1, 1, 0, 0, 0, []),
  (8, .iaload, 1, 0, 0, 0, []),
  (9, .iconst (-1), 1, 0, 0, 0, []),
  (10, .if_icmp .ne 4, 3, 8, 0, 0, []),
  (13, .return_, 1, 0, 0, 0, []),
  (14, .aload_n 0, 1, 0, 0, 0, []),
  (15, .getfield 23, 3, 6, 1, 1, []),
  (18, .getfield 110, 3, 3, 8, 8, []),
  (21, .iload_n 1, 1, 0, 0, 0, []),
  (22, .baload, 1, 0, 0, 0, []),
  (23, .ifCond .eq 25, 3, 24, 0, 0, []),
  (26, .aload_n 0, 1, 0, 0, 0, []),
  (27, .sipush 233, 3, 0, 0, 0, []),
  (30, .invokevirtual 76, 3, 63, 6, 0, [2, 0, 0, 0, 2]),
  (33, .aload_n 0, 1, 0, 0, 0, []),
  (34, .aload_n 0, 1, 0, 0, 0, []),
  (35, .getfield 23, 3, 6, 1, 1, []),
  (38, .iload_n 1, 1, 0, 0, 0, []),
  (39, .invokevirtual 117, 3, 34, 3, 0, [2, 0, 0, 1, 2]),
  (42, .invokevirtual 89, 3, 65, 6, 0, [2, 0, 0, 0, 2]),
  (45, .goto 22, 3, 33, 0, 0, []),
  (48, .aload_n 0, 1, 0, 0, 0, []),
  (49, .sipush 235, 3, 0, 0, 0, []),
  (52, .invokevirtual 76, 3, 63, 6, 0, [2, 0, 0, 0, 2]),
  (55, .aload_n 0, 1, 0, 0, 0, []),
  (56, .aload_n 0, 1, 0, 0, 0, []),
  (57, .getfield 23, 3, 6, 1, 1, []),
  (60, .iload_n 1, 1, 0, 0, 0, []),
  (61, .invokevirtual 117, 3, 34, 3, 0, [2, 0, 0, 1, 2]),
  (64, .invokevirtual 76, 3, 63, 6, 0, [2, 0, 0, 0, 2]),
  (67, .return_, 1, 0, 0, 0, [])]
/-- 68 FallRows$Picture.writeTest(I)V -/
def k68 : List fr_E := [(0, .iconst 2, 1, 0, 0, 0, []),
  (1, .iload_n 1, 1, 0, 0, 0, []),
  (2, .imul, 1, 0, 0, 0, []),
  (3, .istore_n 2, 1, 0, 0, 0, []),
  (4, .aload_n 0, 1, 0, 0, 0, []),
  (5, .getfield 23, 3, 6, 1, 1, []),
  (8, .getfield 107, 3, 3, 6, 6, []),
  (11, .iload_n 2, 1, 0, 0, 0, []),
  (12, .iaload, 1, 0, 0, 0, []),
  (13, .iconst (-1), 1, 0, 0, 0, []),
  (14, .if_icmp .ne 4, 3, 12, 0, 0, []),
  (17, .return_, 1, 0, 0, 0, []),
  (18, .aload_n 0, 1, 0, 0, 0, []),
  (19, .getfield 23, 3, 6, 1, 1, []),
  (22, .getfield 110, 3, 3, 8, 8, []),
  (25, .iload_n 2, 1, 0, 0, 0, []),
  (26, .baload, 1, 0, 0, 0, []),
  (27, .ifCond .eq 49, 3, 39, 0, 0, []),
  (30, .aload_n 0, 1, 0, 0, 0, []),
  (31, .bipush 15, 2, 0, 0, 0, []),
  (33, .invokevirtual 76, 3, 63, 6, 0, [2, 0, 0, 0, 2]),
  (36, .aload_n 0, 1, 0, 0, 0, []),
  (37, .aload_n 0, 1, 0, 0, 0, []),
  (38, .getfield 23, 3, 6, 1, 1, []),
  (41, .getfield 114, 3, 3, 9, 9, []),
  (44, .iload_n 1, 1, 0, 0, 0, []),
  (45, .baload, 1, 0, 0, 0, []),
  (46, .ifCond .eq 9, 3, 30, 0, 0, []),
  (49, .sipush 129, 3, 0, 0, 0, []),
  (52, .goto 6, 3, 31, 0, 0, []),
  (55, .sipush 128, 3, 0, 0, 0, []),
  (58, .invokevirtual 76, 3, 63, 6, 0, [2, 0, 0, 0, 2]),
  (61, .aload_n 0, 1, 0, 0, 0, []),
  (62, .aload_n 0, 1, 0, 0, 0, []),
  (63, .getfield 23, 3, 6, 1, 1, []),
  (66, .iload_n 2, 1, 0, 0, 0, []),
  (67, .invokevirtual 117, 3, 34, 3, 0, [2, 0, 0, 1, 2]),
  (70, .invokevirtual 89, 3, 65, 6, 0, [2, 0, 0, 0, 2]),
  (73, .goto 38, 3, 56, 0, 0, []),
  (76, .aload_n 0, 1, 0, 0, 0, []),
  (77, .aload_n 0, 1, 0, 0, 0, []),
  (78, .getfield 23, 3, 6, 1, 1, []),
  (81, .getfield 114, 3, 3, 9, 9, []),
  (84, .iload_n 1, 1, 0, 0, 0, []),
  (85, .baload, 1, 0, 0, 0, []),
  (86, .ifCond .eq 8, 3, 48, 0, 0, []),
  (89, .bipush 113, 2, 0, 0, 0, []),
  (91, .goto 5, 3, 49, 0, 0, []),
  (94, .bipush 112, 2, 0, 0, 0, []),
  (96, .invokevirtual 76, 3, 63, 6, 0, [2, 0, 0, 0, 2]),
  (99, .aload_n 0, 1, 0, 0, 0, []),
  (100, .aload_n 0, 1, 0, 0, 0, []),
  (101, .getfield 23, 3, 6, 1, 1, []),
  (104, .iload_n 2, 1, 0, 0, 0, []),
  (105, .invokevirtual 117, 3, 34, 3, 0, [2, 0, 0, 1, 2]),
  (108, .invokevirtual 76, 3, 63, 6, 0, [2, 0, 0, 0, 2]),
  (111, .return_, 1, 0, 0, 0, [])]
/-- 69 FallRows$Picture.writeBlock(I)V -/
def k69 : List fr_E := [(0, .aload_n 0, 1, 0, 0, 0, []),
  (1, .aload_n 0, 1, 0, 0, 0, []),
  (2, .getfield 23, 3, 6, 1, 1, []),
  (5, .getfield 44, 3, 3, 4, 4, []),
  (8, .iload_n 1, 1, 0, 0, 0, []),
  (9, .iaload, 1, 0, 0, 0, []),
  (10, .sipush 144, 3, 0, 0, 0, []),
  (13, .invokevirtual 66, 3, 64, 6, 0, [3, 0, 0, 0, 4]),
  (16, .aload_n 0, 1, 0, 0, 0, []),
  (17, .aload_n 0, 1, 0, 0, 0, []),
  (18, .getfield 23, 3, 6, 1, 1, []),
  (21, .iload_n 1, 1, 0, 0, 0, []),
  (22, .invokevirtual 70, 3, 37, 3, 0, [2, 0, 0, 1, 2]),
  (25, .iload_n 1, 1, 0, 0, 0, []),
  (26, .invokevirtual 66, 3, 64, 6, 0, [3, 0, 0, 0, 4]),
  (29, .aload_n 0, 1, 0, 0, 0, []),
  (30, .getfield 19, 3, 6, 0, 0, []),
  (33, .getfield 73, 3, 7, 7, 7, []),
  (36, .iload_n 1, 1, 0, 0, 0, []),
  (37, .iaload, 1, 0, 0, 0, []),
  (38, .tableswitch 121 0 5 #[38, 48, 121, 121, 58, 66], 38, 64, 0, 0, [21, 25, 64, 64, 29, 33]),
  (76, .aload_n 0, 1, 0, 0, 0, []),
  (77, .sipush 195, 3, 0, 0, 0, []),
  (80, .invokevirtual 76, 3, 63, 6, 0, [2, 0, 0, 0, 2]),
  (83, .goto 90, 3, 74, 0, 0, []),
  (86, .aload_n 0, 1, 0, 0, 0, []),
  (87, .sipush 204, 3, 0, 0, 0, []),
  (90, .invokevirtual 76, 3, 63, 6, 0, [2, 0, 0, 0, 2]),
  (93, .goto 80, 3, 74, 0, 0, []),
  (96, .aload_n 0, 1, 0, 0, 0, []),
  (97, .iload_n 1, 1, 0, 0, 0, []),
  (98, .invokevirtual 79, 3, 66, 6, 0, [2, 0, 0, 0, 4]),
  (101, .goto 72, 3, 74, 0, 0, []),
  (104, .aload_n 0, 1, 0, 0, 0, []),
  (105, .sipush 232, 3, 0, 0, 0, []),
  (108, .invokevirtual 76, 3, 63, 6, 0, [2, 0, 0, 0, 2]),
  (111, .aload_n 0, 1, 0, 0, 0, []),
  (112, .aload_n 0, 1, 0, 0, 0, []),
  (113, .getfield 23, 3, 6, 1, 1, []),
  (116, .getfield 44, 3, 3, 4, 4, []),
  (119, .aload_n 0, 1, 0, 0, 0, []),
  (120, .getfield 19, 3, 6, 0, 0, []),
  (123, .aload_n 0, 1, 0, 0, 0, []),
  (124, .getfield 19, 3, 6, 0, 0, []),
  (127, .getfield 82, 3, 7, 9, 9, []),
  (130, .iload_n 1, 1, 0, 0, 0, []),
  (131, .iaload, 1, 0, 0, 0, []),
  (132, .iconst 0, 1, 0, 0, 0, []),
  (133, .invokevirtual 85, 3, 8, 7, 0, [3, 0, 0, 1, 3]),
  (136, .iaload, 1, 0, 0, 0, []),
  (137, .aload_n 0, 1, 0, 0, 0, []),
  (138, .getfield 31, 3, 6, 5, 5, []),
  (141, .iconst 4, 1, 0, 0, 0, []),
  (142, .iadd, 1, 0, 0, 0, []),
  (143, .isub, 1, 0, 0, 0, []),
  (144, .invokevirtual 89, 3, 65, 6, 0, [2, 0, 0, 0, 2]),
  (147, .aload_n 0, 1, 0, 0, 0, []),
  (148, .iconst 2, 1, 0, 0, 0, []),
  (149, .iload_n 1, 1, 0, 0, 0, []),
  (150, .imul, 1, 0, 0, 0, []),
  (151, .iconst 1, 1, 0, 0, 0, []),
  (152, .iadd, 1, 0, 0, 0, []),
  (153, .invokevirtual 92, 3, 67, 6, 0, [2, 0, 0, 0, 2]),
  (156, .goto 17, 3, 74, 0, 0, []),
  (159, .aload_n 0, 1, 0, 0, 0, []),
  (160, .iload_n 1, 1, 0, 0, 0, []),
  (161, .invokevirtual 95, 3, 68, 6, 0, [2, 0, 0, 0, 3]),
  (164, .aload_n 0, 1, 0, 0, 0, []),
  (165, .iconst 2, 1, 0, 0, 0, []),
  (166, .iload_n 1, 1, 0, 0, 0, []),
  (167, .imul, 1, 0, 0, 0, []),
  (168, .iconst 1, 1, 0, 0, 0, []),
  (169, .iadd, 1, 0, 0, 0, []),
  (170, .invokevirtual 92, 3, 67, 6, 0, [2, 0, 0, 0, 2]),
  (173, .return_, 1, 0, 0, 0, [])]
/-- 70 FallRows$Picture.writeGuard(I)V -/
def k70 : List fr_E := [(0, .aload_n 0, 1, 0, 0, 0, []),
  (1, .getfield 15, 3, 6, 3, 3, []),
  (4, .iload_n 1, 1, 0, 0, 0, []),
  (5, .iconst (-1), 1, 0, 0, 0, []),
  (6, .iastore, 1, 0, 0, 0, []),
  (7, .aload_n 0, 1, 0, 0, 0, []),
  (8, .getfield 19, 3, 6, 0, 0, []),
  (11, .getfield 73, 3, 7, 7, 7, []),
  (14, .iload_n 1, 1, 0, 0, 0, []),
  (15, .iaload, 1, 0, 0, 0, []),
  (16, .bipush 6, 2, 0, 0, 0, []),
  (18, .if_icmp .ne 47, 3, 36, 0, 0, []),
  (21, .aload_n 0, 1, 0, 0, 0, []),
  (22, .getfield 15, 3, 6, 3, 3, []),
  (25, .iload_n 1, 1, 0, 0, 0, []),
  (26, .aload_n 0, 1, 0, 0, 0, []),
  (27, .getfield 31, 3, 6, 5, 5, []),
  (30, .iastore, 1, 0, 0, 0, []),
  (31, .aload_n 0, 1, 0, 0, 0, []),
  (32, .aload_n 0, 1, 0, 0, 0, []),
  (33, .getfield 23, 3, 6, 1, 1, []),
  (36, .getfield 44, 3, 3, 4, 4, []),
  (39, .iload_n 1, 1, 0, 0, 0, []),
  (40, .iaload, 1, 0, 0, 0, []),
  (41, .invokevirtual 89, 3, 65, 6, 0, [2, 0, 0, 0, 2]),
  (44, .aload_n 0, 1, 0, 0, 0, []),
  (45, .aload_n 0, 1, 0, 0, 0, []),
  (46, .getfield 23, 3, 6, 1, 1, []),
  (49, .getfield 44, 3, 3, 4, 4, []),
  (52, .aload_n 0, 1, 0, 0, 0, []),
  (53, .getfield 19, 3, 6, 0, 0, []),
  (56, .iload_n 1, 1, 0, 0, 0, []),
  (57, .iconst 1, 1, 0, 0, 0, []),
  (58, .invokevirtual 104, 3, 13, 7, 0, [3, 0, 0, 1, 3]),
  (61, .iaload, 1, 0, 0, 0, []),
  (62, .invokevirtual 89, 3, 65, 6, 0, [2, 0, 0, 0, 2]),
  (65, .return_, 1, 0, 0, 0, [])]
/-- 71 FallRows$Picture.refresh()V -/
def k71 : List fr_E := [(0, .aload_n 0, 1, 0, 0, 0, []),
  (1, .getfield 23, 3, 6, 1, 1, []),
  (4, .invokevirtual 49, 3, 36, 3, 0, [1, 0, 0, 0, 2]),
  (7, .aload_n 0, 1, 0, 0, 0, []),
  (8, .getfield 27, 3, 6, 4, 4, []),
  (11, .aload_n 0, 1, 0, 0, 0, []),
  (12, .getfield 23, 3, 6, 1, 1, []),
  (15, .getfield 52, 3, 3, 17, 17, []),
  (18, .if_icmp .ne 4, 3, 10, 0, 0, []),
  (21, .return_, 1, 0, 0, 0, []),
  (22, .aload_n 0, 1, 0, 0, 0, []),
  (23, .aload_n 0, 1, 0, 0, 0, []),
  (24, .getfield 23, 3, 6, 1, 1, []),
  (27, .getfield 52, 3, 3, 17, 17, []),
  (30, .putfield 27, 3, 6, 4, 4, []),
  (33, .aload_n 0, 1, 0, 0, 0, []),
  (34, .iconst 0, 1, 0, 0, 0, []),
  (35, .putfield 31, 3, 6, 5, 5, []),
  (38, .iconst 0, 1, 0, 0, 0, []),
  (39, .istore_n 1, 1, 0, 0, 0, []),
  (40, .iload_n 1, 1, 0, 0, 0, []),
  (41, .aload_n 0, 1, 0, 0, 0, []),
  (42, .getfield 19, 3, 6, 0, 0, []),
  (45, .getfield 53, 3, 7, 1, 1, []),
  (48, .if_icmp .ge 22, 3, 34, 0, 0, []),
  (51, .aload_n 0, 1, 0, 0, 0, []),
  (52, .aload_n 0, 1, 0, 0, 0, []),
  (53, .getfield 23, 3, 6, 1, 1, []),
  (56, .getfield 56, 3, 3, 2, 2, []),
  (59, .iload_n 1, 1, 0, 0, 0, []),
  (60, .iaload, 1, 0, 0, 0, []),
  (61, .invokevirtual 59, 3, 69, 6, 0, [2, 0, 0, 0, 2]),
  (64, .iinc 1 1, 3, 0, 0, 0, []),
  (67, .goto (-27), 3, 20, 0, 0, []),
  (70, .iconst 0, 1, 0, 0, 0, []),
  (71, .istore_n 1, 1, 0, 0, 0, []),
  (72, .iload_n 1, 1, 0, 0, 0, []),
  (73, .aload_n 0, 1, 0, 0, 0, []),
  (74, .getfield 19, 3, 6, 0, 0, []),
  (77, .getfield 53, 3, 7, 1, 1, []),
  (80, .if_icmp .ge 22, 3, 50, 0, 0, []),
  (83, .aload_n 0, 1, 0, 0, 0, []),
  (84, .aload_n 0, 1, 0, 0, 0, []),
  (85, .getfield 23, 3, 6, 1, 1, []),
  (88, .getfield 56, 3, 3, 2, 2, []),
  (91, .iload_n 1, 1, 0, 0, 0, []),
  (92, .iaload, 1, 0, 0, 0, []),
  (93, .invokevirtual 63, 3, 70, 6, 0, [2, 0, 0, 0, 2]),
  (96, .iinc 1 1, 3, 0, 0, 0, []),
  (99, .goto (-27), 3, 36, 0, 0, []),
  (102, .return_, 1, 0, 0, 0, [])]
/-- 72 FallRows$Program.<init>()V -/
def k72 : List fr_E := [(0, .aload_n 0, 1, 0, 0, 0, []),
  (1, .invokespecial 3, 3, 999, 0, 0, []),
  (4, .aload_n 0, 1, 0, 0, 0, []),
  (5, .bipush 6, 2, 0, 0, 0, []),
  (7, .newarray .int, 2, 0, 0, 0, []),
  (9, .putfield 9, 3, 7, 2, 2, [2]),
  (12, .aload_n 0, 1, 0, 0, 0, []),
  (13, .bipush 54, 2, 0, 0, 0, []),
  (15, .newarray .int, 2, 0, 0, 0, []),
  (17, .putfield 15, 3, 7, 3, 3, [2]),
  (20, .aload_n 0, 1, 0, 0, 0, []),
  (21, .bipush 40, 2, 0, 0, 0, []),
  (23, .newarray .int, 2, 0, 0, 0, []),
  (25, .putfield 18, 3, 7, 4, 4, [2]),
  (28, .aload_n 0, 1, 0, 0, 0, []),
  (29, .bipush 40, 2, 0, 0, 0, []),
  (31, .newarray .int, 2, 0, 0, 0, []),
  (33, .putfield 21, 3, 7, 5, 5, [2]),
  (36, .aload_n 0, 1, 0, 0, 0, []),
  (37, .bipush 40, 2, 0, 0, 0, []),
  (39, .newarray .int, 2, 0, 0, 0, []),
  (41, .putfield 24, 3, 7, 6, 6, [2]),
  (44, .aload_n 0, 1, 0, 0, 0, []),
  (45, .bipush 40, 2, 0, 0, 0, []),
  (47, .newarray .int, 2, 0, 0, 0, []),
  (49, .putfield 27, 3, 7, 7, 7, [2]),
  (52, .aload_n 0, 1, 0, 0, 0, []),
  (53, .bipush 40, 2, 0, 0, 0, []),
  (55, .newarray .int, 2, 0, 0, 0, []),
  (57, .putfield 30, 3, 7, 8, 8, [2]),
  (60, .aload_n 0, 1, 0, 0, 0, []),
  (61, .bipush 40, 2, 0, 0, 0, []),
  (63, .newarray .int, 2, 0, 0, 0, []),
  (65, .putfield 33, 3, 7, 9, 9, [2]),
  (68, .aload_n 0, 1, 0, 0, 0, []),
  (69, .bipush 40, 2, 0, 0, 0, []),
  (71, .newarray .boolean, 2, 1, 0, 0, []),
  (73, .putfield 36, 3, 7, 10, 10, [2]),
  (76, .aload_n 0, 1, 0, 0, 0, []),
  (77, .sipush 160, 3, 0, 0, 0, []),
  (80, .newarray .int, 2, 0, 0, 0, []),
  (82, .putfield 40, 3, 7, 11, 11, [2]),
  (85, .aload_n 0, 1, 0, 0, 0, []),
  (86, .sipush 160, 3, 0, 0, 0, []),
  (89, .newarray .int, 2, 0, 0, 0, []),
  (91, .putfield 43, 3, 7, 12, 12, [2]),
  (94, .aload_n 0, 1, 0, 0, 0, []),
  (95, .iconst 0, 1, 0, 0, 0, []),
  (96, .putfield 46, 3, 7, 0, 0, []),
  (99, .aload_n 0, 1, 0, 0, 0, []),
  (100, .iconst 0, 1, 0, 0, 0, []),
  (101, .putfield 50, 3, 7, 1, 1, []),
  (104, .return_, 1, 0, 0, 0, [])]
/-- 73 FallRows$Program.isRoutine(I)Z -/
def k73 : List fr_E := [(0, .iload_n 1, 1, 0, 0, 0, []),
  (1, .ifCond .lt 15, 3, 8, 0, 0, []),
  (4, .iload_n 1, 1, 0, 0, 0, []),
  (5, .aload_n 0, 1, 0, 0, 0, []),
  (6, .getfield 46, 3, 7, 0, 0, []),
  (9, .if_icmp .ge 7, 3, 8, 0, 0, []),
  (12, .iconst 1, 1, 0, 0, 0, []),
  (13, .goto 4, 3, 9, 0, 0, []),
  (16, .iconst 0, 1, 0, 0, 0, []),
  (17, .ireturn, 1, 1, 0, 0, [])]
/-- 74 FallRows$Program.hasBlocks(I)Z -/
def k74 : List fr_E := [(0, .aload_n 0, 1, 0, 0, 0, []),
  (1, .iload_n 1, 1, 0, 0, 0, []),
  (2, .invokevirtual 53, 3, 73, 7, 0, [2, 0, 0, 1, 2]),
  (5, .ifCond .eq 16, 3, 11, 0, 0, []),
  (8, .aload_n 0, 1, 0, 0, 0, []),
  (9, .getfield 9, 3, 7, 2, 2, []),
  (12, .iload_n 1, 1, 0, 0, 0, []),
  (13, .iaload, 1, 0, 0, 0, []),
  (14, .ifCond .le 7, 3, 11, 0, 0, []),
  (17, .iconst 1, 1, 0, 0, 0, []),
  (18, .goto 4, 3, 12, 0, 0, []),
  (21, .iconst 0, 1, 0, 0, 0, []),
  (22, .ireturn, 1, 1, 0, 0, [])]
/-- 75 FallRows$Program.isBlockOf(II)Z -/
def k75 : List fr_E := [(0, .aload_n 0, 1, 0, 0, 0, []),
  (1, .iload_n 2, 1, 0, 0, 0, []),
  (2, .invokevirtual 57, 3, 61, 7, 0, [2, 0, 0, 1, 2]),
  (5, .ifCond .eq 17, 3, 12, 0, 0, []),
  (8, .aload_n 0, 1, 0, 0, 0, []),
  (9, .getfield 18, 3, 7, 4, 4, []),
  (12, .iload_n 2, 1, 0, 0, 0, []),
  (13, .iaload, 1, 0, 0, 0, []),
  (14, .iload_n 1, 1, 0, 0, 0, []),
  (15, .if_icmp .ne 7, 3, 12, 0, 0, []),
  (18, .iconst 1, 1, 0, 0, 0, []),
  (19, .goto 4, 3, 13, 0, 0, []),
  (22, .iconst 0, 1, 0, 0, 0, []),
  (23, .ireturn, 1, 1, 0, 0, [])]
/-- 76 FallRows$Program.addRoutine()I -/
def k76 : List fr_E := [(0, .aload_n 0, 1, 0, 0, 0, []),
  (1, .getfield 46, 3, 7, 0, 0, []),
  (4, .istore_n 1, 1, 0, 0, 0, []),
  (5, .aload_n 0, 1, 0, 0, 0, []),
  (6, .dup, 1, 0, 0, 0, []),
  (7, .getfield 46, 3, 7, 0, 0, []),
  (10, .iconst 1, 1, 0, 0, 0, []),
  (11, .iadd, 1, 0, 0, 0, []),
  (12, .putfield 46, 3, 7, 0, 0, []),
  (15, .iload_n 1, 1, 0, 0, 0, []),
  (16, .ireturn, 1, 0, 0, 0, [])]
/-- 77 FallRows$Program.addBlock(II)I -/
def k77 : List fr_E := [(0, .aload_n 0, 1, 0, 0, 0, []),
  (1, .getfield 50, 3, 7, 1, 1, []),
  (4, .istore_n 3, 1, 0, 0, 0, []),
  (5, .aload_n 0, 1, 0, 0, 0, []),
  (6, .dup, 1, 0, 0, 0, []),
  (7, .getfield 50, 3, 7, 1, 1, []),
  (10, .iconst 1, 1, 0, 0, 0, []),
  (11, .iadd, 1, 0, 0, 0, []),
  (12, .putfield 50, 3, 7, 1, 1, []),
  (15, .aload_n 0, 1, 0, 0, 0, []),
  (16, .getfield 18, 3, 7, 4, 4, []),
  (19, .iload_n 3, 1, 0, 0, 0, []),
  (20, .iload_n 1, 1, 0, 0, 0, []),
  (21, .iastore, 1, 0, 0, 0, []),
  (22, .aload_n 0, 1, 0, 0, 0, []),
  (23, .getfield 21, 3, 7, 5, 5, []),
  (26, .iload_n 3, 1, 0, 0, 0, []),
  (27, .aload_n 0, 1, 0, 0, 0, []),
  (28, .getfield 9, 3, 7, 2, 2, []),
  (31, .iload_n 1, 1, 0, 0, 0, []),
  (32, .iaload, 1, 0, 0, 0, []),
  (33, .iastore, 1, 0, 0, 0, []),
  (34, .aload_n 0, 1, 0, 0, 0, []),
  (35, .getfield 15, 3, 7, 3, 3, []),
  (38, .iload_n 1, 1, 0, 0, 0, []),
  (39, .bipush 9, 2, 0, 0, 0, []),
  (41, .imul, 1, 0, 0, 0, []),
  (42, .aload_n 0, 1, 0, 0, 0, []),
  (43, .getfield 9, 3, 7, 2, 2, []),
  (46, .iload_n 1, 1, 0, 0, 0, []),
  (47, .iaload, 1, 0, 0, 0, []),
  (48, .iadd, 1, 0, 0, 0, []),
  (49, .iload_n 3, 1, 0, 0, 0, []),
  (50, .iastore, 1, 0, 0, 0, []),
  (51, .aload_n 0, 1, 0, 0, 0, []),
  (52, .getfield 9, 3, 7, 2, 2, []),
  (55, .iload_n 1, 1, 0, 0, 0, []),
  (56, .dup2, 1, 0, 0, 0, []),
  (57, .iaload, 1, 0, 0, 0, []),
  (58, .iconst 1, 1, 0, 0, 0, []),
  (59, .iadd, 1, 0, 0, 0, []),
  (60, .iastore, 1, 0, 0, 0, []),
  (61, .aload_n 0, 1, 0, 0, 0, []),
  (62, .getfield 24, 3, 7, 6, 6, []),
  (65, .iload_n 3, 1, 0, 0, 0, []),
  (66, .iload_n 2, 1, 0, 0, 0, []),
  (67, .iastore, 1, 0, 0, 0, []),
  (68, .aload_n 0, 1, 0, 0, 0, []),
  (69, .getfield 27, 3, 7, 7, 7, []),
  (72, .iload_n 3, 1, 0, 0, 0, []),
  (73, .iconst 0, 1, 0, 0, 0, []),
  (74, .iastore, 1, 0, 0, 0, []),
  (75, .iload_n 3, 1, 0, 0, 0, []),
  (76, .ireturn, 1, 0, 0, 0, [])]
/-- 78 FallRows$Program.tellEnd(II[II)V -/
def k78 : List fr_E := [(0, .aload_n 0, 1, 0, 0, 0, []),
  (1, .getfield 27, 3, 7, 7, 7, []),
  (4, .iload_n 1, 1, 0, 0, 0, []),
  (5, .iload_n 2, 1, 0, 0, 0, []),
  (6, .iastore, 1, 0, 0, 0, []),
  (7, .aload_n 0, 1, 0, 0, 0, []),
  (8, .getfield 30, 3, 7, 8, 8, []),
  (11, .iload_n 1, 1, 0, 0, 0, []),
  (12, .iload 4, 2, 0, 0, 0, []),
  (14, .iastore, 1, 0, 0, 0, []),
  (15, .aload_n 0, 1, 0, 0, 0, []),
  (16, .getfield 33, 3, 7, 9, 9, []),
  (19, .iload_n 1, 1, 0, 0, 0, []),
  (20, .iload_n 2, 1, 0, 0, 0, []),
  (21, .iconst 5, 1, 0, 0, 0, []),
  (22, .if_icmp .ne 9, 3, 20, 0, 0, []),
  (25, .aload_n 3, 1, 0, 0, 0, []),
  (26, .iconst 1, 1, 0, 0, 0, []),
  (27, .iaload, 1, 0, 0, 0, []),
  (28, .goto 4, 3, 21, 0, 0, []),
  (31, .iconst (-1), 1, 0, 0, 0, []),
  (32, .iastore, 1, 0, 0, 0, []),
  (33, .iconst 0, 1, 0, 0, 0, []),
  (34, .istore 5, 2, 0, 0, 0, []),
  (36, .iload 5, 2, 0, 0, 0, []),
  (38, .iconst 4, 1, 0, 0, 0, []),
  (39, .if_icmp .ge 47, 3, 54, 0, 0, []),
  (42, .aload_n 0, 1, 0, 0, 0, []),
  (43, .getfield 40, 3, 7, 11, 11, []),
  (46, .iload_n 1, 1, 0, 0, 0, []),
  (47, .iconst 4, 1, 0, 0, 0, []),
  (48, .imul, 1, 0, 0, 0, []),
  (49, .iload 5, 2, 0, 0, 0, []),
  (51, .iadd, 1, 0, 0, 0, []),
  (52, .iload 5, 2, 0, 0, 0, []),
  (54, .iload 4, 2, 0, 0, 0, []),
  (56, .if_icmp .ge 10, 3, 41, 0, 0, []),
  (59, .aload_n 3, 1, 0, 0, 0, []),
  (60, .iload 5, 2, 0, 0, 0, []),
  (62, .iaload, 1, 0, 0, 0, []),
  (63, .goto 4, 3, 42, 0, 0, []),
  (66, .iconst (-1), 1, 0, 0, 0, []),
  (67, .iastore, 1, 0, 0, 0, []),
  (68, .aload_n 0, 1, 0, 0, 0, []),
  (69, .getfield 43, 3, 7, 12, 12, []),
  (72, .iload_n 1, 1, 0, 0, 0, []),
  (73, .iconst 4, 1, 0, 0, 0, []),
  (74, .imul, 1, 0, 0, 0, []),
  (75, .iload 5, 2, 0, 0, 0, []),
  (77, .iadd, 1, 0, 0, 0, []),
  (78, .iconst 0, 1, 0, 0, 0, []),
  (79, .iastore, 1, 0, 0, 0, []),
  (80, .iinc 5 1, 3, 0, 0, 0, []),
  (83, .goto (-47), 3, 24, 0, 0, []),
  (86, .return_, 1, 0, 0, 0, [])]
/-- 79 FallRows$Runner.<init>(LFallRows$Program;LFallRows$Layout;LFallRows$Picture;LFallRows$Tape;)V -/
def k79 : List fr_E := [(0, .aload_n 0, 1, 0, 0, 0, []),
  (1, .invokespecial 3, 3, 999, 0, 0, []),
  (4, .aload_n 0, 1, 0, 0, 0, []),
  (5, .aload_n 1, 1, 0, 0, 0, []),
  (6, .putfield 9, 3, 8, 0, 0, [2]),
  (9, .aload_n 0, 1, 0, 0, 0, []),
  (10, .aload_n 2, 1, 0, 0, 0, []),
  (11, .putfield 15, 3, 8, 1, 1, [2]),
  (14, .aload_n 0, 1, 0, 0, 0, []),
  (15, .aload_n 3, 1, 0, 0, 0, []),
  (16, .putfield 19, 3, 8, 2, 2, [2]),
  (19, .aload_n 0, 1, 0, 0, 0, []),
  (20, .aload 4, 2, 0, 0, 0, []),
  (22, .putfield 23, 3, 8, 3, 3, [2]),
  (25, .aload_n 0, 1, 0, 0, 0, []),
  (26, .iconst 0, 1, 0, 0, 0, []),
  (27, .putfield 27, 3, 8, 4, 4, []),
  (30, .aload_n 0, 1, 0, 0, 0, []),
  (31, .iconst 0, 1, 0, 0, 0, []),
  (32, .putfield 31, 3, 8, 5, 5, []),
  (35, .return_, 1, 0, 0, 0, [])]
/-- 80 FallRows$Tape.choiceAt(I)I -/
def k80 : List fr_E := [(0, .iload_n 1, 1, 0, 0, 0, []),
  (1, .ifCond .lt 24, 3, 13, 0, 0, []),
  (4, .iload_n 1, 1, 0, 0, 0, []),
  (5, .aload_n 0, 1, 0, 0, 0, []),
  (6, .getfield 15, 3, 9, 1, 1, []),
  (9, .if_icmp .ge 16, 3, 13, 0, 0, []),
  (12, .aload_n 0, 1, 0, 0, 0, []),
  (13, .getfield 9, 3, 9, 0, 0, []),
  (16, .iload_n 1, 1, 0, 0, 0, []),
  (17, .baload, 1, 0, 0, 0, []),
  (18, .sipush 255, 3, 0, 0, 0, []),
  (21, .iand, 1, 0, 0, 0, []),
  (22, .goto 4, 3, 14, 0, 0, []),
  (25, .iconst 0, 1, 0, 0, 0, []),
  (26, .ireturn, 1, 0, 0, 0, [])]
/-- 81 FallRows$Runner.choose(LFallRows$Trace;)I -/
def k81 : List fr_E := [(0, .aload_n 0, 1, 0, 0, 0, []),
  (1, .getfield 23, 3, 8, 3, 3, []),
  (4, .aload_n 1, 1, 0, 0, 0, []),
  (5, .getfield 34, 3, 10, 3, 3, []),
  (8, .invokevirtual 39, 3, 80, 9, 0, [2, 0, 0, 1, 2]),
  (11, .istore_n 2, 1, 0, 0, 0, []),
  (12, .aload_n 1, 1, 0, 0, 0, []),
  (13, .dup, 1, 0, 0, 0, []),
  (14, .getfield 34, 3, 10, 3, 3, []),
  (17, .iconst 1, 1, 0, 0, 0, []),
  (18, .iadd, 1, 0, 0, 0, []),
  (19, .putfield 34, 3, 10, 3, 3, []),
  (22, .iload_n 2, 1, 0, 0, 0, []),
  (23, .ireturn, 1, 0, 0, 0, [])]
/-- 82 java/util/Arrays.fill([II)V -/
def k82 : List fr_E := [(0, .iconst 0, 1, 0, 0, 0, []),
  (1, .istore_n 2, 1, 0, 0, 0, []),
  (2, .aload_n 0, 1, 0, 0, 0, []),
  (3, .arraylength, 1, 0, 0, 0, []),
  (4, .istore_n 3, 1, 0, 0, 0, []),
  (5, .iload_n 2, 1, 0, 0, 0, []),
  (6, .iload_n 3, 1, 0, 0, 0, []),
  (7, .if_icmp .ge 13, 3, 14, 0, 0, []),
  (10, .aload_n 0, 1, 0, 0, 0, []),
  (11, .iload_n 2, 1, 0, 0, 0, []),
  (12, .iload_n 1, 1, 0, 0, 0, []),
  (13, .iastore, 1, 0, 0, 0, []),
  (14, .iinc 2 1, 3, 0, 0, 0, []),
  (17, .goto (-12), 3, 5, 0, 0, []),
  (20, .return_, 1, 0, 0, 0, [])]
/-- 83 FallRows$Trace.begin()V -/
def k83 : List fr_E := [(0, .aload_n 0, 1, 0, 0, 0, []),
  (1, .iconst 1, 1, 0, 0, 0, []),
  (2, .putfield 30, 3, 10, 0, 0, [1]),
  (5, .aload_n 0, 1, 0, 0, 0, []),
  (6, .iconst 1, 1, 0, 0, 0, []),
  (7, .putfield 34, 3, 10, 1, 1, []),
  (10, .aload_n 0, 1, 0, 0, 0, []),
  (11, .iconst 0, 1, 0, 0, 0, []),
  (12, .putfield 38, 3, 10, 2, 2, []),
  (15, .aload_n 0, 1, 0, 0, 0, []),
  (16, .iconst 0, 1, 0, 0, 0, []),
  (17, .putfield 41, 3, 10, 3, 3, []),
  (20, .aload_n 0, 1, 0, 0, 0, []),
  (21, .iconst 0, 1, 0, 0, 0, []),
  (22, .putfield 44, 3, 10, 4, 4, []),
  (25, .aload_n 0, 1, 0, 0, 0, []),
  (26, .iconst 0, 1, 0, 0, 0, []),
  (27, .putfield 47, 3, 10, 5, 5, []),
  (30, .aload_n 0, 1, 0, 0, 0, []),
  (31, .iconst 0, 1, 0, 0, 0, []),
  (32, .putfield 50, 3, 10, 6, 6, []),
  (35, .aload_n 0, 1, 0, 0, 0, []),
  (36, .iconst 0, 1, 0, 0, 0, []),
  (37, .putfield 53, 3, 10, 7, 7, []),
  (40, .aload_n 0, 1, 0, 0, 0, []),
  (41, .iconst 0, 1, 0, 0, 0, []),
  (42, .putfield 56, 3, 10, 8, 8, []),
  (45, .aload_n 0, 1, 0, 0, 0, []),
  (46, .iconst 0, 1, 0, 0, 0, []),
  (47, .putfield 59, 3, 10, 9, 9, []),
  (50, .aload_n 0, 1, 0, 0, 0, []),
  (51, .getfield 18, 3, 10, 12, 12, []),
  (54, .iconst 0, 1, 0, 0, 0, []),
  (55, .invokestatic 62, 3, 82, 15, 0, [2, 0, 0, 0, 4]),
  (58, .return_, 1, 0, 0, 0, [])]
/-- 84 FallRows$Trace.pass(II)V -/
def k84 : List fr_E := [(0, .aload_n 0, 1, 0, 0, 0, []),
  (1, .getfield 38, 3, 10, 2, 2, []),
  (4, .sipush 200, 3, 0, 0, 0, []),
  (7, .if_icmp .ge 33, 3, 22, 0, 0, []),
  (10, .aload_n 0, 1, 0, 0, 0, []),
  (11, .getfield 9, 3, 10, 10, 10, []),
  (14, .aload_n 0, 1, 0, 0, 0, []),
  (15, .getfield 38, 3, 10, 2, 2, []),
  (18, .iload_n 1, 1, 0, 0, 0, []),
  (19, .iastore, 1, 0, 0, 0, []),
  (20, .aload_n 0, 1, 0, 0, 0, []),
  (21, .getfield 15, 3, 10, 11, 11, []),
  (24, .aload_n 0, 1, 0, 0, 0, []),
  (25, .getfield 38, 3, 10, 2, 2, []),
  (28, .iload_n 2, 1, 0, 0, 0, []),
  (29, .iastore, 1, 0, 0, 0, []),
  (30, .aload_n 0, 1, 0, 0, 0, []),
  (31, .dup, 1, 0, 0, 0, []),
  (32, .getfield 38, 3, 10, 2, 2, []),
  (35, .iconst 1, 1, 0, 0, 0, []),
  (36, .iadd, 1, 0, 0, 0, []),
  (37, .putfield 38, 3, 10, 2, 2, []),
  (40, .return_, 1, 0, 0, 0, [])]
/-- 85 FallRows$Runner.take(IILFallRows$Trace;)I -/
def k85 : List fr_E := [(0, .aload_n 3, 1, 0, 0, 0, []),
  (1, .getfield 101, 3, 10, 12, 12, []),
  (4, .iload_n 1, 1, 0, 0, 0, []),
  (5, .iconst 4, 1, 0, 0, 0, []),
  (6, .imul, 1, 0, 0, 0, []),
  (7, .iload_n 2, 1, 0, 0, 0, []),
  (8, .iadd, 1, 0, 0, 0, []),
  (9, .dup2, 1, 0, 0, 0, []),
  (10, .iaload, 1, 0, 0, 0, []),
  (11, .iconst 1, 1, 0, 0, 0, []),
  (12, .iadd, 1, 0, 0, 0, []),
  (13, .iastore, 1, 0, 0, 0, []),
  (14, .aload_n 0, 1, 0, 0, 0, []),
  (15, .getfield 9, 3, 8, 0, 0, []),
  (18, .iload_n 1, 1, 0, 0, 0, []),
  (19, .iload_n 2, 1, 0, 0, 0, []),
  (20, .invokevirtual 104, 3, 13, 7, 0, [3, 0, 0, 1, 3]),
  (23, .ireturn, 1, 0, 0, 0, [])]
/-- 86 FallRows$Trace.openCall(II)Z -/
def k86 : List fr_E := [(0, .aload_n 0, 1, 0, 0, 0, []),
  (1, .getfield 44, 3, 10, 4, 4, []),
  (4, .bipush 8, 2, 0, 0, 0, []),
  (6, .if_icmp .lt 5, 3, 6, 0, 0, []),
  (9, .iconst 0, 1, 0, 0, 0, []),
  (10, .ireturn, 1, 1, 0, 0, []),
  (11, .aload_n 0, 1, 0, 0, 0, []),
  (12, .getfield 21, 3, 10, 13, 13, []),
  (15, .aload_n 0, 1, 0, 0, 0, []),
  (16, .getfield 44, 3, 10, 4, 4, []),
  (19, .iload_n 1, 1, 0, 0, 0, []),
  (20, .iastore, 1, 0, 0, 0, []),
  (21, .aload_n 0, 1, 0, 0, 0, []),
  (22, .getfield 24, 3, 10, 14, 14, []),
  (25, .aload_n 0, 1, 0, 0, 0, []),
  (26, .getfield 44, 3, 10, 4, 4, []),
  (29, .iload_n 2, 1, 0, 0, 0, []),
  (30, .iastore, 1, 0, 0, 0, []),
  (31, .aload_n 0, 1, 0, 0, 0, []),
  (32, .dup, 1, 0, 0, 0, []),
  (33, .getfield 44, 3, 10, 4, 4, []),
  (36, .iconst 1, 1, 0, 0, 0, []),
  (37, .iadd, 1, 0, 0, 0, []),
  (38, .putfield 44, 3, 10, 4, 4, []),
  (41, .aload_n 0, 1, 0, 0, 0, []),
  (42, .aload_n 0, 1, 0, 0, 0, []),
  (43, .getfield 47, 3, 10, 5, 5, []),
  (46, .aload_n 0, 1, 0, 0, 0, []),
  (47, .getfield 44, 3, 10, 4, 4, []),
  (50, .invokestatic 68, 3, 996, 0, 0, []),
  (53, .putfield 47, 3, 10, 5, 5, []),
  (56, .iconst 1, 1, 0, 0, 0, []),
  (57, .ireturn, 1, 1, 0, 0, [])]
/-- 87 FallRows$Trace.stop(I)I -/
def k87 : List fr_E := [(0, .aload_n 0, 1, 0, 0, 0, []),
  (1, .iload_n 1, 1, 0, 0, 0, []),
  (2, .putfield 34, 3, 10, 1, 1, []),
  (5, .iconst (-1), 1, 0, 0, 0, []),
  (6, .ireturn, 1, 0, 0, 0, [])]
/-- 88 FallRows$Runner.goBack(LFallRows$Trace;)I -/
def k88 : List fr_E := [(0, .aload_n 1, 1, 0, 0, 0, []),
  (1, .getfield 95, 3, 10, 4, 4, []),
  (4, .ifCond .ne 9, 3, 7, 0, 0, []),
  (7, .aload_n 1, 1, 0, 0, 0, []),
  (8, .iconst 0, 1, 0, 0, 0, []),
  (9, .invokevirtual 56, 3, 87, 10, 0, [2, 0, 0, 1, 2]),
  (12, .ireturn, 1, 0, 0, 0, []),
  (13, .aload_n 1, 1, 0, 0, 0, []),
  (14, .dup, 1, 0, 0, 0, []),
  (15, .getfield 95, 3, 10, 4, 4, []),
  (18, .iconst 1, 1, 0, 0, 0, []),
  (19, .isub, 1, 0, 0, 0, []),
  (20, .putfield 95, 3, 10, 4, 4, []),
  (23, .aload_n 0, 1, 0, 0, 0, []),
  (24, .aload_n 1, 1, 0, 0, 0, []),
  (25, .getfield 98, 3, 10, 13, 13, []),
  (28, .aload_n 1, 1, 0, 0, 0, []),
  (29, .getfield 95, 3, 10, 4, 4, []),
  (32, .iaload, 1, 0, 0, 0, []),
  (33, .iconst 0, 1, 0, 0, 0, []),
  (34, .aload_n 1, 1, 0, 0, 0, []),
  (35, .invokevirtual 65, 3, 85, 8, 0, [4, 0, 0, 1, 4]),
  (38, .ireturn, 1, 0, 0, 0, [])]
/-- 89 FallRows$Runner.afterBlock(ILFallRows$Trace;)I -/
def k89 : List fr_E := [(0, .aload_n 0, 1, 0, 0, 0, []),
  (1, .getfield 9, 3, 8, 0, 0, []),
  (4, .getfield 59, 3, 7, 7, 7, []),
  (7, .iload_n 1, 1, 0, 0, 0, []),
  (8, .iaload, 1, 0, 0, 0, []),
  (9, .tableswitch 151 1 6 #[145, 39, 47, 61, 87, 122], 39, 74, 0, 0, [70, 6, 12, 22, 38, 57]),
  (48, .aload_n 0, 1, 0, 0, 0, []),
  (49, .iload_n 1, 1, 0, 0, 0, []),
  (50, .iconst 0, 1, 0, 0, 0, []),
  (51, .aload_n 2, 1, 0, 0, 0, []),
  (52, .invokevirtual 65, 3, 85, 8, 0, [4, 0, 0, 1, 4]),
  (55, .ireturn, 1, 0, 0, 0, []),
  (56, .aload_n 0, 1, 0, 0, 0, []),
  (57, .iload_n 1, 1, 0, 0, 0, []),
  (58, .aload_n 0, 1, 0, 0, 0, []),
  (59, .aload_n 2, 1, 0, 0, 0, []),
  (60, .invokevirtual 69, 3, 81, 8, 0, [2, 0, 0, 1, 3]),
  (63, .iconst 1, 1, 0, 0, 0, []),
  (64, .iand, 1, 0, 0, 0, []),
  (65, .aload_n 2, 1, 0, 0, 0, []),
  (66, .invokevirtual 65, 3, 85, 8, 0, [4, 0, 0, 1, 4]),
  (69, .ireturn, 1, 0, 0, 0, []),
  (70, .aload_n 0, 1, 0, 0, 0, []),
  (71, .iload_n 1, 1, 0, 0, 0, []),
  (72, .aload_n 0, 1, 0, 0, 0, []),
  (73, .aload_n 2, 1, 0, 0, 0, []),
  (74, .invokevirtual 69, 3, 81, 8, 0, [2, 0, 0, 1, 3]),
  (77, .iconst 1, 1, 0, 0, 0, []),
  (78, .aload_n 0, 1, 0, 0, 0, []),
  (79, .getfield 9, 3, 8, 0, 0, []),
  (82, .getfield 73, 3, 7, 8, 8, []),
  (85, .iload_n 1, 1, 0, 0, 0, []),
  (86, .iaload, 1, 0, 0, 0, []),
  (87, .invokestatic 76, 3, 996, 0, 0, []),
  (90, .irem, 1, 0, 0, 0, []),
  (91, .aload_n 2, 1, 0, 0, 0, []),
  (92, .invokevirtual 65, 3, 85, 8, 0, [4, 0, 0, 1, 4]),
  (95, .ireturn, 1, 0, 0, 0, []),
  (96, .aload_n 2, 1, 0, 0, 0, []),
  (97, .iload_n 1, 1, 0, 0, 0, []),
  (98, .iconst 0, 1, 0, 0, 0, []),
  (99, .invokevirtual 82, 3, 86, 10, 0, [3, 0, 0, 1, 3]),
  (102, .ifCond .eq 23, 3, 53, 0, 0, []),
  (105, .aload_n 0, 1, 0, 0, 0, []),
  (106, .getfield 9, 3, 8, 0, 0, []),
  (109, .aload_n 0, 1, 0, 0, 0, []),
  (110, .getfield 9, 3, 8, 0, 0, []),
  (113, .getfield 86, 3, 7, 9, 9, []),
  (116, .iload_n 1, 1, 0, 0, 0, []),
  (117, .iaload, 1, 0, 0, 0, []),
  (118, .iconst 0, 1, 0, 0, 0, []),
  (119, .invokevirtual 89, 3, 8, 7, 0, [3, 0, 0, 1, 3]),
  (122, .goto 8, 3, 56, 0, 0, []),
  (125, .aload_n 2, 1, 0, 0, 0, []),
  (126, .iconst 2, 1, 0, 0, 0, []),
  (127, .invokevirtual 56, 3, 87, 10, 0, [2, 0, 0, 1, 2]),
  (130, .ireturn, 1, 0, 0, 0, []),
  (131, .aload_n 0, 1, 0, 0, 0, []),
  (132, .iload_n 1, 1, 0, 0, 0, []),
  (133, .aload_n 0, 1, 0, 0, 0, []),
  (134, .aload_n 2, 1, 0, 0, 0, []),
  (135, .invokevirtual 69, 3, 81, 8, 0, [2, 0, 0, 1, 3]),
  (138, .sipush 255, 3, 0, 0, 0, []),
  (141, .if_icmp .ne 7, 3, 66, 0, 0, []),
  (144, .iconst 1, 1, 0, 0, 0, []),
  (145, .goto 4, 3, 67, 0, 0, []),
  (148, .iconst 0, 1, 0, 0, 0, []),
  (149, .aload_n 2, 1, 0, 0, 0, []),
  (150, .invokevirtual 65, 3, 85, 8, 0, [4, 0, 0, 1, 4]),
  (153, .ireturn, 1, 0, 0, 0, []),
  (154, .aload_n 2, 1, 0, 0, 0, []),
  (155, .iconst 1, 1, 0, 0, 0, []),
  (156, .invokevirtual 56, 3, 87, 10, 0, [2, 0, 0, 1, 2]),
  (159, .ireturn, 1, 0, 0, 0, []),
  (160, .aload_n 0, 1, 0, 0, 0, []),
  (161, .aload_n 2, 1, 0, 0, 0, []),
  (162, .invokevirtual 92, 3, 88, 8, 0, [2, 0, 0, 1, 2]),
  (165, .ireturn, 1, 0, 0, 0, [])]
/-- 90 FallRows$Runner.runBlocks(ILFallRows$Trace;)V -/
def k90 : List fr_E := [(0, .aload_n 2, 1, 0, 0, 0, []),
  (1, .invokevirtual 45, 3, 83, 10, 0, [1, 0, 0, 0, 1]),
  (4, .iload_n 1, 1, 0, 0, 0, []),
  (5, .istore_n 3, 1, 0, 0, 0, []),
  (6, .iconst 0, 1, 0, 0, 0, []),
  (7, .istore 4, 2, 0, 0, 0, []),
  (9, .iload 4, 2, 0, 0, 0, []),
  (11, .sipush 200, 3, 0, 0, 0, []),
  (14, .if_icmp .ge 27, 3, 23, 0, 0, []),
  (17, .iload_n 3, 1, 0, 0, 0, []),
  (18, .iconst (-1), 1, 0, 0, 0, []),
  (19, .if_icmp .eq 22, 3, 23, 0, 0, []),
  (22, .aload_n 2, 1, 0, 0, 0, []),
  (23, .iload_n 3, 1, 0, 0, 0, []),
  (24, .iconst 0, 1, 0, 0, 0, []),
  (25, .invokevirtual 48, 3, 84, 10, 0, [3, 0, 0, 0, 3]),
  (28, .aload_n 0, 1, 0, 0, 0, []),
  (29, .iload_n 3, 1, 0, 0, 0, []),
  (30, .aload_n 2, 1, 0, 0, 0, []),
  (31, .invokevirtual 52, 3, 89, 8, 0, [3, 0, 0, 1, 3]),
  (34, .istore_n 3, 1, 0, 0, 0, []),
  (35, .iinc 4 1, 3, 0, 0, 0, []),
  (38, .goto (-29), 3, 6, 0, 0, []),
  (41, .iload_n 3, 1, 0, 0, 0, []),
  (42, .iconst (-1), 1, 0, 0, 0, []),
  (43, .if_icmp .eq 9, 3, 30, 0, 0, []),
  (46, .aload_n 2, 1, 0, 0, 0, []),
  (47, .iconst 3, 1, 0, 0, 0, []),
  (48, .invokevirtual 56, 3, 87, 10, 0, [2, 0, 0, 1, 2]),
  (51, .pop, 1, 0, 0, 0, []),
  (52, .return_, 1, 0, 0, 0, [])]
/-- 91 FallRows$Runner.leave(I)Z -/
def k91 : List fr_E := [(0, .aload_n 0, 1, 0, 0, 0, []),
  (1, .iload_n 1, 1, 0, 0, 0, []),
  (2, .putfield 31, 3, 8, 5, 5, []),
  (5, .iconst 0, 1, 0, 0, 0, []),
  (6, .ireturn, 1, 1, 0, 0, [])]
/-- 92 FallRows$Runner.readTest(LFallRows$Trace;ZII)Z -/
def k92 : List fr_E := [(0, .aload_n 0, 1, 0, 0, 0, []),
  (1, .aload_n 1, 1, 0, 0, 0, []),
  (2, .invokevirtual 69, 3, 81, 8, 0, [2, 0, 0, 1, 3]),
  (5, .iconst 1, 1, 0, 0, 0, []),
  (6, .iand, 1, 0, 0, 0, []),
  (7, .iconst 1, 1, 0, 0, 0, []),
  (8, .if_icmp .ne 7, 3, 9, 0, 0, []),
  (11, .iconst 1, 1, 0, 0, 0, []),
  (12, .goto 4, 3, 10, 0, 0, []),
  (15, .iconst 0, 1, 0, 0, 0, []),
  (16, .istore 5, 2, 0, 0, 0, []),
  (18, .iload 5, 2, 0, 0, 0, []),
  (20, .iload_n 2, 1, 0, 0, 0, []),
  (21, .if_icmp .ne 22, 3, 26, 0, 0, []),
  (24, .aload_n 1, 1, 0, 0, 0, []),
  (25, .dup, 1, 0, 0, 0, []),
  (26, .getfield 165, 3, 10, 7, 7, []),
  (29, .iconst 1, 1, 0, 0, 0, []),
  (30, .iadd, 1, 0, 0, 0, []),
  (31, .putfield 165, 3, 10, 7, 7, []),
  (34, .aload_n 0, 1, 0, 0, 0, []),
  (35, .iload_n 3, 1, 0, 0, 0, []),
  (36, .iload 4, 2, 0, 0, 0, []),
  (38, .iadd, 1, 0, 0, 0, []),
  (39, .invokevirtual 151, 3, 91, 8, 0, [2, 0, 0, 1, 2]),
  (42, .ireturn, 1, 1, 0, 0, []),
  (43, .aload_n 1, 1, 0, 0, 0, []),
  (44, .dup, 1, 0, 0, 0, []),
  (45, .getfield 168, 3, 10, 8, 8, []),
  (48, .iconst 1, 1, 0, 0, 0, []),
  (49, .iadd, 1, 0, 0, 0, []),
  (50, .putfield 168, 3, 10, 8, 8, []),
  (53, .aload_n 0, 1, 0, 0, 0, []),
  (54, .iload_n 3, 1, 0, 0, 0, []),
  (55, .putfield 31, 3, 8, 5, 5, []),
  (58, .iconst 1, 1, 0, 0, 0, []),
  (59, .ireturn, 1, 1, 0, 0, [])]
/-- 93 FallRows$Runner.readTable(LFallRows$Trace;)Z -/
def k93 : List fr_E := [(0, .aload_n 0, 1, 0, 0, 0, []),
  (1, .getfield 31, 3, 8, 5, 5, []),
  (4, .invokestatic 171, 3, 30, 3, 0, [1, 0, 0, 1, 1]),
  (7, .istore_n 2, 1, 0, 0, 0, []),
  (8, .iconst 1, 1, 0, 0, 0, []),
  (9, .aload_n 0, 1, 0, 0, 0, []),
  (10, .getfield 15, 3, 8, 1, 1, []),
  (13, .getfield 132, 3, 3, 5, 5, []),
  (16, .aload_n 0, 1, 0, 0, 0, []),
  (17, .getfield 27, 3, 8, 4, 4, []),
  (20, .iaload, 1, 0, 0, 0, []),
  (21, .iload_n 2, 1, 0, 0, 0, []),
  (22, .isub, 1, 0, 0, 0, []),
  (23, .iconst 4, 1, 0, 0, 0, []),
  (24, .idiv, 1, 0, 0, 0, []),
  (25, .invokestatic 76, 3, 996, 0, 0, []),
  (28, .istore_n 3, 1, 0, 0, 0, []),
  (29, .aload_n 0, 1, 0, 0, 0, []),
  (30, .aload_n 0, 1, 0, 0, 0, []),
  (31, .getfield 19, 3, 8, 2, 2, []),
  (34, .iload_n 2, 1, 0, 0, 0, []),
  (35, .iconst 4, 1, 0, 0, 0, []),
  (36, .aload_n 0, 1, 0, 0, 0, []),
  (37, .aload_n 1, 1, 0, 0, 0, []),
  (38, .invokevirtual 69, 3, 81, 8, 0, [2, 0, 0, 1, 3]),
  (41, .iload_n 3, 1, 0, 0, 0, []),
  (42, .irem, 1, 0, 0, 0, []),
  (43, .imul, 1, 0, 0, 0, []),
  (44, .iadd, 1, 0, 0, 0, []),
  (45, .invokevirtual 123, 3, 60, 6, 0, [2, 0, 0, 1, 2]),
  (48, .invokevirtual 151, 3, 91, 8, 0, [2, 0, 0, 1, 2]),
  (51, .ireturn, 1, 1, 0, 0, [])]
/-- 94 FallRows$Runner.readBack(LFallRows$Trace;)Z -/
def k94 : List fr_E := [(0, .aload_n 1, 1, 0, 0, 0, []),
  (1, .getfield 95, 3, 10, 4, 4, []),
  (4, .ifCond .ne 13, 3, 9, 0, 0, []),
  (7, .aload_n 0, 1, 0, 0, 0, []),
  (8, .aload_n 1, 1, 0, 0, 0, []),
  (9, .iconst 0, 1, 0, 0, 0, []),
  (10, .invokevirtual 56, 3, 87, 10, 0, [2, 0, 0, 1, 2]),
  (13, .invokevirtual 151, 3, 91, 8, 0, [2, 0, 0, 1, 2]),
  (16, .ireturn, 1, 1, 0, 0, []),
  (17, .aload_n 1, 1, 0, 0, 0, []),
  (18, .dup, 1, 0, 0, 0, []),
  (19, .getfield 95, 3, 10, 4, 4, []),
  (22, .iconst 1, 1, 0, 0, 0, []),
  (23, .isub, 1, 0, 0, 0, []),
  (24, .putfield 95, 3, 10, 4, 4, []),
  (27, .aload_n 0, 1, 0, 0, 0, []),
  (28, .aload_n 1, 1, 0, 0, 0, []),
  (29, .getfield 98, 3, 10, 13, 13, []),
  (32, .aload_n 1, 1, 0, 0, 0, []),
  (33, .getfield 95, 3, 10, 4, 4, []),
  (36, .iaload, 1, 0, 0, 0, []),
  (37, .putfield 27, 3, 8, 4, 4, []),
  (40, .aload_n 0, 1, 0, 0, 0, []),
  (41, .aload_n 1, 1, 0, 0, 0, []),
  (42, .getfield 174, 3, 10, 14, 14, []),
  (45, .aload_n 1, 1, 0, 0, 0, []),
  (46, .getfield 95, 3, 10, 4, 4, []),
  (49, .iaload, 1, 0, 0, 0, []),
  (50, .putfield 31, 3, 8, 5, 5, []),
  (53, .iconst 1, 1, 0, 0, 0, []),
  (54, .ireturn, 1, 1, 0, 0, [])]
/-- 95 FallRows$Runner.readOne(LFallRows$Trace;)Z -/
def k95 : List fr_E := [(0, .aload_n 0, 1, 0, 0, 0, []),
  (1, .getfield 19, 3, 8, 2, 2, []),
  (4, .aload_n 0, 1, 0, 0, 0, []),
  (5, .getfield 31, 3, 8, 5, 5, []),
  (8, .invokevirtual 142, 3, 58, 6, 0, [2, 0, 0, 1, 2]),
  (11, .istore_n 2, 1, 0, 0, 0, []),
  (12, .iload_n 2, 1, 0, 0, 0, []),
  (13, .lookupswitch 297 #[(15, 181), (112, 145), (113, 145), (195, 291), (232, 233), (233, 110), (235, 75), (255, 285)], 75, 138, 0, 0, [71, 50, 50, 134, 100, 29, 8, 130]),
  (88, .aload_n 1, 1, 0, 0, 0, []),
  (89, .dup, 1, 0, 0, 0, []),
  (90, .getfield 145, 3, 10, 6, 6, []),
  (93, .iconst 1, 1, 0, 0, 0, []),
  (94, .iadd, 1, 0, 0, 0, []),
  (95, .putfield 145, 3, 10, 6, 6, []),
  (98, .aload_n 0, 1, 0, 0, 0, []),
  (99, .aload_n 0, 1, 0, 0, 0, []),
  (100, .getfield 31, 3, 8, 5, 5, []),
  (103, .iconst 2, 1, 0, 0, 0, []),
  (104, .iadd, 1, 0, 0, 0, []),
  (105, .aload_n 0, 1, 0, 0, 0, []),
  (106, .getfield 19, 3, 8, 2, 2, []),
  (109, .aload_n 0, 1, 0, 0, 0, []),
  (110, .getfield 31, 3, 8, 5, 5, []),
  (113, .iconst 1, 1, 0, 0, 0, []),
  (114, .iadd, 1, 0, 0, 0, []),
  (115, .invokevirtual 148, 3, 59, 6, 0, [2, 0, 0, 1, 2]),
  (118, .iadd, 1, 0, 0, 0, []),
  (119, .invokevirtual 151, 3, 91, 8, 0, [2, 0, 0, 1, 2]),
  (122, .ireturn, 1, 1, 0, 0, []),
  (123, .aload_n 1, 1, 0, 0, 0, []),
  (124, .dup, 1, 0, 0, 0, []),
  (125, .getfield 145, 3, 10, 6, 6, []),
  (128, .iconst 1, 1, 0, 0, 0, []),
  (129, .iadd, 1, 0, 0, 0, []),
  (130, .putfield 145, 3, 10, 6, 6, []),
  (133, .aload_n 0, 1, 0, 0, 0, []),
  (134, .aload_n 0, 1, 0, 0, 0, []),
  (135, .getfield 31, 3, 8, 5, 5, []),
  (138, .iconst 5, 1, 0, 0, 0, []),
  (139, .iadd, 1, 0, 0, 0, []),
  (140, .aload_n 0, 1, 0, 0, 0, []),
  (141, .getfield 19, 3, 8, 2, 2, []),
  (144, .aload_n 0, 1, 0, 0, 0, []),
  (145, .getfield 31, 3, 8, 5, 5, []),
  (148, .iconst 1, 1, 0, 0, 0, []),
  (149, .iadd, 1, 0, 0, 0, []),
  (150, .invokevirtual 123, 3, 60, 6, 0, [2, 0, 0, 1, 2]),
  (153, .iadd, 1, 0, 0, 0, []),
  (154, .invokevirtual 151, 3, 91, 8, 0, [2, 0, 0, 1, 2]),
  (157, .ireturn, 1, 1, 0, 0, []),
  (158, .aload_n 0, 1, 0, 0, 0, []),
  (159, .aload_n 1, 1, 0, 0, 0, []),
  (160, .iload_n 2, 1, 0, 0, 0, []),
  (161, .bipush 113, 2, 0, 0, 0, []),
  (163, .if_icmp .ne 7, 3, 57, 0, 0, []),
  (166, .iconst 1, 1, 0, 0, 0, []),
  (167, .goto 4, 3, 58, 0, 0, []),
  (170, .iconst 0, 1, 0, 0, 0, []),
  (171, .aload_n 0, 1, 0, 0, 0, []),
  (172, .getfield 31, 3, 8, 5, 5, []),
  (175, .iconst 2, 1, 0, 0, 0, []),
  (176, .iadd, 1, 0, 0, 0, []),
  (177, .aload_n 0, 1, 0, 0, 0, []),
  (178, .getfield 19, 3, 8, 2, 2, []),
  (181, .aload_n 0, 1, 0, 0, 0, []),
  (182, .getfield 31, 3, 8, 5, 5, []),
  (185, .iconst 1, 1, 0, 0, 0, []),
  (186, .iadd, 1, 0, 0, 0, []),
  (187, .invokevirtual 148, 3, 59, 6, 0, [2, 0, 0, 1, 2]),
  (190, .invokevirtual 155, 3, 92, 8, 0, [5, 0, 0, 1, 6]),
  (193, .ireturn, 1, 1, 0, 0, []),
  (194, .aload_n 0, 1, 0, 0, 0, []),
  (195, .getfield 19, 3, 8, 2, 2, []),
  (198, .aload_n 0, 1, 0, 0, 0, []),
  (199, .getfield 31, 3, 8, 5, 5, []),
  (202, .iconst 1, 1, 0, 0, 0, []),
  (203, .iadd, 1, 0, 0, 0, []),
  (204, .invokevirtual 142, 3, 58, 6, 0, [2, 0, 0, 1, 2]),
  (207, .istore_n 2, 1, 0, 0, 0, []),
  (208, .aload_n 0, 1, 0, 0, 0, []),
  (209, .aload_n 1, 1, 0, 0, 0, []),
  (210, .iload_n 2, 1, 0, 0, 0, []),
  (211, .sipush 129, 3, 0, 0, 0, []),
  (214, .if_icmp .ne 7, 3, 86, 0, 0, []),
  (217, .iconst 1, 1, 0, 0, 0, []),
  (218, .goto 4, 3, 87, 0, 0, []),
  (221, .iconst 0, 1, 0, 0, 0, []),
  (222, .aload_n 0, 1, 0, 0, 0, []),
  (223, .getfield 31, 3, 8, 5, 5, []),
  (226, .bipush 6, 2, 0, 0, 0, []),
  (228, .iadd, 1, 0, 0, 0, []),
  (229, .aload_n 0, 1, 0, 0, 0, []),
  (230, .getfield 19, 3, 8, 2, 2, []),
  (233, .aload_n 0, 1, 0, 0, 0, []),
  (234, .getfield 31, 3, 8, 5, 5, []),
  (237, .iconst 2, 1, 0, 0, 0, []),
  (238, .iadd, 1, 0, 0, 0, []),
  (239, .invokevirtual 123, 3, 60, 6, 0, [2, 0, 0, 1, 2]),
  (242, .invokevirtual 155, 3, 92, 8, 0, [5, 0, 0, 1, 6]),
  (245, .ireturn, 1, 1, 0, 0, []),
  (246, .aload_n 1, 1, 0, 0, 0, []),
  (247, .aload_n 0, 1, 0, 0, 0, []),
  (248, .getfield 27, 3, 8, 4, 4, []),
  (251, .aload_n 0, 1, 0, 0, 0, []),
  (252, .getfield 31, 3, 8, 5, 5, []),
  (255, .iconst 5, 1, 0, 0, 0, []),
  (256, .iadd, 1, 0, 0, 0, []),
  (257, .invokevirtual 82, 3, 86, 10, 0, [3, 0, 0, 1, 3]),
  (260, .ifCond .ne 13, 3, 115, 0, 0, []),
  (263, .aload_n 0, 1, 0, 0, 0, []),
  (264, .aload_n 1, 1, 0, 0, 0, []),
  (265, .iconst 2, 1, 0, 0, 0, []),
  (266, .invokevirtual 56, 3, 87, 10, 0, [2, 0, 0, 1, 2]),
  (269, .invokevirtual 151, 3, 91, 8, 0, [2, 0, 0, 1, 2]),
  (272, .ireturn, 1, 1, 0, 0, []),
  (273, .aload_n 0, 1, 0, 0, 0, []),
  (274, .aload_n 0, 1, 0, 0, 0, []),
  (275, .getfield 31, 3, 8, 5, 5, []),
  (278, .iconst 5, 1, 0, 0, 0, []),
  (279, .iadd, 1, 0, 0, 0, []),
  (280, .aload_n 0, 1, 0, 0, 0, []),
  (281, .getfield 19, 3, 8, 2, 2, []),
  (284, .aload_n 0, 1, 0, 0, 0, []),
  (285, .getfield 31, 3, 8, 5, 5, []),
  (288, .iconst 1, 1, 0, 0, 0, []),
  (289, .iadd, 1, 0, 0, 0, []),
  (290, .invokevirtual 123, 3, 60, 6, 0, [2, 0, 0, 1, 2]),
  (293, .iadd, 1, 0, 0, 0, []),
  (294, .invokevirtual 151, 3, 91, 8, 0, [2, 0, 0, 1, 2]),
  (297, .ireturn, 1, 1, 0, 0, []),
  (298, .aload_n 0, 1, 0, 0, 0, []),
  (299, .aload_n 1, 1, 0, 0, 0, []),
  (300, .invokevirtual 159, 3, 93, 8, 0, [2, 0, 0, 1, 4]),
  (303, .ireturn, 1, 1, 0, 0, []),
  (304, .aload_n 0, 1, 0, 0, 0, []),
  (305, .aload_n 1, 1, 0, 0, 0, []),
  (306, .invokevirtual 162, 3, 94, 8, 0, [2, 0, 0, 1, 2]),
  (309, .ireturn, 1, 1, 0, 0, []),
  (310, .aload_n 0, 1, 0, 0, 0, []),
  (311, .aload_n 1, 1, 0, 0, 0, []),
  (312, .iconst 1, 1, 0, 0, 0, []),
  (313, .invokevirtual 56, 3, 87, 10, 0, [2, 0, 0, 1, 2]),
  (316, .invokevirtual 151, 3, 91, 8, 0, [2, 0, 0, 1, 2]),
  (319, .ireturn, 1, 1, 0, 0, [])]
/-- 96 FallRows$Runner.afterBytes(ILFallRows$Trace;)I -/
def k96 : List fr_E := [(0, .aload_n 0, 1, 0, 0, 0, []),
  (1, .getfield 19, 3, 8, 2, 2, []),
  (4, .getfield 120, 3, 6, 3, 3, []),
  (7, .iload_n 1, 1, 0, 0, 0, []),
  (8, .iaload, 1, 0, 0, 0, []),
  (9, .istore_n 3, 1, 0, 0, 0, []),
  (10, .iload_n 3, 1, 0, 0, 0, []),
  (11, .iconst (-1), 1, 0, 0, 0, []),
  (12, .if_icmp .eq 32, 3, 24, 0, 0, []),
  (15, .aload_n 0, 1, 0, 0, 0, []),
  (16, .aload_n 2, 1, 0, 0, 0, []),
  (17, .invokevirtual 69, 3, 81, 8, 0, [2, 0, 0, 1, 3]),
  (20, .sipush 255, 3, 0, 0, 0, []),
  (23, .if_icmp .ne 21, 3, 24, 0, 0, []),
  (26, .aload_n 0, 1, 0, 0, 0, []),
  (27, .getfield 19, 3, 8, 2, 2, []),
  (30, .aload_n 0, 1, 0, 0, 0, []),
  (31, .getfield 19, 3, 8, 2, 2, []),
  (34, .iload_n 3, 1, 0, 0, 0, []),
  (35, .iconst 4, 1, 0, 0, 0, []),
  (36, .iadd, 1, 0, 0, 0, []),
  (37, .invokevirtual 123, 3, 60, 6, 0, [2, 0, 0, 1, 2]),
  (40, .invokevirtual 126, 3, 62, 6, 0, [2, 0, 0, 1, 3]),
  (43, .ireturn, 1, 0, 0, 0, []),
  (44, .aload_n 0, 1, 0, 0, 0, []),
  (45, .iload_n 1, 1, 0, 0, 0, []),
  (46, .putfield 27, 3, 8, 4, 4, []),
  (49, .aload_n 0, 1, 0, 0, 0, []),
  (50, .aload_n 0, 1, 0, 0, 0, []),
  (51, .getfield 15, 3, 8, 1, 1, []),
  (54, .iload_n 1, 1, 0, 0, 0, []),
  (55, .invokevirtual 129, 3, 37, 3, 0, [2, 0, 0, 1, 2]),
  (58, .putfield 31, 3, 8, 5, 5, []),
  (61, .iconst 0, 1, 0, 0, 0, []),
  (62, .istore 4, 2, 0, 0, 0, []),
  (64, .iload 4, 2, 0, 0, 0, []),
  (66, .iconst 4, 1, 0, 0, 0, []),
  (67, .if_icmp .ge 60, 3, 65, 0, 0, []),
  (70, .aload_n 0, 1, 0, 0, 0, []),
  (71, .getfield 31, 3, 8, 5, 5, []),
  (74, .aload_n 0, 1, 0, 0, 0, []),
  (75, .getfield 15, 3, 8, 1, 1, []),
  (78, .getfield 132, 3, 3, 5, 5, []),
  (81, .aload_n 0, 1, 0, 0, 0, []),
  (82, .getfield 27, 3, 8, 4, 4, []),
  (85, .iaload, 1, 0, 0, 0, []),
  (86, .if_icmp .ge 41, 3, 65, 0, 0, []),
  (89, .aload_n 0, 1, 0, 0, 0, []),
  (90, .aload_n 2, 1, 0, 0, 0, []),
  (91, .invokevirtual 135, 3, 95, 8, 0, [2, 0, 0, 1, 3]),
  (94, .ifCond .ne 27, 3, 63, 0, 0, []),
  (97, .aload_n 0, 1, 0, 0, 0, []),
  (98, .getfield 31, 3, 8, 5, 5, []),
  (101, .iconst (-1), 1, 0, 0, 0, []),
  (102, .if_icmp .ne 7, 3, 57, 0, 0, []),
  (105, .iconst (-1), 1, 0, 0, 0, []),
  (106, .goto 14, 3, 62, 0, 0, []),
  (109, .aload_n 0, 1, 0, 0, 0, []),
  (110, .getfield 19, 3, 8, 2, 2, []),
  (113, .aload_n 0, 1, 0, 0, 0, []),
  (114, .getfield 31, 3, 8, 5, 5, []),
  (117, .invokevirtual 126, 3, 62, 6, 0, [2, 0, 0, 1, 3]),
  (120, .ireturn, 1, 0, 0, 0, []),
  (121, .iinc 4 1, 3, 0, 0, 0, []),
  (124, .goto (-60), 3, 35, 0, 0, []),
  (127, .aload_n 0, 1, 0, 0, 0, []),
  (128, .getfield 15, 3, 8, 1, 1, []),
  (131, .getfield 139, 3, 3, 3, 3, []),
  (134, .aload_n 0, 1, 0, 0, 0, []),
  (135, .getfield 27, 3, 8, 4, 4, []),
  (138, .iaload, 1, 0, 0, 0, []),
  (139, .ireturn, 1, 0, 0, 0, [])]
/-- 97 FallRows$Runner.runBytes(ILFallRows$Trace;)V -/
def k97 : List fr_E := [(0, .aload_n 0, 1, 0, 0, 0, []),
  (1, .getfield 19, 3, 8, 2, 2, []),
  (4, .invokevirtual 107, 3, 71, 6, 0, [1, 0, 0, 0, 2]),
  (7, .aload_n 2, 1, 0, 0, 0, []),
  (8, .invokevirtual 45, 3, 83, 10, 0, [1, 0, 0, 0, 1]),
  (11, .iload_n 1, 1, 0, 0, 0, []),
  (12, .istore_n 3, 1, 0, 0, 0, []),
  (13, .iconst 0, 1, 0, 0, 0, []),
  (14, .istore 4, 2, 0, 0, 0, []),
  (16, .iload 4, 2, 0, 0, 0, []),
  (18, .sipush 200, 3, 0, 0, 0, []),
  (21, .if_icmp .ge 38, 3, 32, 0, 0, []),
  (24, .iload_n 3, 1, 0, 0, 0, []),
  (25, .iconst (-1), 1, 0, 0, 0, []),
  (26, .if_icmp .eq 33, 3, 32, 0, 0, []),
  (29, .aload_n 2, 1, 0, 0, 0, []),
  (30, .iload_n 3, 1, 0, 0, 0, []),
  (31, .aload_n 0, 1, 0, 0, 0, []),
  (32, .getfield 15, 3, 8, 1, 1, []),
  (35, .getfield 112, 3, 3, 4, 4, []),
  (38, .iload_n 3, 1, 0, 0, 0, []),
  (39, .iaload, 1, 0, 0, 0, []),
  (40, .bipush 64, 2, 0, 0, 0, []),
  (42, .idiv, 1, 0, 0, 0, []),
  (43, .invokevirtual 48, 3, 84, 10, 0, [3, 0, 0, 0, 3]),
  (46, .aload_n 0, 1, 0, 0, 0, []),
  (47, .iload_n 3, 1, 0, 0, 0, []),
  (48, .aload_n 2, 1, 0, 0, 0, []),
  (49, .invokevirtual 117, 3, 96, 8, 0, [3, 0, 0, 1, 5]),
  (52, .istore_n 3, 1, 0, 0, 0, []),
  (53, .iinc 4 1, 3, 0, 0, 0, []),
  (56, .goto (-40), 3, 9, 0, 0, []),
  (59, .iload_n 3, 1, 0, 0, 0, []),
  (60, .iconst (-1), 1, 0, 0, 0, []),
  (61, .if_icmp .eq 9, 3, 39, 0, 0, []),
  (64, .aload_n 2, 1, 0, 0, 0, []),
  (65, .iconst 3, 1, 0, 0, 0, []),
  (66, .invokevirtual 56, 3, 87, 10, 0, [2, 0, 0, 1, 2]),
  (69, .pop, 1, 0, 0, 0, []),
  (70, .return_, 1, 0, 0, 0, [])]
/-- 98 FallRows$Tape.<init>()V -/
def k98 : List fr_E := [(0, .aload_n 0, 1, 0, 0, 0, []),
  (1, .invokespecial 3, 3, 999, 0, 0, []),
  (4, .aload_n 0, 1, 0, 0, 0, []),
  (5, .sipush 200, 3, 0, 0, 0, []),
  (8, .newarray .byte, 2, 2, 0, 0, []),
  (10, .putfield 9, 3, 9, 0, 0, [2]),
  (13, .aload_n 0, 1, 0, 0, 0, []),
  (14, .iconst 0, 1, 0, 0, 0, []),
  (15, .putfield 15, 3, 9, 1, 1, []),
  (18, .return_, 1, 0, 0, 0, [])]
/-- 99 FallRows$Tape.append(I)V -/
def k99 : List fr_E := [(0, .aload_n 0, 1, 0, 0, 0, []),
  (1, .getfield 15, 3, 9, 1, 1, []),
  (4, .sipush 200, 3, 0, 0, 0, []),
  (7, .if_icmp .ge 24, 3, 17, 0, 0, []),
  (10, .aload_n 0, 1, 0, 0, 0, []),
  (11, .getfield 9, 3, 9, 0, 0, []),
  (14, .aload_n 0, 1, 0, 0, 0, []),
  (15, .getfield 15, 3, 9, 1, 1, []),
  (18, .iload_n 1, 1, 0, 0, 0, []),
  (19, .i2b, 1, 0, 0, 0, []),
  (20, .bastore, 1, 0, 0, 0, []),
  (21, .aload_n 0, 1, 0, 0, 0, []),
  (22, .dup, 1, 0, 0, 0, []),
  (23, .getfield 15, 3, 9, 1, 1, []),
  (26, .iconst 1, 1, 0, 0, 0, []),
  (27, .iadd, 1, 0, 0, 0, []),
  (28, .putfield 15, 3, 9, 1, 1, []),
  (31, .return_, 1, 0, 0, 0, [])]
/-- 100 FallRows$Trace.<init>()V -/
def k100 : List fr_E := [(0, .aload_n 0, 1, 0, 0, 0, []),
  (1, .invokespecial 3, 3, 999, 0, 0, []),
  (4, .aload_n 0, 1, 0, 0, 0, []),
  (5, .sipush 200, 3, 0, 0, 0, []),
  (8, .newarray .int, 2, 0, 0, 0, []),
  (10, .putfield 9, 3, 10, 10, 10, [2]),
  (13, .aload_n 0, 1, 0, 0, 0, []),
  (14, .sipush 200, 3, 0, 0, 0, []),
  (17, .newarray .int, 2, 0, 0, 0, []),
  (19, .putfield 15, 3, 10, 11, 11, [2]),
  (22, .aload_n 0, 1, 0, 0, 0, []),
  (23, .sipush 160, 3, 0, 0, 0, []),
  (26, .newarray .int, 2, 0, 0, 0, []),
  (28, .putfield 18, 3, 10, 12, 12, [2]),
  (31, .aload_n 0, 1, 0, 0, 0, []),
  (32, .bipush 8, 2, 0, 0, 0, []),
  (34, .newarray .int, 2, 0, 0, 0, []),
  (36, .putfield 21, 3, 10, 13, 13, [2]),
  (39, .aload_n 0, 1, 0, 0, 0, []),
  (40, .bipush 8, 2, 0, 0, 0, []),
  (42, .newarray .int, 2, 0, 0, 0, []),
  (44, .putfield 24, 3, 10, 14, 14, [2]),
  (47, .aload_n 0, 1, 0, 0, 0, []),
  (48, .bipush 8, 2, 0, 0, 0, []),
  (50, .newarray .int, 2, 0, 0, 0, []),
  (52, .putfield 27, 3, 10, 15, 15, [2]),
  (55, .aload_n 0, 1, 0, 0, 0, []),
  (56, .iconst 0, 1, 0, 0, 0, []),
  (57, .putfield 30, 3, 10, 0, 0, [1]),
  (60, .return_, 1, 0, 0, 0, [])]
/-- 101 FallRows$Trace.cost()I -/
def k101 : List fr_E := [(0, .iconst 2, 1, 0, 0, 0, []),
  (1, .aload_n 0, 1, 0, 0, 0, []),
  (2, .getfield 50, 3, 10, 6, 6, []),
  (5, .imul, 1, 0, 0, 0, []),
  (6, .iconst 3, 1, 0, 0, 0, []),
  (7, .aload_n 0, 1, 0, 0, 0, []),
  (8, .getfield 53, 3, 10, 7, 7, []),
  (11, .imul, 1, 0, 0, 0, []),
  (12, .iadd, 1, 0, 0, 0, []),
  (13, .aload_n 0, 1, 0, 0, 0, []),
  (14, .getfield 56, 3, 10, 8, 8, []),
  (17, .iadd, 1, 0, 0, 0, []),
  (18, .bipush 50, 2, 0, 0, 0, []),
  (20, .aload_n 0, 1, 0, 0, 0, []),
  (21, .getfield 59, 3, 10, 9, 9, []),
  (24, .imul, 1, 0, 0, 0, []),
  (25, .iadd, 1, 0, 0, 0, []),
  (26, .ireturn, 1, 0, 0, 0, [])]
/-- 102 FallRows$Trace.heldPlace(II)I -/
def k102 : List fr_E := [(0, .iconst 0, 1, 0, 0, 0, []),
  (1, .istore_n 3, 1, 0, 0, 0, []),
  (2, .iload_n 3, 1, 0, 0, 0, []),
  (3, .iload_n 2, 1, 0, 0, 0, []),
  (4, .if_icmp .ge 21, 3, 15, 0, 0, []),
  (7, .aload_n 0, 1, 0, 0, 0, []),
  (8, .getfield 27, 3, 10, 15, 15, []),
  (11, .iload_n 3, 1, 0, 0, 0, []),
  (12, .iaload, 1, 0, 0, 0, []),
  (13, .iload_n 1, 1, 0, 0, 0, []),
  (14, .if_icmp .ne 5, 3, 13, 0, 0, []),
  (17, .iload_n 3, 1, 0, 0, 0, []),
  (18, .ireturn, 1, 0, 0, 0, []),
  (19, .iinc 3 1, 3, 0, 0, 0, []),
  (22, .goto (-20), 3, 2, 0, 0, []),
  (25, .iconst (-1), 1, 0, 0, 0, []),
  (26, .ireturn, 1, 0, 0, 0, [])]
/-- 103 FallRows$Trace.holdFirst(II)V -/
def k103 : List fr_E := [(0, .iload_n 2, 1, 0, 0, 0, []),
  (1, .istore_n 3, 1, 0, 0, 0, []),
  (2, .iload_n 3, 1, 0, 0, 0, []),
  (3, .ifCond .le 23, 3, 16, 0, 0, []),
  (6, .aload_n 0, 1, 0, 0, 0, []),
  (7, .getfield 27, 3, 10, 15, 15, []),
  (10, .iload_n 3, 1, 0, 0, 0, []),
  (11, .aload_n 0, 1, 0, 0, 0, []),
  (12, .getfield 27, 3, 10, 15, 15, []),
  (15, .iload_n 3, 1, 0, 0, 0, []),
  (16, .iconst 1, 1, 0, 0, 0, []),
  (17, .isub, 1, 0, 0, 0, []),
  (18, .iaload, 1, 0, 0, 0, []),
  (19, .iastore, 1, 0, 0, 0, []),
  (20, .iinc 3 (-1), 3, 0, 0, 0, []),
  (23, .goto (-21), 3, 2, 0, 0, []),
  (26, .iload_n 2, 1, 0, 0, 0, []),
  (27, .ifCond .lt 10, 3, 23, 0, 0, []),
  (30, .aload_n 0, 1, 0, 0, 0, []),
  (31, .getfield 27, 3, 10, 15, 15, []),
  (34, .iconst 0, 1, 0, 0, 0, []),
  (35, .iload_n 1, 1, 0, 0, 0, []),
  (36, .iastore, 1, 0, 0, 0, []),
  (37, .return_, 1, 0, 0, 0, [])]
/-- 104 FallRows$Trace.missedWith(I)I -/
def k104 : List fr_E := [(0, .iconst 0, 1, 0, 0, 0, []),
  (1, .istore_n 2, 1, 0, 0, 0, []),
  (2, .iconst 0, 1, 0, 0, 0, []),
  (3, .istore_n 3, 1, 0, 0, 0, []),
  (4, .iconst 0, 1, 0, 0, 0, []),
  (5, .istore 4, 2, 0, 0, 0, []),
  (7, .iload 4, 2, 0, 0, 0, []),
  (9, .aload_n 0, 1, 0, 0, 0, []),
  (10, .getfield 38, 3, 10, 2, 2, []),
  (13, .if_icmp .ge 58, 3, 41, 0, 0, []),
  (16, .aload_n 0, 1, 0, 0, 0, []),
  (17, .aload_n 0, 1, 0, 0, 0, []),
  (18, .getfield 15, 3, 10, 11, 11, []),
  (21, .iload 4, 2, 0, 0, 0, []),
  (23, .iaload, 1, 0, 0, 0, []),
  (24, .iload_n 2, 1, 0, 0, 0, []),
  (25, .invokevirtual 74, 3, 102, 10, 0, [3, 0, 0, 1, 4]),
  (28, .istore 5, 2, 0, 0, 0, []),
  (30, .iload 5, 2, 0, 0, 0, []),
  (32, .iconst (-1), 1, 0, 0, 0, []),
  (33, .if_icmp .ne 19, 3, 32, 0, 0, []),
  (36, .iinc 3 1, 3, 0, 0, 0, []),
  (39, .iload_n 2, 1, 0, 0, 0, []),
  (40, .iconst 1, 1, 0, 0, 0, []),
  (41, .iadd, 1, 0, 0, 0, []),
  (42, .iload_n 1, 1, 0, 0, 0, []),
  (43, .invokestatic 77, 3, 995, 0, 0, []),
  (46, .istore_n 2, 1, 0, 0, 0, []),
  (47, .iload_n 2, 1, 0, 0, 0, []),
  (48, .iconst 1, 1, 0, 0, 0, []),
  (49, .isub, 1, 0, 0, 0, []),
  (50, .istore 5, 2, 0, 0, 0, []),
  (52, .aload_n 0, 1, 0, 0, 0, []),
  (53, .aload_n 0, 1, 0, 0, 0, []),
  (54, .getfield 15, 3, 10, 11, 11, []),
  (57, .iload 4, 2, 0, 0, 0, []),
  (59, .iaload, 1, 0, 0, 0, []),
  (60, .iload 5, 2, 0, 0, 0, []),
  (62, .invokevirtual 80, 3, 103, 10, 0, [3, 0, 0, 0, 4]),
  (65, .iinc 4 1, 3, 0, 0, 0, []),
  (68, .goto (-61), 3, 6, 0, 0, []),
  (71, .iload_n 3, 1, 0, 0, 0, []),
  (72, .ireturn, 1, 0, 0, 0, [])]
/-- 105 FallRows$Trace.agrees(LFallRows$Trace;)Z -/
def k105 : List fr_E := [(0, .aload_n 0, 1, 0, 0, 0, []),
  (1, .getfield 34, 3, 10, 1, 1, []),
  (4, .aload_n 1, 1, 0, 0, 0, []),
  (5, .getfield 34, 3, 10, 1, 1, []),
  (8, .if_icmp .ne 14, 3, 10, 0, 0, []),
  (11, .aload_n 0, 1, 0, 0, 0, []),
  (12, .getfield 38, 3, 10, 2, 2, []),
  (15, .aload_n 1, 1, 0, 0, 0, []),
  (16, .getfield 38, 3, 10, 2, 2, []),
  (19, .if_icmp .eq 5, 3, 12, 0, 0, []),
  (22, .iconst 0, 1, 0, 0, 0, []),
  (23, .ireturn, 1, 1, 0, 0, []),
  (24, .iconst 0, 1, 0, 0, 0, []),
  (25, .istore_n 2, 1, 0, 0, 0, []),
  (26, .iload_n 2, 1, 0, 0, 0, []),
  (27, .aload_n 0, 1, 0, 0, 0, []),
  (28, .getfield 38, 3, 10, 2, 2, []),
  (31, .if_icmp .ge 26, 3, 31, 0, 0, []),
  (34, .aload_n 0, 1, 0, 0, 0, []),
  (35, .getfield 9, 3, 10, 10, 10, []),
  (38, .iload_n 2, 1, 0, 0, 0, []),
  (39, .iaload, 1, 0, 0, 0, []),
  (40, .aload_n 1, 1, 0, 0, 0, []),
  (41, .getfield 9, 3, 10, 10, 10, []),
  (44, .iload_n 2, 1, 0, 0, 0, []),
  (45, .iaload, 1, 0, 0, 0, []),
  (46, .if_icmp .eq 5, 3, 29, 0, 0, []),
  (49, .iconst 0, 1, 0, 0, 0, []),
  (50, .ireturn, 1, 1, 0, 0, []),
  (51, .iinc 2 1, 3, 0, 0, 0, []),
  (54, .goto (-28), 3, 14, 0, 0, []),
  (57, .iconst 1, 1, 0, 0, 0, []),
  (58, .ireturn, 1, 1, 0, 0, [])]
/-- 106 FallRows.<init>()V -/
def k106 : List fr_E := [(0, .aload_n 0, 1, 0, 0, 0, []),
  (1, .invokespecial 1, 3, 999, 0, 0, []),
  (4, .aload_n 0, 1, 0, 0, 0, []),
  (5, .new 7, 3, 7, 13, 0, []),
  (8, .dup, 1, 0, 0, 0, []),
  (9, .invokespecial 9, 3, 72, 7, 0, [1, 11, 660, 0, 1]),
  (12, .putfield 10, 3, 11, 0, 0, [2]),
  (15, .aload_n 0, 1, 0, 0, 0, []),
  (16, .new 16, 3, 5, 6, 0, []),
  (19, .dup, 1, 0, 0, 0, []),
  (20, .aload_n 0, 1, 0, 0, 0, []),
  (21, .getfield 10, 3, 11, 0, 0, []),
  (24, .invokespecial 18, 3, 44, 5, 0, [2, 4, 214, 0, 2]),
  (27, .putfield 21, 3, 11, 1, 1, [2]),
  (30, .aload_n 0, 1, 0, 0, 0, []),
  (31, .new 25, 3, 2, 3, 0, []),
  (34, .dup, 1, 0, 0, 0, []),
  (35, .aload_n 0, 1, 0, 0, 0, []),
  (36, .getfield 10, 3, 11, 0, 0, []),
  (39, .invokespecial 27, 3, 20, 2, 0, [2, 1, 90, 0, 2]),
  (42, .putfield 28, 3, 11, 2, 2, [2]),
  (45, .aload_n 0, 1, 0, 0, 0, []),
  (46, .new 32, 3, 0, 2, 0, []),
  (49, .dup, 1, 0, 0, 0, []),
  (50, .aload_n 0, 1, 0, 0, 0, []),
  (51, .getfield 28, 3, 11, 2, 2, []),
  (54, .invokespecial 34, 3, 0, 0, 0, [2, 1, 2304, 0, 2]),
  (57, .putfield 37, 3, 11, 3, 3, [2]),
  (60, .aload_n 0, 1, 0, 0, 0, []),
  (61, .new 41, 3, 4, 2, 0, []),
  (64, .dup, 1, 0, 0, 0, []),
  (65, .aload_n 0, 1, 0, 0, 0, []),
  (66, .getfield 28, 3, 11, 2, 2, []),
  (69, .invokespecial 43, 3, 40, 4, 0, [2, 1, 9, 0, 2]),
  (72, .putfield 44, 3, 11, 4, 4, [2]),
  (75, .aload_n 0, 1, 0, 0, 0, []),
  (76, .new 48, 3, 1, 8, 0, []),
  (79, .dup, 1, 0, 0, 0, []),
  (80, .aload_n 0, 1, 0, 0, 0, []),
  (81, .getfield 10, 3, 11, 0, 0, []),
  (84, .invokespecial 50, 3, 7, 1, 0, [2, 4, 45, 0, 2]),
  (87, .putfield 51, 3, 11, 5, 5, [2]),
  (90, .aload_n 0, 1, 0, 0, 0, []),
  (91, .new 55, 3, 3, 19, 0, []),
  (94, .dup, 1, 0, 0, 0, []),
  (95, .aload_n 0, 1, 0, 0, 0, []),
  (96, .getfield 10, 3, 11, 0, 0, []),
  (99, .aload_n 0, 1, 0, 0, 0, []),
  (100, .getfield 21, 3, 11, 1, 1, []),
  (103, .invokespecial 57, 3, 25, 3, 0, [3, 9, 480, 0, 3]),
  (106, .putfield 60, 3, 11, 6, 6, [2]),
  (109, .aload_n 0, 1, 0, 0, 0, []),
  (110, .new 64, 3, 6, 6, 0, []),
  (113, .dup, 1, 0, 0, 0, []),
  (114, .aload_n 0, 1, 0, 0, 0, []),
  (115, .getfield 10, 3, 11, 0, 0, []),
  (118, .aload_n 0, 1, 0, 0, 0, []),
  (119, .getfield 60, 3, 11, 6, 6, []),
  (122, .invokespecial 66, 3, 57, 6, 0, [3, 2, 9800, 0, 3]),
  (125, .putfield 69, 3, 11, 7, 7, [2]),
  (128, .aload_n 0, 1, 0, 0, 0, []),
  (129, .new 73, 3, 9, 2, 0, []),
  (132, .dup, 1, 0, 0, 0, []),
  (133, .invokespecial 75, 3, 98, 9, 0, [1, 1, 200, 0, 1]),
  (136, .putfield 76, 3, 11, 8, 8, [2]),
  (139, .aload_n 0, 1, 0, 0, 0, []),
  (140, .new 80, 3, 8, 6, 0, []),
  (143, .dup, 1, 0, 0, 0, []),
  (144, .aload_n 0, 1, 0, 0, 0, []),
  (145, .getfield 10, 3, 11, 0, 0, []),
  (148, .aload_n 0, 1, 0, 0, 0, []),
  (149, .getfield 60, 3, 11, 6, 6, []),
  (152, .aload_n 0, 1, 0, 0, 0, []),
  (153, .getfield 69, 3, 11, 7, 7, []),
  (156, .aload_n 0, 1, 0, 0, 0, []),
  (157, .getfield 76, 3, 11, 8, 8, []),
  (160, .invokespecial 82, 3, 79, 8, 0, [5, 0, 0, 0, 5]),
  (163, .putfield 85, 3, 11, 9, 9, [2]),
  (166, .aload_n 0, 1, 0, 0, 0, []),
  (167, .new 89, 3, 10, 16, 0, []),
  (170, .dup, 1, 0, 0, 0, []),
  (171, .invokespecial 91, 3, 100, 10, 0, [1, 6, 584, 0, 1]),
  (174, .putfield 92, 3, 11, 10, 10, [2]),
  (177, .aload_n 0, 1, 0, 0, 0, []),
  (178, .new 89, 3, 10, 16, 0, []),
  (181, .dup, 1, 0, 0, 0, []),
  (182, .invokespecial 91, 3, 100, 10, 0, [1, 6, 584, 0, 1]),
  (185, .putfield 96, 3, 11, 11, 11, [2]),
  (188, .aload_n 0, 1, 0, 0, 0, []),
  (189, .new 89, 3, 10, 16, 0, []),
  (192, .dup, 1, 0, 0, 0, []),
  (193, .invokespecial 91, 3, 100, 10, 0, [1, 6, 584, 0, 1]),
  (196, .putfield 99, 3, 11, 12, 12, [2]),
  (199, .aload_n 0, 1, 0, 0, 0, []),
  (200, .new 89, 3, 10, 16, 0, []),
  (203, .dup, 1, 0, 0, 0, []),
  (204, .invokespecial 91, 3, 100, 10, 0, [1, 6, 584, 0, 1]),
  (207, .putfield 102, 3, 11, 13, 13, [2]),
  (210, .aload_n 0, 1, 0, 0, 0, []),
  (211, .iconst 4, 1, 0, 0, 0, []),
  (212, .newarray .int, 2, 0, 0, 0, []),
  (214, .putfield 105, 3, 11, 14, 14, [2]),
  (217, .aload_n 0, 1, 0, 0, 0, []),
  (218, .bipush 9, 2, 0, 0, 0, []),
  (220, .newarray .int, 2, 0, 0, 0, []),
  (222, .putfield 109, 3, 11, 15, 15, [2]),
  (225, .aload_n 0, 1, 0, 0, 0, []),
  (226, .iconst 4, 1, 0, 0, 0, []),
  (227, .putfield 112, 3, 11, 16, 16, []),
  (230, .aload_n 0, 1, 0, 0, 0, []),
  (231, .iconst 0, 1, 0, 0, 0, []),
  (232, .putfield 116, 3, 11, 17, 17, [1]),
  (235, .return_, 1, 0, 0, 0, [])]
/-- 107 FallRows.routine()I -/
def k107 : List fr_E := [(0, .aload_n 0, 1, 0, 0, 0, []),
  (1, .getfield 10, 3, 11, 0, 0, []),
  (4, .getfield 120, 3, 7, 0, 0, []),
  (7, .bipush 6, 2, 0, 0, 0, []),
  (9, .if_icmp .lt 6, 3, 7, 0, 0, []),
  (12, .bipush (-3), 2, 0, 0, 0, []),
  (14, .ireturn, 1, 0, 0, 0, []),
  (15, .aload_n 0, 1, 0, 0, 0, []),
  (16, .getfield 10, 3, 11, 0, 0, []),
  (19, .invokevirtual 123, 3, 76, 7, 0, [1, 0, 0, 1, 2]),
  (22, .ireturn, 1, 0, 0, 0, [])]
/-- 108 FallRows.block(II)I -/
def k108 : List fr_E := [(0, .aload_n 0, 1, 0, 0, 0, []),
  (1, .getfield 10, 3, 11, 0, 0, []),
  (4, .iload_n 1, 1, 0, 0, 0, []),
  (5, .invokevirtual 127, 3, 73, 7, 0, [2, 0, 0, 1, 2]),
  (8, .ifCond .eq 15, 3, 11, 0, 0, []),
  (11, .iload_n 2, 1, 0, 0, 0, []),
  (12, .iconst 1, 1, 0, 0, 0, []),
  (13, .if_icmp .lt 10, 3, 11, 0, 0, []),
  (16, .iload_n 2, 1, 0, 0, 0, []),
  (17, .sipush 200, 3, 0, 0, 0, []),
  (20, .if_icmp .le 5, 3, 13, 0, 0, []),
  (23, .iconst (-1), 1, 0, 0, 0, []),
  (24, .ireturn, 1, 0, 0, 0, []),
  (25, .aload_n 0, 1, 0, 0, 0, []),
  (26, .getfield 10, 3, 11, 0, 0, []),
  (29, .getfield 131, 3, 7, 2, 2, []),
  (32, .iload_n 1, 1, 0, 0, 0, []),
  (33, .iaload, 1, 0, 0, 0, []),
  (34, .bipush 9, 2, 0, 0, 0, []),
  (36, .if_icmp .ge 15, 3, 25, 0, 0, []),
  (39, .aload_n 0, 1, 0, 0, 0, []),
  (40, .getfield 10, 3, 11, 0, 0, []),
  (43, .getfield 134, 3, 7, 1, 1, []),
  (46, .bipush 40, 2, 0, 0, 0, []),
  (48, .if_icmp .lt 6, 3, 27, 0, 0, []),
  (51, .bipush (-3), 2, 0, 0, 0, []),
  (53, .ireturn, 1, 0, 0, 0, []),
  (54, .aload_n 0, 1, 0, 0, 0, []),
  (55, .getfield 10, 3, 11, 0, 0, []),
  (58, .iload_n 1, 1, 0, 0, 0, []),
  (59, .iload_n 2, 1, 0, 0, 0, []),
  (60, .invokevirtual 137, 3, 77, 7, 0, [3, 0, 0, 1, 4]),
  (63, .istore_n 3, 1, 0, 0, 0, []),
  (64, .aload_n 0, 1, 0, 0, 0, []),
  (65, .getfield 21, 3, 11, 1, 1, []),
  (68, .iload_n 3, 1, 0, 0, 0, []),
  (69, .invokevirtual 141, 3, 46, 5, 0, [2, 0, 0, 0, 2]),
  (72, .aload_n 0, 1, 0, 0, 0, []),
  (73, .getfield 21, 3, 11, 1, 1, []),
  (76, .invokevirtual 145, 3, 56, 5, 0, [1, 0, 0, 0, 1]),
  (79, .aload_n 0, 1, 0, 0, 0, []),
  (80, .iconst 0, 1, 0, 0, 0, []),
  (81, .putfield 116, 3, 11, 17, 17, [1]),
  (84, .aload_n 0, 1, 0, 0, 0, []),
  (85, .getfield 60, 3, 11, 6, 6, []),
  (88, .invokevirtual 148, 3, 26, 3, 0, [1, 0, 0, 0, 1]),
  (91, .iload_n 3, 1, 0, 0, 0, []),
  (92, .ireturn, 1, 0, 0, 0, [])]
/-- 109 FallRows.waysOffered(I)I -/
def k109 : List fr_E := [(0, .iload_n 1, 1, 0, 0, 0, []),
  (1, .iconst 2, 1, 0, 0, 0, []),
  (2, .if_icmp .eq 8, 3, 6, 0, 0, []),
  (5, .iload_n 1, 1, 0, 0, 0, []),
  (6, .iconst 5, 1, 0, 0, 0, []),
  (7, .if_icmp .ne 5, 3, 8, 0, 0, []),
  (10, .iconst 1, 1, 0, 0, 0, []),
  (11, .ireturn, 1, 0, 0, 0, []),
  (12, .iload_n 1, 1, 0, 0, 0, []),
  (13, .iconst 3, 1, 0, 0, 0, []),
  (14, .if_icmp .eq 9, 3, 14, 0, 0, []),
  (17, .iload_n 1, 1, 0, 0, 0, []),
  (18, .bipush 6, 2, 0, 0, 0, []),
  (20, .if_icmp .ne 5, 3, 16, 0, 0, []),
  (23, .iconst 2, 1, 0, 0, 0, []),
  (24, .ireturn, 1, 0, 0, 0, []),
  (25, .iload_n 1, 1, 0, 0, 0, []),
  (26, .iconst 4, 1, 0, 0, 0, []),
  (27, .if_icmp .eq 5, 3, 21, 0, 0, []),
  (30, .iconst 0, 1, 0, 0, 0, []),
  (31, .ireturn, 1, 0, 0, 0, []),
  (32, .iconst 0, 1, 0, 0, 0, []),
  (33, .istore_n 2, 1, 0, 0, 0, []),
  (34, .iconst 0, 1, 0, 0, 0, []),
  (35, .istore_n 3, 1, 0, 0, 0, []),
  (36, .iload_n 3, 1, 0, 0, 0, []),
  (37, .iconst 4, 1, 0, 0, 0, []),
  (38, .if_icmp .ge 22, 3, 37, 0, 0, []),
  (41, .aload_n 0, 1, 0, 0, 0, []),
  (42, .getfield 105, 3, 11, 14, 14, []),
  (45, .iload_n 3, 1, 0, 0, 0, []),
  (46, .iaload, 1, 0, 0, 0, []),
  (47, .iconst (-1), 1, 0, 0, 0, []),
  (48, .if_icmp .eq 12, 3, 37, 0, 0, []),
  (51, .iinc 2 1, 3, 0, 0, 0, []),
  (54, .iinc 3 1, 3, 0, 0, 0, []),
  (57, .goto (-21), 3, 25, 0, 0, []),
  (60, .iload_n 2, 1, 0, 0, 0, []),
  (61, .ireturn, 1, 0, 0, 0, [])]
/-- 110 FallRows.end(IIIIII)I -/
def k110 : List fr_E := [(0, .aload_n 0, 1, 0, 0, 0, []),
  (1, .getfield 10, 3, 11, 0, 0, []),
  (4, .iload_n 1, 1, 0, 0, 0, []),
  (5, .invokevirtual 151, 3, 61, 7, 0, [2, 0, 0, 1, 2]),
  (8, .ifCond .eq 13, 3, 10, 0, 0, []),
  (11, .iload_n 2, 1, 0, 0, 0, []),
  (12, .ifCond .lt 9, 3, 10, 0, 0, []),
  (15, .iload_n 2, 1, 0, 0, 0, []),
  (16, .bipush 6, 2, 0, 0, 0, []),
  (18, .if_icmp .le 5, 3, 12, 0, 0, []),
  (21, .iconst (-1), 1, 0, 0, 0, []),
  (22, .ireturn, 1, 0, 0, 0, []),
  (23, .aload_n 0, 1, 0, 0, 0, []),
  (24, .getfield 105, 3, 11, 14, 14, []),
  (27, .iconst 0, 1, 0, 0, 0, []),
  (28, .iload_n 3, 1, 0, 0, 0, []),
  (29, .iastore, 1, 0, 0, 0, []),
  (30, .aload_n 0, 1, 0, 0, 0, []),
  (31, .getfield 105, 3, 11, 14, 14, []),
  (34, .iconst 1, 1, 0, 0, 0, []),
  (35, .iload 4, 2, 0, 0, 0, []),
  (37, .iastore, 1, 0, 0, 0, []),
  (38, .aload_n 0, 1, 0, 0, 0, []),
  (39, .getfield 105, 3, 11, 14, 14, []),
  (42, .iconst 2, 1, 0, 0, 0, []),
  (43, .iload 5, 2, 0, 0, 0, []),
  (45, .iastore, 1, 0, 0, 0, []),
  (46, .aload_n 0, 1, 0, 0, 0, []),
  (47, .getfield 105, 3, 11, 14, 14, []),
  (50, .iconst 3, 1, 0, 0, 0, []),
  (51, .iload 6, 2, 0, 0, 0, []),
  (53, .iastore, 1, 0, 0, 0, []),
  (54, .aload_n 0, 1, 0, 0, 0, []),
  (55, .iload_n 2, 1, 0, 0, 0, []),
  (56, .invokevirtual 154, 3, 109, 11, 0, [2, 0, 0, 1, 4]),
  (59, .istore 7, 2, 0, 0, 0, []),
  (61, .iload_n 2, 1, 0, 0, 0, []),
  (62, .iconst 4, 1, 0, 0, 0, []),
  (63, .if_icmp .ne 8, 3, 41, 0, 0, []),
  (66, .iload 7, 2, 0, 0, 0, []),
  (68, .ifCond .eq 20, 3, 49, 0, 0, []),
  (71, .iload_n 2, 1, 0, 0, 0, []),
  (72, .iconst 5, 1, 0, 0, 0, []),
  (73, .if_icmp .ne 17, 3, 51, 0, 0, []),
  (76, .aload_n 0, 1, 0, 0, 0, []),
  (77, .getfield 10, 3, 11, 0, 0, []),
  (80, .iload 4, 2, 0, 0, 0, []),
  (82, .invokevirtual 158, 3, 74, 7, 0, [2, 0, 0, 1, 2]),
  (85, .ifCond .ne 5, 3, 51, 0, 0, []),
  (88, .iconst (-1), 1, 0, 0, 0, []),
  (89, .ireturn, 1, 0, 0, 0, []),
  (90, .iconst 0, 1, 0, 0, 0, []),
  (91, .istore 8, 2, 0, 0, 0, []),
  (93, .iload 8, 2, 0, 0, 0, []),
  (95, .iload 7, 2, 0, 0, 0, []),
  (97, .if_icmp .ge 37, 3, 73, 0, 0, []),
  (100, .aload_n 0, 1, 0, 0, 0, []),
  (101, .getfield 10, 3, 11, 0, 0, []),
  (104, .aload_n 0, 1, 0, 0, 0, []),
  (105, .getfield 10, 3, 11, 0, 0, []),
  (108, .getfield 161, 3, 7, 4, 4, []),
  (111, .iload_n 1, 1, 0, 0, 0, []),
  (112, .iaload, 1, 0, 0, 0, []),
  (113, .aload_n 0, 1, 0, 0, 0, []),
  (114, .getfield 105, 3, 11, 14, 14, []),
  (117, .iload 8, 2, 0, 0, 0, []),
  (119, .iaload, 1, 0, 0, 0, []),
  (120, .invokevirtual 164, 3, 75, 7, 0, [3, 0, 0, 1, 3]),
  (123, .ifCond .ne 5, 3, 71, 0, 0, []),
  (126, .iconst (-1), 1, 0, 0, 0, []),
  (127, .ireturn, 1, 0, 0, 0, []),
  (128, .iinc 8 1, 3, 0, 0, 0, []),
  (131, .goto (-38), 3, 53, 0, 0, []),
  (134, .aload_n 0, 1, 0, 0, 0, []),
  (135, .getfield 10, 3, 11, 0, 0, []),
  (138, .iload_n 1, 1, 0, 0, 0, []),
  (139, .iload_n 2, 1, 0, 0, 0, []),
  (140, .aload_n 0, 1, 0, 0, 0, []),
  (141, .getfield 105, 3, 11, 14, 14, []),
  (144, .iload 7, 2, 0, 0, 0, []),
  (146, .invokevirtual 168, 3, 78, 7, 0, [5, 0, 0, 0, 6]),
  (149, .aload_n 0, 1, 0, 0, 0, []),
  (150, .iconst 0, 1, 0, 0, 0, []),
  (151, .putfield 116, 3, 11, 17, 17, [1]),
  (154, .aload_n 0, 1, 0, 0, 0, []),
  (155, .getfield 60, 3, 11, 6, 6, []),
  (158, .invokevirtual 148, 3, 26, 3, 0, [1, 0, 0, 0, 1]),
  (161, .iload 7, 2, 0, 0, 0, []),
  (163, .ireturn, 1, 0, 0, 0, [])]
/-- 111 FallRows.count(III)I -/
def k111 : List fr_E := [(0, .aload_n 0, 1, 0, 0, 0, []),
  (1, .getfield 10, 3, 11, 0, 0, []),
  (4, .iload_n 1, 1, 0, 0, 0, []),
  (5, .invokevirtual 151, 3, 61, 7, 0, [2, 0, 0, 1, 2]),
  (8, .ifCond .eq 30, 3, 19, 0, 0, []),
  (11, .iload_n 2, 1, 0, 0, 0, []),
  (12, .ifCond .lt 26, 3, 19, 0, 0, []),
  (15, .iload_n 2, 1, 0, 0, 0, []),
  (16, .aload_n 0, 1, 0, 0, 0, []),
  (17, .getfield 10, 3, 11, 0, 0, []),
  (20, .getfield 172, 3, 7, 8, 8, []),
  (23, .iload_n 1, 1, 0, 0, 0, []),
  (24, .iaload, 1, 0, 0, 0, []),
  (25, .if_icmp .ge 13, 3, 19, 0, 0, []),
  (28, .iload_n 3, 1, 0, 0, 0, []),
  (29, .ifCond .lt 9, 3, 19, 0, 0, []),
  (32, .iload_n 3, 1, 0, 0, 0, []),
  (33, .ldc 175, 2, 0, 0, 1000000, []),
  (35, .if_icmp .le 5, 3, 21, 0, 0, []),
  (38, .iconst (-1), 1, 0, 0, 0, []),
  (39, .ireturn, 1, 0, 0, 0, []),
  (40, .aload_n 0, 1, 0, 0, 0, []),
  (41, .getfield 10, 3, 11, 0, 0, []),
  (44, .getfield 176, 3, 7, 12, 12, []),
  (47, .iload_n 1, 1, 0, 0, 0, []),
  (48, .iconst 4, 1, 0, 0, 0, []),
  (49, .imul, 1, 0, 0, 0, []),
  (50, .iload_n 2, 1, 0, 0, 0, []),
  (51, .iadd, 1, 0, 0, 0, []),
  (52, .iaload, 1, 0, 0, 0, []),
  (53, .istore 4, 2, 0, 0, 0, []),
  (55, .aload_n 0, 1, 0, 0, 0, []),
  (56, .getfield 10, 3, 11, 0, 0, []),
  (59, .getfield 176, 3, 7, 12, 12, []),
  (62, .iload_n 1, 1, 0, 0, 0, []),
  (63, .iconst 4, 1, 0, 0, 0, []),
  (64, .imul, 1, 0, 0, 0, []),
  (65, .iload_n 2, 1, 0, 0, 0, []),
  (66, .iadd, 1, 0, 0, 0, []),
  (67, .iload_n 3, 1, 0, 0, 0, []),
  (68, .iastore, 1, 0, 0, 0, []),
  (69, .iload 4, 2, 0, 0, 0, []),
  (71, .ireturn, 1, 0, 0, 0, [])]
/-- 112 FallRows.isMovable(I)Z -/
def k112 : List fr_E := [(0, .aload_n 0, 1, 0, 0, 0, []),
  (1, .getfield 10, 3, 11, 0, 0, []),
  (4, .iload_n 1, 1, 0, 0, 0, []),
  (5, .invokevirtual 151, 3, 61, 7, 0, [2, 0, 0, 1, 2]),
  (8, .ifCond .eq 19, 3, 13, 0, 0, []),
  (11, .aload_n 0, 1, 0, 0, 0, []),
  (12, .getfield 10, 3, 11, 0, 0, []),
  (15, .getfield 211, 3, 7, 5, 5, []),
  (18, .iload_n 1, 1, 0, 0, 0, []),
  (19, .iaload, 1, 0, 0, 0, []),
  (20, .ifCond .le 7, 3, 13, 0, 0, []),
  (23, .iconst 1, 1, 0, 0, 0, []),
  (24, .goto 4, 3, 14, 0, 0, []),
  (27, .iconst 0, 1, 0, 0, 0, []),
  (28, .ireturn, 1, 1, 0, 0, [])]
/-- 113 FallRows.asNumber(Z)I -/
def k113 : List fr_E := [(0, .iload_n 0, 1, 0, 0, 0, []),
  (1, .ifCond .eq 7, 3, 4, 0, 0, []),
  (4, .iconst 1, 1, 0, 0, 0, []),
  (5, .goto 4, 3, 5, 0, 0, []),
  (8, .iconst 0, 1, 0, 0, 0, []),
  (9, .ireturn, 1, 0, 0, 0, [])]
/-- 114 FallRows.cold(IZ)I -/
def k114 : List fr_E := [(0, .aload_n 0, 1, 0, 0, 0, []),
  (1, .iload_n 1, 1, 0, 0, 0, []),
  (2, .invokevirtual 179, 3, 112, 11, 0, [2, 0, 0, 1, 2]),
  (5, .ifCond .ne 5, 3, 6, 0, 0, []),
  (8, .iconst (-1), 1, 0, 0, 0, []),
  (9, .ireturn, 1, 0, 0, 0, []),
  (10, .aload_n 0, 1, 0, 0, 0, []),
  (11, .getfield 10, 3, 11, 0, 0, []),
  (14, .getfield 182, 3, 7, 10, 10, []),
  (17, .iload_n 1, 1, 0, 0, 0, []),
  (18, .baload, 1, 0, 0, 0, []),
  (19, .invokestatic 186, 3, 113, 11, 0, [1, 0, 0, 1, 1]),
  (22, .istore_n 3, 1, 0, 0, 0, []),
  (23, .aload_n 0, 1, 0, 0, 0, []),
  (24, .getfield 10, 3, 11, 0, 0, []),
  (27, .getfield 182, 3, 7, 10, 10, []),
  (30, .iload_n 1, 1, 0, 0, 0, []),
  (31, .iload_n 2, 1, 0, 0, 0, []),
  (32, .bastore, 1, 0, 0, 0, []),
  (33, .aload_n 0, 1, 0, 0, 0, []),
  (34, .getfield 60, 3, 11, 6, 6, []),
  (37, .invokevirtual 148, 3, 26, 3, 0, [1, 0, 0, 0, 1]),
  (40, .iload_n 3, 1, 0, 0, 0, []),
  (41, .ireturn, 1, 0, 0, 0, [])]
/-- 115 FallRows.aboutWay(II)I -/
def k115 : List fr_E := [(0, .iload_n 2, 1, 0, 0, 0, []),
  (1, .bipush 6, 2, 0, 0, 0, []),
  (3, .isub, 1, 0, 0, 0, []),
  (4, .iconst 4, 1, 0, 0, 0, []),
  (5, .irem, 1, 0, 0, 0, []),
  (6, .istore_n 3, 1, 0, 0, 0, []),
  (7, .iload_n 3, 1, 0, 0, 0, []),
  (8, .ifCond .lt 16, 3, 15, 0, 0, []),
  (11, .iload_n 3, 1, 0, 0, 0, []),
  (12, .aload_n 0, 1, 0, 0, 0, []),
  (13, .getfield 10, 3, 11, 0, 0, []),
  (16, .getfield 172, 3, 7, 8, 8, []),
  (19, .iload_n 1, 1, 0, 0, 0, []),
  (20, .iaload, 1, 0, 0, 0, []),
  (21, .if_icmp .lt 6, 3, 17, 0, 0, []),
  (24, .bipush (-9), 2, 0, 0, 0, []),
  (26, .ireturn, 1, 0, 0, 0, []),
  (27, .iload_n 2, 1, 0, 0, 0, []),
  (28, .bipush 10, 2, 0, 0, 0, []),
  (30, .if_icmp .ge 15, 3, 26, 0, 0, []),
  (33, .aload_n 0, 1, 0, 0, 0, []),
  (34, .getfield 10, 3, 11, 0, 0, []),
  (37, .iload_n 1, 1, 0, 0, 0, []),
  (38, .iload_n 3, 1, 0, 0, 0, []),
  (39, .invokevirtual 205, 3, 13, 7, 0, [3, 0, 0, 1, 3]),
  (42, .goto 12, 3, 31, 0, 0, []),
  (45, .aload_n 0, 1, 0, 0, 0, []),
  (46, .getfield 10, 3, 11, 0, 0, []),
  (49, .iload_n 1, 1, 0, 0, 0, []),
  (50, .iload_n 3, 1, 0, 0, 0, []),
  (51, .invokevirtual 208, 3, 10, 7, 0, [3, 0, 0, 1, 3]),
  (54, .ireturn, 1, 0, 0, 0, [])]
/-- 116 FallRows.about(II)I -/
def k116 : List fr_E := [(0, .aload_n 0, 1, 0, 0, 0, []),
  (1, .getfield 10, 3, 11, 0, 0, []),
  (4, .iload_n 1, 1, 0, 0, 0, []),
  (5, .invokevirtual 151, 3, 61, 7, 0, [2, 0, 0, 1, 2]),
  (8, .ifCond .eq 13, 3, 10, 0, 0, []),
  (11, .iload_n 2, 1, 0, 0, 0, []),
  (12, .ifCond .lt 9, 3, 10, 0, 0, []),
  (15, .iload_n 2, 1, 0, 0, 0, []),
  (16, .bipush 14, 2, 0, 0, 0, []),
  (18, .if_icmp .le 5, 3, 12, 0, 0, []),
  (21, .iconst (-1), 1, 0, 0, 0, []),
  (22, .ireturn, 1, 0, 0, 0, []),
  (23, .iload_n 2, 1, 0, 0, 0, []),
  (24, .tableswitch 167 0 14 #[76, 86, 96, 106, 119, 129, 167, 167, 167, 167, 167, 167, 167, 167, 139], 76, 66, 0, 0, [14, 20, 26, 32, 39, 45, 66, 66, 66, 66, 66, 66, 66, 66, 51]),
  (100, .aload_n 0, 1, 0, 0, 0, []),
  (101, .getfield 10, 3, 11, 0, 0, []),
  (104, .getfield 161, 3, 7, 4, 4, []),
  (107, .iload_n 1, 1, 0, 0, 0, []),
  (108, .iaload, 1, 0, 0, 0, []),
  (109, .ireturn, 1, 0, 0, 0, []),
  (110, .aload_n 0, 1, 0, 0, 0, []),
  (111, .getfield 10, 3, 11, 0, 0, []),
  (114, .getfield 190, 3, 7, 6, 6, []),
  (117, .iload_n 1, 1, 0, 0, 0, []),
  (118, .iaload, 1, 0, 0, 0, []),
  (119, .ireturn, 1, 0, 0, 0, []),
  (120, .aload_n 0, 1, 0, 0, 0, []),
  (121, .getfield 10, 3, 11, 0, 0, []),
  (124, .getfield 193, 3, 7, 7, 7, []),
  (127, .iload_n 1, 1, 0, 0, 0, []),
  (128, .iaload, 1, 0, 0, 0, []),
  (129, .ireturn, 1, 0, 0, 0, []),
  (130, .aload_n 0, 1, 0, 0, 0, []),
  (131, .getfield 10, 3, 11, 0, 0, []),
  (134, .getfield 182, 3, 7, 10, 10, []),
  (137, .iload_n 1, 1, 0, 0, 0, []),
  (138, .baload, 1, 0, 0, 0, []),
  (139, .invokestatic 186, 3, 113, 11, 0, [1, 0, 0, 1, 1]),
  (142, .ireturn, 1, 0, 0, 0, []),
  (143, .aload_n 0, 1, 0, 0, 0, []),
  (144, .getfield 21, 3, 11, 1, 1, []),
  (147, .getfield 196, 3, 5, 2, 2, []),
  (150, .iload_n 1, 1, 0, 0, 0, []),
  (151, .iaload, 1, 0, 0, 0, []),
  (152, .ireturn, 1, 0, 0, 0, []),
  (153, .aload_n 0, 1, 0, 0, 0, []),
  (154, .getfield 10, 3, 11, 0, 0, []),
  (157, .getfield 172, 3, 7, 8, 8, []),
  (160, .iload_n 1, 1, 0, 0, 0, []),
  (161, .iaload, 1, 0, 0, 0, []),
  (162, .ireturn, 1, 0, 0, 0, []),
  (163, .aload_n 0, 1, 0, 0, 0, []),
  (164, .getfield 10, 3, 11, 0, 0, []),
  (167, .getfield 193, 3, 7, 7, 7, []),
  (170, .iload_n 1, 1, 0, 0, 0, []),
  (171, .iaload, 1, 0, 0, 0, []),
  (172, .iconst 5, 1, 0, 0, 0, []),
  (173, .if_icmp .ne 15, 3, 64, 0, 0, []),
  (176, .aload_n 0, 1, 0, 0, 0, []),
  (177, .getfield 10, 3, 11, 0, 0, []),
  (180, .getfield 199, 3, 7, 9, 9, []),
  (183, .iload_n 1, 1, 0, 0, 0, []),
  (184, .iaload, 1, 0, 0, 0, []),
  (185, .goto 5, 3, 65, 0, 0, []),
  (188, .bipush (-9), 2, 0, 0, 0, []),
  (190, .ireturn, 1, 0, 0, 0, []),
  (191, .aload_n 0, 1, 0, 0, 0, []),
  (192, .iload_n 1, 1, 0, 0, 0, []),
  (193, .iload_n 2, 1, 0, 0, 0, []),
  (194, .invokevirtual 202, 3, 115, 11, 0, [3, 0, 0, 1, 4]),
  (197, .ireturn, 1, 0, 0, 0, [])]
/-- 117 FallRows.move(II)I -/
def k117 : List fr_E := [(0, .aload_n 0, 1, 0, 0, 0, []),
  (1, .iload_n 1, 1, 0, 0, 0, []),
  (2, .invokevirtual 179, 3, 112, 11, 0, [2, 0, 0, 1, 2]),
  (5, .ifCond .eq 29, 3, 18, 0, 0, []),
  (8, .iload_n 2, 1, 0, 0, 0, []),
  (9, .iconst 1, 1, 0, 0, 0, []),
  (10, .if_icmp .lt 24, 3, 18, 0, 0, []),
  (13, .iload_n 2, 1, 0, 0, 0, []),
  (14, .aload_n 0, 1, 0, 0, 0, []),
  (15, .getfield 10, 3, 11, 0, 0, []),
  (18, .getfield 131, 3, 7, 2, 2, []),
  (21, .aload_n 0, 1, 0, 0, 0, []),
  (22, .getfield 10, 3, 11, 0, 0, []),
  (25, .getfield 161, 3, 7, 4, 4, []),
  (28, .iload_n 1, 1, 0, 0, 0, []),
  (29, .iaload, 1, 0, 0, 0, []),
  (30, .iaload, 1, 0, 0, 0, []),
  (31, .if_icmp .lt 5, 3, 20, 0, 0, []),
  (34, .iconst (-1), 1, 0, 0, 0, []),
  (35, .ireturn, 1, 0, 0, 0, []),
  (36, .aload_n 0, 1, 0, 0, 0, []),
  (37, .getfield 21, 3, 11, 1, 1, []),
  (40, .aload_n 0, 1, 0, 0, 0, []),
  (41, .getfield 10, 3, 11, 0, 0, []),
  (44, .getfield 161, 3, 7, 4, 4, []),
  (47, .iload_n 1, 1, 0, 0, 0, []),
  (48, .iaload, 1, 0, 0, 0, []),
  (49, .invokevirtual 214, 3, 54, 5, 0, [2, 0, 0, 0, 2]),
  (52, .aload_n 0, 1, 0, 0, 0, []),
  (53, .getfield 21, 3, 11, 1, 1, []),
  (56, .getfield 196, 3, 5, 2, 2, []),
  (59, .iload_n 1, 1, 0, 0, 0, []),
  (60, .iaload, 1, 0, 0, 0, []),
  (61, .istore_n 3, 1, 0, 0, 0, []),
  (62, .aload_n 0, 1, 0, 0, 0, []),
  (63, .getfield 21, 3, 11, 1, 1, []),
  (66, .iload_n 1, 1, 0, 0, 0, []),
  (67, .iload_n 2, 1, 0, 0, 0, []),
  (68, .invokevirtual 217, 3, 48, 5, 0, [3, 0, 0, 0, 8]),
  (71, .aload_n 0, 1, 0, 0, 0, []),
  (72, .getfield 60, 3, 11, 6, 6, []),
  (75, .invokevirtual 148, 3, 26, 3, 0, [1, 0, 0, 0, 1]),
  (78, .iload_n 3, 1, 0, 0, 0, []),
  (79, .ireturn, 1, 0, 0, 0, [])]
/-- 118 FallRows.swap(II)I -/
def k118 : List fr_E := [(0, .aload_n 0, 1, 0, 0, 0, []),
  (1, .iload_n 1, 1, 0, 0, 0, []),
  (2, .invokevirtual 179, 3, 112, 11, 0, [2, 0, 0, 1, 2]),
  (5, .ifCond .eq 32, 3, 19, 0, 0, []),
  (8, .aload_n 0, 1, 0, 0, 0, []),
  (9, .iload_n 2, 1, 0, 0, 0, []),
  (10, .invokevirtual 179, 3, 112, 11, 0, [2, 0, 0, 1, 2]),
  (13, .ifCond .eq 24, 3, 19, 0, 0, []),
  (16, .aload_n 0, 1, 0, 0, 0, []),
  (17, .getfield 10, 3, 11, 0, 0, []),
  (20, .getfield 161, 3, 7, 4, 4, []),
  (23, .iload_n 1, 1, 0, 0, 0, []),
  (24, .iaload, 1, 0, 0, 0, []),
  (25, .aload_n 0, 1, 0, 0, 0, []),
  (26, .getfield 10, 3, 11, 0, 0, []),
  (29, .getfield 161, 3, 7, 4, 4, []),
  (32, .iload_n 2, 1, 0, 0, 0, []),
  (33, .iaload, 1, 0, 0, 0, []),
  (34, .if_icmp .eq 5, 3, 21, 0, 0, []),
  (37, .iconst (-1), 1, 0, 0, 0, []),
  (38, .ireturn, 1, 0, 0, 0, []),
  (39, .aload_n 0, 1, 0, 0, 0, []),
  (40, .getfield 21, 3, 11, 1, 1, []),
  (43, .aload_n 0, 1, 0, 0, 0, []),
  (44, .getfield 10, 3, 11, 0, 0, []),
  (47, .getfield 161, 3, 7, 4, 4, []),
  (50, .iload_n 1, 1, 0, 0, 0, []),
  (51, .iaload, 1, 0, 0, 0, []),
  (52, .invokevirtual 214, 3, 54, 5, 0, [2, 0, 0, 0, 2]),
  (55, .aload_n 0, 1, 0, 0, 0, []),
  (56, .getfield 21, 3, 11, 1, 1, []),
  (59, .iload_n 1, 1, 0, 0, 0, []),
  (60, .iload_n 2, 1, 0, 0, 0, []),
  (61, .invokevirtual 221, 3, 49, 5, 0, [3, 0, 0, 0, 5]),
  (64, .aload_n 0, 1, 0, 0, 0, []),
  (65, .getfield 60, 3, 11, 6, 6, []),
  (68, .invokevirtual 148, 3, 26, 3, 0, [1, 0, 0, 0, 1]),
  (71, .iconst 1, 1, 0, 0, 0, []),
  (72, .ireturn, 1, 0, 0, 0, [])]
/-- 119 FallRows.order(II)I -/
def k119 : List fr_E := [(0, .aload_n 0, 1, 0, 0, 0, []),
  (1, .getfield 10, 3, 11, 0, 0, []),
  (4, .iload_n 1, 1, 0, 0, 0, []),
  (5, .invokevirtual 158, 3, 74, 7, 0, [2, 0, 0, 1, 2]),
  (8, .ifCond .eq 12, 3, 10, 0, 0, []),
  (11, .iload_n 2, 1, 0, 0, 0, []),
  (12, .ifCond .lt 8, 3, 10, 0, 0, []),
  (15, .iload_n 2, 1, 0, 0, 0, []),
  (16, .iconst 3, 1, 0, 0, 0, []),
  (17, .if_icmp .le 5, 3, 12, 0, 0, []),
  (20, .iconst (-1), 1, 0, 0, 0, []),
  (21, .ireturn, 1, 0, 0, 0, []),
  (22, .aload_n 0, 1, 0, 0, 0, []),
  (23, .getfield 21, 3, 11, 1, 1, []),
  (26, .iload_n 1, 1, 0, 0, 0, []),
  (27, .invokevirtual 214, 3, 54, 5, 0, [2, 0, 0, 0, 2]),
  (30, .aload_n 0, 1, 0, 0, 0, []),
  (31, .getfield 28, 3, 11, 2, 2, []),
  (34, .iload_n 1, 1, 0, 0, 0, []),
  (35, .invokevirtual 224, 3, 22, 2, 0, [2, 0, 0, 0, 5]),
  (38, .aload_n 0, 1, 0, 0, 0, []),
  (39, .getfield 21, 3, 11, 1, 1, []),
  (42, .iload_n 1, 1, 0, 0, 0, []),
  (43, .aload_n 0, 1, 0, 0, 0, []),
  (44, .getfield 109, 3, 11, 15, 15, []),
  (47, .invokevirtual 227, 3, 50, 5, 0, [3, 0, 0, 0, 4]),
  (50, .iload_n 2, 1, 0, 0, 0, []),
  (51, .ifCond .ne 32, 3, 43, 0, 0, []),
  (54, .iconst 0, 1, 0, 0, 0, []),
  (55, .istore_n 3, 1, 0, 0, 0, []),
  (56, .iload_n 3, 1, 0, 0, 0, []),
  (57, .aload_n 0, 1, 0, 0, 0, []),
  (58, .getfield 28, 3, 11, 2, 2, []),
  (61, .getfield 231, 3, 2, 2, 2, []),
  (64, .if_icmp .ge 16, 3, 42, 0, 0, []),
  (67, .aload_n 0, 1, 0, 0, 0, []),
  (68, .getfield 109, 3, 11, 15, 15, []),
  (71, .iload_n 3, 1, 0, 0, 0, []),
  (72, .iload_n 3, 1, 0, 0, 0, []),
  (73, .iastore, 1, 0, 0, 0, []),
  (74, .iinc 3 1, 3, 0, 0, 0, []),
  (77, .goto (-21), 3, 30, 0, 0, []),
  (80, .goto 54, 3, 68, 0, 0, []),
  (83, .iload_n 2, 1, 0, 0, 0, []),
  (84, .iconst 1, 1, 0, 0, 0, []),
  (85, .if_icmp .ne 18, 3, 53, 0, 0, []),
  (88, .aload_n 0, 1, 0, 0, 0, []),
  (89, .getfield 37, 3, 11, 3, 3, []),
  (92, .aload_n 0, 1, 0, 0, 0, []),
  (93, .getfield 109, 3, 11, 15, 15, []),
  (96, .invokevirtual 234, 3, 6, 0, 0, [2, 0, 0, 1, 5]),
  (99, .pop, 1, 0, 0, 0, []),
  (100, .goto 34, 3, 68, 0, 0, []),
  (103, .iload_n 2, 1, 0, 0, 0, []),
  (104, .iconst 2, 1, 0, 0, 0, []),
  (105, .if_icmp .ne 17, 3, 62, 0, 0, []),
  (108, .aload_n 0, 1, 0, 0, 0, []),
  (109, .getfield 44, 3, 11, 4, 4, []),
  (112, .aload_n 0, 1, 0, 0, 0, []),
  (113, .getfield 109, 3, 11, 15, 15, []),
  (116, .invokevirtual 238, 3, 43, 4, 0, [2, 0, 0, 0, 3]),
  (119, .goto 15, 3, 68, 0, 0, []),
  (122, .aload_n 0, 1, 0, 0, 0, []),
  (123, .getfield 51, 3, 11, 5, 5, []),
  (126, .iload_n 1, 1, 0, 0, 0, []),
  (127, .aload_n 0, 1, 0, 0, 0, []),
  (128, .getfield 109, 3, 11, 15, 15, []),
  (131, .invokevirtual 242, 3, 19, 1, 0, [3, 0, 0, 0, 4]),
  (134, .aload_n 0, 1, 0, 0, 0, []),
  (135, .getfield 21, 3, 11, 1, 1, []),
  (138, .iload_n 1, 1, 0, 0, 0, []),
  (139, .aload_n 0, 1, 0, 0, 0, []),
  (140, .getfield 109, 3, 11, 15, 15, []),
  (143, .invokevirtual 244, 3, 51, 5, 0, [3, 0, 0, 0, 4]),
  (146, .aload_n 0, 1, 0, 0, 0, []),
  (147, .getfield 60, 3, 11, 6, 6, []),
  (150, .invokevirtual 148, 3, 26, 3, 0, [1, 0, 0, 0, 1]),
  (153, .aload_n 0, 1, 0, 0, 0, []),
  (154, .getfield 28, 3, 11, 2, 2, []),
  (157, .aload_n 0, 1, 0, 0, 0, []),
  (158, .getfield 109, 3, 11, 15, 15, []),
  (161, .invokevirtual 247, 3, 23, 2, 0, [2, 0, 0, 1, 4]),
  (164, .ireturn, 1, 0, 0, 0, [])]
/-- 120 FallRows.undo()I -/
def k120 : List fr_E := [(0, .aload_n 0, 1, 0, 0, 0, []),
  (1, .getfield 21, 3, 11, 1, 1, []),
  (4, .getfield 250, 3, 5, 5, 5, []),
  (7, .ifCond .ne 6, 3, 6, 0, 0, []),
  (10, .bipush (-2), 2, 0, 0, 0, []),
  (12, .ireturn, 1, 0, 0, 0, []),
  (13, .aload_n 0, 1, 0, 0, 0, []),
  (14, .getfield 21, 3, 11, 1, 1, []),
  (17, .invokevirtual 253, 3, 55, 5, 0, [1, 0, 0, 0, 3]),
  (20, .aload_n 0, 1, 0, 0, 0, []),
  (21, .getfield 60, 3, 11, 6, 6, []),
  (24, .invokevirtual 148, 3, 26, 3, 0, [1, 0, 0, 0, 1]),
  (27, .aload_n 0, 1, 0, 0, 0, []),
  (28, .getfield 21, 3, 11, 1, 1, []),
  (31, .getfield 250, 3, 5, 5, 5, []),
  (34, .ireturn, 1, 0, 0, 0, [])]
/-- 121 java/lang/Integer.bitCount(I)I -/
def k121 : List fr_E := [(0, .iload_n 0, 1, 0, 0, 0, []),
  (1, .iload_n 0, 1, 0, 0, 0, []),
  (2, .iconst 1, 1, 0, 0, 0, []),
  (3, .iushr, 1, 0, 0, 0, []),
  (4, .ldc_w 265, 3, 0, 0, 1431655765, []),
  (7, .iand, 1, 0, 0, 0, []),
  (8, .isub, 1, 0, 0, 0, []),
  (9, .istore_n 0, 1, 0, 0, 0, []),
  (10, .iload_n 0, 1, 0, 0, 0, []),
  (11, .ldc_w 266, 3, 0, 0, 858993459, []),
  (14, .iand, 1, 0, 0, 0, []),
  (15, .iload_n 0, 1, 0, 0, 0, []),
  (16, .iconst 2, 1, 0, 0, 0, []),
  (17, .iushr, 1, 0, 0, 0, []),
  (18, .ldc_w 266, 3, 0, 0, 858993459, []),
  (21, .iand, 1, 0, 0, 0, []),
  (22, .iadd, 1, 0, 0, 0, []),
  (23, .istore_n 0, 1, 0, 0, 0, []),
  (24, .iload_n 0, 1, 0, 0, 0, []),
  (25, .iload_n 0, 1, 0, 0, 0, []),
  (26, .iconst 4, 1, 0, 0, 0, []),
  (27, .iushr, 1, 0, 0, 0, []),
  (28, .iadd, 1, 0, 0, 0, []),
  (29, .ldc_w 267, 3, 0, 0, 252645135, []),
  (32, .iand, 1, 0, 0, 0, []),
  (33, .istore_n 0, 1, 0, 0, 0, []),
  (34, .iload_n 0, 1, 0, 0, 0, []),
  (35, .iload_n 0, 1, 0, 0, 0, []),
  (36, .bipush 8, 2, 0, 0, 0, []),
  (38, .iushr, 1, 0, 0, 0, []),
  (39, .iadd, 1, 0, 0, 0, []),
  (40, .istore_n 0, 1, 0, 0, 0, []),
  (41, .iload_n 0, 1, 0, 0, 0, []),
  (42, .iload_n 0, 1, 0, 0, 0, []),
  (43, .bipush 16, 2, 0, 0, 0, []),
  (45, .iushr, 1, 0, 0, 0, []),
  (46, .iadd, 1, 0, 0, 0, []),
  (47, .istore_n 0, 1, 0, 0, 0, []),
  (48, .iload_n 0, 1, 0, 0, 0, []),
  (49, .bipush 63, 2, 0, 0, 0, []),
  (51, .iand, 1, 0, 0, 0, []),
  (52, .ireturn, 1, 0, 0, 0, [])]
/-- 122 FallRows.set(II)I -/
def k122 : List fr_E := [(0, .iload_n 1, 1, 0, 0, 0, []),
  (1, .ifCond .ne 49, 3, 26, 0, 0, []),
  (4, .iload_n 2, 1, 0, 0, 0, []),
  (5, .ifCond .eq 8, 3, 7, 0, 0, []),
  (8, .iload_n 2, 1, 0, 0, 0, []),
  (9, .iconst 1, 1, 0, 0, 0, []),
  (10, .if_icmp .ne 40, 3, 26, 0, 0, []),
  (13, .aload_n 0, 1, 0, 0, 0, []),
  (14, .getfield 60, 3, 11, 6, 6, []),
  (17, .getfield 256, 3, 3, 12, 12, []),
  (20, .invokestatic 186, 3, 113, 11, 0, [1, 0, 0, 1, 1]),
  (23, .istore_n 3, 1, 0, 0, 0, []),
  (24, .aload_n 0, 1, 0, 0, 0, []),
  (25, .getfield 60, 3, 11, 6, 6, []),
  (28, .iload_n 2, 1, 0, 0, 0, []),
  (29, .iconst 1, 1, 0, 0, 0, []),
  (30, .if_icmp .ne 7, 3, 19, 0, 0, []),
  (33, .iconst 1, 1, 0, 0, 0, []),
  (34, .goto 4, 3, 20, 0, 0, []),
  (37, .iconst 0, 1, 0, 0, 0, []),
  (38, .putfield 256, 3, 3, 12, 12, [1]),
  (41, .aload_n 0, 1, 0, 0, 0, []),
  (42, .getfield 60, 3, 11, 6, 6, []),
  (45, .invokevirtual 148, 3, 26, 3, 0, [1, 0, 0, 0, 1]),
  (48, .iload_n 3, 1, 0, 0, 0, []),
  (49, .ireturn, 1, 0, 0, 0, []),
  (50, .iload_n 1, 1, 0, 0, 0, []),
  (51, .iconst 1, 1, 0, 0, 0, []),
  (52, .if_icmp .ne 47, 3, 52, 0, 0, []),
  (55, .iload_n 2, 1, 0, 0, 0, []),
  (56, .iconst 1, 1, 0, 0, 0, []),
  (57, .if_icmp .lt 42, 3, 52, 0, 0, []),
  (60, .iload_n 2, 1, 0, 0, 0, []),
  (61, .bipush 16, 2, 0, 0, 0, []),
  (63, .if_icmp .gt 36, 3, 52, 0, 0, []),
  (66, .iload_n 2, 1, 0, 0, 0, []),
  (67, .invokestatic 259, 3, 121, 14, 0, [1, 0, 0, 1, 1]),
  (70, .iconst 1, 1, 0, 0, 0, []),
  (71, .if_icmp .ne 28, 3, 52, 0, 0, []),
  (74, .aload_n 0, 1, 0, 0, 0, []),
  (75, .getfield 60, 3, 11, 6, 6, []),
  (78, .getfield 264, 3, 3, 11, 11, []),
  (81, .istore_n 3, 1, 0, 0, 0, []),
  (82, .aload_n 0, 1, 0, 0, 0, []),
  (83, .getfield 60, 3, 11, 6, 6, []),
  (86, .iload_n 2, 1, 0, 0, 0, []),
  (87, .putfield 264, 3, 3, 11, 11, []),
  (90, .aload_n 0, 1, 0, 0, 0, []),
  (91, .getfield 60, 3, 11, 6, 6, []),
  (94, .invokevirtual 148, 3, 26, 3, 0, [1, 0, 0, 0, 1]),
  (97, .iload_n 3, 1, 0, 0, 0, []),
  (98, .ireturn, 1, 0, 0, 0, []),
  (99, .iload_n 1, 1, 0, 0, 0, []),
  (100, .iconst 2, 1, 0, 0, 0, []),
  (101, .if_icmp .ne 25, 3, 68, 0, 0, []),
  (104, .iload_n 2, 1, 0, 0, 0, []),
  (105, .ifCond .lt 21, 3, 68, 0, 0, []),
  (108, .iload_n 2, 1, 0, 0, 0, []),
  (109, .bipush 8, 2, 0, 0, 0, []),
  (111, .if_icmp .gt 15, 3, 68, 0, 0, []),
  (114, .aload_n 0, 1, 0, 0, 0, []),
  (115, .getfield 112, 3, 11, 16, 16, []),
  (118, .istore_n 3, 1, 0, 0, 0, []),
  (119, .aload_n 0, 1, 0, 0, 0, []),
  (120, .iload_n 2, 1, 0, 0, 0, []),
  (121, .putfield 112, 3, 11, 16, 16, []),
  (124, .iload_n 3, 1, 0, 0, 0, []),
  (125, .ireturn, 1, 0, 0, 0, []),
  (126, .iconst (-1), 1, 0, 0, 0, []),
  (127, .ireturn, 1, 0, 0, 0, [])]
/-- 123 FallRows.weight(II)I -/
def k123 : List fr_E := [(0, .aload_n 0, 1, 0, 0, 0, []),
  (1, .getfield 10, 3, 11, 0, 0, []),
  (4, .iload_n 1, 1, 0, 0, 0, []),
  (5, .invokevirtual 158, 3, 74, 7, 0, [2, 0, 0, 1, 2]),
  (8, .ifCond .eq 12, 3, 10, 0, 0, []),
  (11, .iload_n 2, 1, 0, 0, 0, []),
  (12, .ifCond .lt 8, 3, 10, 0, 0, []),
  (15, .iload_n 2, 1, 0, 0, 0, []),
  (16, .iconst 3, 1, 0, 0, 0, []),
  (17, .if_icmp .le 5, 3, 12, 0, 0, []),
  (20, .iconst (-1), 1, 0, 0, 0, []),
  (21, .ireturn, 1, 0, 0, 0, []),
  (22, .aload_n 0, 1, 0, 0, 0, []),
  (23, .getfield 28, 3, 11, 2, 2, []),
  (26, .iload_n 1, 1, 0, 0, 0, []),
  (27, .invokevirtual 224, 3, 22, 2, 0, [2, 0, 0, 0, 5]),
  (30, .aload_n 0, 1, 0, 0, 0, []),
  (31, .getfield 21, 3, 11, 1, 1, []),
  (34, .iload_n 1, 1, 0, 0, 0, []),
  (35, .aload_n 0, 1, 0, 0, 0, []),
  (36, .getfield 109, 3, 11, 15, 15, []),
  (39, .invokevirtual 227, 3, 50, 5, 0, [3, 0, 0, 0, 4]),
  (42, .iload_n 2, 1, 0, 0, 0, []),
  (43, .ifCond .ne 15, 3, 30, 0, 0, []),
  (46, .aload_n 0, 1, 0, 0, 0, []),
  (47, .getfield 28, 3, 11, 2, 2, []),
  (50, .aload_n 0, 1, 0, 0, 0, []),
  (51, .getfield 109, 3, 11, 15, 15, []),
  (54, .invokevirtual 247, 3, 23, 2, 0, [2, 0, 0, 1, 4]),
  (57, .ireturn, 1, 0, 0, 0, []),
  (58, .iload_n 2, 1, 0, 0, 0, []),
  (59, .iconst 1, 1, 0, 0, 0, []),
  (60, .if_icmp .ne 15, 3, 39, 0, 0, []),
  (63, .aload_n 0, 1, 0, 0, 0, []),
  (64, .getfield 37, 3, 11, 3, 3, []),
  (67, .aload_n 0, 1, 0, 0, 0, []),
  (68, .getfield 109, 3, 11, 15, 15, []),
  (71, .invokevirtual 234, 3, 6, 0, 0, [2, 0, 0, 1, 5]),
  (74, .ireturn, 1, 0, 0, 0, []),
  (75, .iload_n 2, 1, 0, 0, 0, []),
  (76, .iconst 2, 1, 0, 0, 0, []),
  (77, .if_icmp .ne 13, 3, 46, 0, 0, []),
  (80, .aload_n 0, 1, 0, 0, 0, []),
  (81, .getfield 28, 3, 11, 2, 2, []),
  (84, .invokevirtual 267, 3, 24, 2, 0, [1, 0, 0, 1, 5]),
  (87, .goto 11, 3, 50, 0, 0, []),
  (90, .aload_n 0, 1, 0, 0, 0, []),
  (91, .getfield 21, 3, 11, 1, 1, []),
  (94, .iload_n 1, 1, 0, 0, 0, []),
  (95, .invokevirtual 270, 3, 53, 5, 0, [2, 0, 0, 1, 4]),
  (98, .ireturn, 1, 0, 0, 0, [])]
/-- 124 FallRows.row(I)I -/
def k124 : List fr_E := [(0, .iload_n 1, 1, 0, 0, 0, []),
  (1, .ifCond .lt 14, 3, 7, 0, 0, []),
  (4, .iload_n 1, 1, 0, 0, 0, []),
  (5, .aload_n 0, 1, 0, 0, 0, []),
  (6, .getfield 10, 3, 11, 0, 0, []),
  (9, .getfield 134, 3, 7, 1, 1, []),
  (12, .if_icmp .lt 6, 3, 9, 0, 0, []),
  (15, .bipush (-9), 2, 0, 0, 0, []),
  (17, .ireturn, 1, 0, 0, 0, []),
  (18, .aload_n 0, 1, 0, 0, 0, []),
  (19, .getfield 60, 3, 11, 6, 6, []),
  (22, .invokevirtual 273, 3, 36, 3, 0, [1, 0, 0, 0, 2]),
  (25, .aload_n 0, 1, 0, 0, 0, []),
  (26, .getfield 60, 3, 11, 6, 6, []),
  (29, .getfield 276, 3, 3, 2, 2, []),
  (32, .iload_n 1, 1, 0, 0, 0, []),
  (33, .iaload, 1, 0, 0, 0, []),
  (34, .ireturn, 1, 0, 0, 0, [])]
/-- 125 FallRows.laid(II)I -/
def k125 : List fr_E := [(0, .aload_n 0, 1, 0, 0, 0, []),
  (1, .getfield 10, 3, 11, 0, 0, []),
  (4, .iload_n 1, 1, 0, 0, 0, []),
  (5, .invokevirtual 151, 3, 61, 7, 0, [2, 0, 0, 1, 2]),
  (8, .ifCond .eq 12, 3, 10, 0, 0, []),
  (11, .iload_n 2, 1, 0, 0, 0, []),
  (12, .ifCond .lt 8, 3, 10, 0, 0, []),
  (15, .iload_n 2, 1, 0, 0, 0, []),
  (16, .iconst 5, 1, 0, 0, 0, []),
  (17, .if_icmp .le 5, 3, 12, 0, 0, []),
  (20, .iconst (-1), 1, 0, 0, 0, []),
  (21, .ireturn, 1, 0, 0, 0, []),
  (22, .aload_n 0, 1, 0, 0, 0, []),
  (23, .getfield 60, 3, 11, 6, 6, []),
  (26, .invokevirtual 273, 3, 36, 3, 0, [1, 0, 0, 0, 2]),
  (29, .iload_n 2, 1, 0, 0, 0, []),
  (30, .tableswitch 103 0 4 #[34, 44, 54, 73, 83], 34, 58, 0, 0, [17, 23, 29, 40, 46]),
  (64, .aload_n 0, 1, 0, 0, 0, []),
  (65, .getfield 60, 3, 11, 6, 6, []),
  (68, .getfield 279, 3, 3, 4, 4, []),
  (71, .iload_n 1, 1, 0, 0, 0, []),
  (72, .iaload, 1, 0, 0, 0, []),
  (73, .ireturn, 1, 0, 0, 0, []),
  (74, .aload_n 0, 1, 0, 0, 0, []),
  (75, .getfield 60, 3, 11, 6, 6, []),
  (78, .getfield 282, 3, 3, 5, 5, []),
  (81, .iload_n 1, 1, 0, 0, 0, []),
  (82, .iaload, 1, 0, 0, 0, []),
  (83, .ireturn, 1, 0, 0, 0, []),
  (84, .aload_n 0, 1, 0, 0, 0, []),
  (85, .getfield 60, 3, 11, 6, 6, []),
  (88, .getfield 282, 3, 3, 5, 5, []),
  (91, .iload_n 1, 1, 0, 0, 0, []),
  (92, .iaload, 1, 0, 0, 0, []),
  (93, .aload_n 0, 1, 0, 0, 0, []),
  (94, .getfield 60, 3, 11, 6, 6, []),
  (97, .iload_n 1, 1, 0, 0, 0, []),
  (98, .invokevirtual 285, 3, 37, 3, 0, [2, 0, 0, 1, 2]),
  (101, .isub, 1, 0, 0, 0, []),
  (102, .ireturn, 1, 0, 0, 0, []),
  (103, .aload_n 0, 1, 0, 0, 0, []),
  (104, .getfield 60, 3, 11, 6, 6, []),
  (107, .iload_n 1, 1, 0, 0, 0, []),
  (108, .iconst 1, 1, 0, 0, 0, []),
  (109, .invokevirtual 288, 3, 38, 3, 0, [3, 0, 0, 1, 5]),
  (112, .ireturn, 1, 0, 0, 0, []),
  (113, .aload_n 0, 1, 0, 0, 0, []),
  (114, .getfield 60, 3, 11, 6, 6, []),
  (117, .iload_n 1, 1, 0, 0, 0, []),
  (118, .iconst 1, 1, 0, 0, 0, []),
  (119, .invokevirtual 288, 3, 38, 3, 0, [3, 0, 0, 1, 5]),
  (122, .aload_n 0, 1, 0, 0, 0, []),
  (123, .getfield 60, 3, 11, 6, 6, []),
  (126, .iload_n 1, 1, 0, 0, 0, []),
  (127, .iconst 0, 1, 0, 0, 0, []),
  (128, .invokevirtual 288, 3, 38, 3, 0, [3, 0, 0, 1, 5]),
  (131, .iadd, 1, 0, 0, 0, []),
  (132, .ireturn, 1, 0, 0, 0, []),
  (133, .aload_n 0, 1, 0, 0, 0, []),
  (134, .getfield 60, 3, 11, 6, 6, []),
  (137, .getfield 292, 3, 3, 10, 10, []),
  (140, .iload_n 1, 1, 0, 0, 0, []),
  (141, .iaload, 1, 0, 0, 0, []),
  (142, .ireturn, 1, 0, 0, 0, [])]
/-- 126 FallRows.image(I)I -/
def k126 : List fr_E := [(0, .aload_n 0, 1, 0, 0, 0, []),
  (1, .getfield 69, 3, 11, 7, 7, []),
  (4, .invokevirtual 295, 3, 71, 6, 0, [1, 0, 0, 0, 2]),
  (7, .iload_n 1, 1, 0, 0, 0, []),
  (8, .ifCond .lt 14, 3, 10, 0, 0, []),
  (11, .iload_n 1, 1, 0, 0, 0, []),
  (12, .aload_n 0, 1, 0, 0, 0, []),
  (13, .getfield 60, 3, 11, 6, 6, []),
  (16, .getfield 298, 3, 3, 16, 16, []),
  (19, .if_icmp .lt 8, 3, 12, 0, 0, []),
  (22, .bipush (-9), 2, 0, 0, 0, []),
  (24, .goto 11, 3, 16, 0, 0, []),
  (27, .aload_n 0, 1, 0, 0, 0, []),
  (28, .getfield 69, 3, 11, 7, 7, []),
  (31, .iload_n 1, 1, 0, 0, 0, []),
  (32, .invokevirtual 301, 3, 58, 6, 0, [2, 0, 0, 1, 2]),
  (35, .ireturn, 1, 0, 0, 0, [])]
/-- 127 FallRows.told(I)I -/
def k127 : List fr_E := [(0, .aload_n 0, 1, 0, 0, 0, []),
  (1, .getfield 60, 3, 11, 6, 6, []),
  (4, .invokevirtual 273, 3, 36, 3, 0, [1, 0, 0, 0, 2]),
  (7, .iload_n 1, 1, 0, 0, 0, []),
  (8, .tableswitch 98 0 5 #[40, 48, 56, 65, 74, 82], 40, 35, 0, 0, [5, 9, 13, 18, 23, 27]),
  (48, .aload_n 0, 1, 0, 0, 0, []),
  (49, .getfield 60, 3, 11, 6, 6, []),
  (52, .getfield 298, 3, 3, 16, 16, []),
  (55, .ireturn, 1, 0, 0, 0, []),
  (56, .aload_n 0, 1, 0, 0, 0, []),
  (57, .getfield 60, 3, 11, 6, 6, []),
  (60, .getfield 304, 3, 3, 14, 14, []),
  (63, .ireturn, 1, 0, 0, 0, []),
  (64, .aload_n 0, 1, 0, 0, 0, []),
  (65, .getfield 60, 3, 11, 6, 6, []),
  (68, .iconst 0, 1, 0, 0, 0, []),
  (69, .invokevirtual 307, 3, 39, 3, 0, [2, 0, 0, 1, 4]),
  (72, .ireturn, 1, 0, 0, 0, []),
  (73, .aload_n 0, 1, 0, 0, 0, []),
  (74, .getfield 60, 3, 11, 6, 6, []),
  (77, .iconst 1, 1, 0, 0, 0, []),
  (78, .invokevirtual 307, 3, 39, 3, 0, [2, 0, 0, 1, 4]),
  (81, .ireturn, 1, 0, 0, 0, []),
  (82, .aload_n 0, 1, 0, 0, 0, []),
  (83, .getfield 60, 3, 11, 6, 6, []),
  (86, .getfield 310, 3, 3, 13, 13, []),
  (89, .ireturn, 1, 0, 0, 0, []),
  (90, .aload_n 0, 1, 0, 0, 0, []),
  (91, .getfield 60, 3, 11, 6, 6, []),
  (94, .getfield 298, 3, 3, 16, 16, []),
  (97, .aload_n 0, 1, 0, 0, 0, []),
  (98, .getfield 60, 3, 11, 6, 6, []),
  (101, .getfield 313, 3, 3, 15, 15, []),
  (104, .isub, 1, 0, 0, 0, []),
  (105, .ireturn, 1, 0, 0, 0, []),
  (106, .iconst (-1), 1, 0, 0, 0, []),
  (107, .ireturn, 1, 0, 0, 0, [])]
/-- 128 FallRows.say(JI)I -/
def k128 : List fr_E := [(0, .iload_n 3, 1, 0, 0, 0, []),
  (1, .iconst 1, 1, 0, 0, 0, []),
  (2, .if_icmp .lt 9, 3, 6, 0, 0, []),
  (5, .iload_n 3, 1, 0, 0, 0, []),
  (6, .bipush 8, 2, 0, 0, 0, []),
  (8, .if_icmp .le 5, 3, 8, 0, 0, []),
  (11, .iconst (-1), 1, 0, 0, 0, []),
  (12, .ireturn, 1, 0, 0, 0, []),
  (13, .aload_n 0, 1, 0, 0, 0, []),
  (14, .getfield 76, 3, 11, 8, 8, []),
  (17, .getfield 316, 3, 9, 1, 1, []),
  (20, .iload_n 3, 1, 0, 0, 0, []),
  (21, .iadd, 1, 0, 0, 0, []),
  (22, .sipush 200, 3, 0, 0, 0, []),
  (25, .if_icmp .le 6, 3, 17, 0, 0, []),
  (28, .bipush (-3), 2, 0, 0, 0, []),
  (30, .ireturn, 1, 0, 0, 0, []),
  (31, .iload_n 3, 1, 0, 0, 0, []),
  (32, .iconst 1, 1, 0, 0, 0, []),
  (33, .isub, 1, 0, 0, 0, []),
  (34, .istore 4, 2, 0, 0, 0, []),
  (36, .iload 4, 2, 0, 0, 0, []),
  (38, .ifCond .lt 28, 3, 36, 0, 0, []),
  (41, .aload_n 0, 1, 0, 0, 0, []),
  (42, .getfield 76, 3, 11, 8, 8, []),
  (45, .lload_n 1, 1, 0, 0, 0, []),
  (46, .bipush 8, 2, 0, 0, 0, []),
  (48, .iload 4, 2, 0, 0, 0, []),
  (50, .imul, 1, 0, 0, 0, []),
  (51, .lushr, 1, 0, 0, 0, []),
  (52, .l2i, 1, 0, 0, 0, []),
  (53, .sipush 255, 3, 0, 0, 0, []),
  (56, .iand, 1, 0, 0, 0, []),
  (57, .invokevirtual 319, 3, 99, 9, 0, [2, 0, 0, 0, 2]),
  (60, .iinc 4 (-1), 3, 0, 0, 0, []),
  (63, .goto (-27), 3, 21, 0, 0, []),
  (66, .aload_n 0, 1, 0, 0, 0, []),
  (67, .getfield 76, 3, 11, 8, 8, []),
  (70, .getfield 316, 3, 9, 1, 1, []),
  (73, .ireturn, 1, 0, 0, 0, [])]
/-- 129 FallRows.tear()I -/
def k129 : List fr_E := [(0, .aload_n 0, 1, 0, 0, 0, []),
  (1, .getfield 76, 3, 11, 8, 8, []),
  (4, .getfield 316, 3, 9, 1, 1, []),
  (7, .istore_n 1, 1, 0, 0, 0, []),
  (8, .aload_n 0, 1, 0, 0, 0, []),
  (9, .getfield 76, 3, 11, 8, 8, []),
  (12, .iconst 0, 1, 0, 0, 0, []),
  (13, .putfield 316, 3, 9, 1, 1, []),
  (16, .iload_n 1, 1, 0, 0, 0, []),
  (17, .ireturn, 1, 0, 0, 0, [])]
/-- 130 FallRows.isSort(I)Z -/
def k130 : List fr_E := [(0, .iload_n 0, 1, 0, 0, 0, []),
  (1, .ifCond .eq 8, 3, 5, 0, 0, []),
  (4, .iload_n 0, 1, 0, 0, 0, []),
  (5, .iconst 1, 1, 0, 0, 0, []),
  (6, .if_icmp .ne 7, 3, 7, 0, 0, []),
  (9, .iconst 1, 1, 0, 0, 0, []),
  (10, .goto 4, 3, 8, 0, 0, []),
  (13, .iconst 0, 1, 0, 0, 0, []),
  (14, .ireturn, 1, 1, 0, 0, [])]
/-- 131 FallRows.run(II)I -/
def k131 : List fr_E := [(0, .aload_n 0, 1, 0, 0, 0, []),
  (1, .getfield 10, 3, 11, 0, 0, []),
  (4, .iload_n 1, 1, 0, 0, 0, []),
  (5, .invokevirtual 151, 3, 61, 7, 0, [2, 0, 0, 1, 2]),
  (8, .ifCond .eq 10, 3, 8, 0, 0, []),
  (11, .iload_n 2, 1, 0, 0, 0, []),
  (12, .invokestatic 320, 3, 130, 11, 0, [1, 0, 0, 1, 1]),
  (15, .ifCond .ne 5, 3, 10, 0, 0, []),
  (18, .iconst (-1), 1, 0, 0, 0, []),
  (19, .ireturn, 1, 0, 0, 0, []),
  (20, .iload_n 2, 1, 0, 0, 0, []),
  (21, .ifCond .ne 28, 3, 25, 0, 0, []),
  (24, .aload_n 0, 1, 0, 0, 0, []),
  (25, .getfield 85, 3, 11, 9, 9, []),
  (28, .iload_n 1, 1, 0, 0, 0, []),
  (29, .aload_n 0, 1, 0, 0, 0, []),
  (30, .getfield 92, 3, 11, 10, 10, []),
  (33, .invokevirtual 323, 3, 90, 8, 0, [3, 0, 0, 0, 5]),
  (36, .aload_n 0, 1, 0, 0, 0, []),
  (37, .iconst 1, 1, 0, 0, 0, []),
  (38, .putfield 116, 3, 11, 17, 17, [1]),
  (41, .aload_n 0, 1, 0, 0, 0, []),
  (42, .getfield 92, 3, 11, 10, 10, []),
  (45, .getfield 327, 3, 10, 1, 1, []),
  (48, .ireturn, 1, 0, 0, 0, []),
  (49, .aload_n 0, 1, 0, 0, 0, []),
  (50, .getfield 85, 3, 11, 9, 9, []),
  (53, .iload_n 1, 1, 0, 0, 0, []),
  (54, .aload_n 0, 1, 0, 0, 0, []),
  (55, .getfield 96, 3, 11, 11, 11, []),
  (58, .invokevirtual 330, 3, 97, 8, 0, [3, 0, 0, 0, 5]),
  (61, .aload_n 0, 1, 0, 0, 0, []),
  (62, .getfield 96, 3, 11, 11, 11, []),
  (65, .aload_n 0, 1, 0, 0, 0, []),
  (66, .getfield 96, 3, 11, 11, 11, []),
  (69, .aload_n 0, 1, 0, 0, 0, []),
  (70, .getfield 112, 3, 11, 16, 16, []),
  (73, .invokevirtual 333, 3, 104, 10, 0, [2, 0, 0, 1, 6]),
  (76, .putfield 336, 3, 10, 9, 9, []),
  (79, .aload_n 0, 1, 0, 0, 0, []),
  (80, .getfield 96, 3, 11, 11, 11, []),
  (83, .getfield 327, 3, 10, 1, 1, []),
  (86, .ireturn, 1, 0, 0, 0, [])]
/-- 132 FallRows.traceOf(I)LFallRows$Trace; -/
def k132 : List fr_E := [(0, .iload_n 1, 1, 0, 0, 0, []),
  (1, .ifCond .ne 10, 3, 5, 0, 0, []),
  (4, .aload_n 0, 1, 0, 0, 0, []),
  (5, .getfield 92, 3, 11, 10, 10, []),
  (8, .goto 7, 3, 7, 0, 0, []),
  (11, .aload_n 0, 1, 0, 0, 0, []),
  (12, .getfield 96, 3, 11, 11, 11, []),
  (15, .areturn, 1, 0, 0, 0, [])]
/-- 133 FallRows.ran(II)I -/
def k133 : List fr_E := [(0, .iload_n 1, 1, 0, 0, 0, []),
  (1, .invokestatic 320, 3, 130, 11, 0, [1, 0, 0, 1, 1]),
  (4, .ifCond .eq 13, 3, 8, 0, 0, []),
  (7, .iload_n 2, 1, 0, 0, 0, []),
  (8, .ifCond .lt 9, 3, 8, 0, 0, []),
  (11, .iload_n 2, 1, 0, 0, 0, []),
  (12, .bipush 8, 2, 0, 0, 0, []),
  (14, .if_icmp .le 5, 3, 10, 0, 0, []),
  (17, .iconst (-1), 1, 0, 0, 0, []),
  (18, .ireturn, 1, 0, 0, 0, []),
  (19, .aload_n 0, 1, 0, 0, 0, []),
  (20, .iload_n 1, 1, 0, 0, 0, []),
  (21, .invokevirtual 339, 3, 132, 11, 0, [2, 0, 0, 1, 2]),
  (24, .astore_n 3, 1, 0, 0, 0, []),
  (25, .aload_n 3, 1, 0, 0, 0, []),
  (26, .getfield 343, 3, 10, 0, 0, []),
  (29, .ifCond .ne 6, 3, 19, 0, 0, []),
  (32, .bipush (-9), 2, 0, 0, 0, []),
  (34, .ireturn, 1, 0, 0, 0, []),
  (35, .iload_n 2, 1, 0, 0, 0, []),
  (36, .tableswitch 88 0 7 #[48, 53, 58, 63, 68, 73, 78, 83], 48, 45, 0, 0, [21, 24, 27, 30, 33, 36, 39, 42]),
  (84, .aload_n 3, 1, 0, 0, 0, []),
  (85, .getfield 327, 3, 10, 1, 1, []),
  (88, .ireturn, 1, 0, 0, 0, []),
  (89, .aload_n 3, 1, 0, 0, 0, []),
  (90, .getfield 346, 3, 10, 2, 2, []),
  (93, .ireturn, 1, 0, 0, 0, []),
  (94, .aload_n 3, 1, 0, 0, 0, []),
  (95, .getfield 349, 3, 10, 3, 3, []),
  (98, .ireturn, 1, 0, 0, 0, []),
  (99, .aload_n 3, 1, 0, 0, 0, []),
  (100, .getfield 352, 3, 10, 5, 5, []),
  (103, .ireturn, 1, 0, 0, 0, []),
  (104, .aload_n 3, 1, 0, 0, 0, []),
  (105, .invokevirtual 355, 3, 101, 10, 0, [1, 0, 0, 1, 1]),
  (108, .ireturn, 1, 0, 0, 0, []),
  (109, .aload_n 3, 1, 0, 0, 0, []),
  (110, .getfield 358, 3, 10, 6, 6, []),
  (113, .ireturn, 1, 0, 0, 0, []),
  (114, .aload_n 3, 1, 0, 0, 0, []),
  (115, .getfield 361, 3, 10, 7, 7, []),
  (118, .ireturn, 1, 0, 0, 0, []),
  (119, .aload_n 3, 1, 0, 0, 0, []),
  (120, .getfield 364, 3, 10, 8, 8, []),
  (123, .ireturn, 1, 0, 0, 0, []),
  (124, .aload_n 3, 1, 0, 0, 0, []),
  (125, .getfield 336, 3, 10, 9, 9, []),
  (128, .ireturn, 1, 0, 0, 0, [])]
/-- 134 FallRows.passed(II)I -/
def k134 : List fr_E := [(0, .iload_n 1, 1, 0, 0, 0, []),
  (1, .invokestatic 320, 3, 130, 11, 0, [1, 0, 0, 1, 1]),
  (4, .ifCond .ne 5, 3, 5, 0, 0, []),
  (7, .iconst (-1), 1, 0, 0, 0, []),
  (8, .ireturn, 1, 0, 0, 0, []),
  (9, .aload_n 0, 1, 0, 0, 0, []),
  (10, .iload_n 1, 1, 0, 0, 0, []),
  (11, .invokevirtual 339, 3, 132, 11, 0, [2, 0, 0, 1, 2]),
  (14, .astore_n 3, 1, 0, 0, 0, []),
  (15, .iload_n 2, 1, 0, 0, 0, []),
  (16, .ifCond .lt 11, 3, 15, 0, 0, []),
  (19, .iload_n 2, 1, 0, 0, 0, []),
  (20, .aload_n 3, 1, 0, 0, 0, []),
  (21, .getfield 346, 3, 10, 2, 2, []),
  (24, .if_icmp .lt 8, 3, 17, 0, 0, []),
  (27, .bipush (-9), 2, 0, 0, 0, []),
  (29, .goto 9, 3, 21, 0, 0, []),
  (32, .aload_n 3, 1, 0, 0, 0, []),
  (33, .getfield 367, 3, 10, 10, 10, []),
  (36, .iload_n 2, 1, 0, 0, 0, []),
  (37, .iaload, 1, 0, 0, 0, []),
  (38, .ireturn, 1, 0, 0, 0, [])]
/-- 135 FallRows.learn()I -/
def k135 : List fr_E := [(0, .aload_n 0, 1, 0, 0, 0, []),
  (1, .getfield 92, 3, 11, 10, 10, []),
  (4, .getfield 343, 3, 10, 0, 0, []),
  (7, .ifCond .eq 10, 3, 7, 0, 0, []),
  (10, .aload_n 0, 1, 0, 0, 0, []),
  (11, .getfield 116, 3, 11, 17, 17, []),
  (14, .ifCond .ne 6, 3, 9, 0, 0, []),
  (17, .bipush (-2), 2, 0, 0, 0, []),
  (19, .ireturn, 1, 0, 0, 0, []),
  (20, .aload_n 0, 1, 0, 0, 0, []),
  (21, .getfield 92, 3, 11, 10, 10, []),
  (24, .getfield 370, 3, 10, 12, 12, []),
  (27, .iconst 0, 1, 0, 0, 0, []),
  (28, .aload_n 0, 1, 0, 0, 0, []),
  (29, .getfield 10, 3, 11, 0, 0, []),
  (32, .getfield 176, 3, 7, 12, 12, []),
  (35, .iconst 0, 1, 0, 0, 0, []),
  (36, .aload_n 0, 1, 0, 0, 0, []),
  (37, .getfield 10, 3, 11, 0, 0, []),
  (40, .getfield 176, 3, 7, 12, 12, []),
  (43, .arraylength, 1, 0, 0, 0, []),
  (44, .invokestatic 373, 3, 998, 0, 0, []),
  (47, .aload_n 0, 1, 0, 0, 0, []),
  (48, .getfield 92, 3, 11, 10, 10, []),
  (51, .getfield 346, 3, 10, 2, 2, []),
  (54, .ireturn, 1, 0, 0, 0, [])]
/-- 136 FallRows.pages(I)I -/
def k136 : List fr_E := [(0, .iload_n 1, 1, 0, 0, 0, []),
  (1, .ifCond .lt 9, 3, 5, 0, 0, []),
  (4, .iload_n 1, 1, 0, 0, 0, []),
  (5, .bipush 8, 2, 0, 0, 0, []),
  (7, .if_icmp .le 5, 3, 7, 0, 0, []),
  (10, .iconst (-1), 1, 0, 0, 0, []),
  (11, .ireturn, 1, 0, 0, 0, []),
  (12, .aload_n 0, 1, 0, 0, 0, []),
  (13, .getfield 96, 3, 11, 11, 11, []),
  (16, .getfield 343, 3, 10, 0, 0, []),
  (19, .ifCond .eq 14, 3, 16, 0, 0, []),
  (22, .aload_n 0, 1, 0, 0, 0, []),
  (23, .getfield 96, 3, 11, 11, 11, []),
  (26, .iload_n 1, 1, 0, 0, 0, []),
  (27, .invokevirtual 333, 3, 104, 10, 0, [2, 0, 0, 1, 6]),
  (30, .goto 5, 3, 17, 0, 0, []),
  (33, .bipush (-2), 2, 0, 0, 0, []),
  (35, .ireturn, 1, 0, 0, 0, [])]
/-- 137 FallRows.differ()I -/
def k137 : List fr_E := [(0, .iconst 0, 1, 0, 0, 0, []),
  (1, .istore_n 1, 1, 0, 0, 0, []),
  (2, .iload_n 1, 1, 0, 0, 0, []),
  (3, .aload_n 0, 1, 0, 0, 0, []),
  (4, .getfield 10, 3, 11, 0, 0, []),
  (7, .getfield 134, 3, 7, 1, 1, []),
  (10, .if_icmp .ge 49, 3, 29, 0, 0, []),
  (13, .aload_n 0, 1, 0, 0, 0, []),
  (14, .getfield 85, 3, 11, 9, 9, []),
  (17, .iload_n 1, 1, 0, 0, 0, []),
  (18, .aload_n 0, 1, 0, 0, 0, []),
  (19, .getfield 99, 3, 11, 12, 12, []),
  (22, .invokevirtual 323, 3, 90, 8, 0, [3, 0, 0, 0, 5]),
  (25, .aload_n 0, 1, 0, 0, 0, []),
  (26, .getfield 85, 3, 11, 9, 9, []),
  (29, .iload_n 1, 1, 0, 0, 0, []),
  (30, .aload_n 0, 1, 0, 0, 0, []),
  (31, .getfield 102, 3, 11, 13, 13, []),
  (34, .invokevirtual 330, 3, 97, 8, 0, [3, 0, 0, 0, 5]),
  (37, .aload_n 0, 1, 0, 0, 0, []),
  (38, .getfield 99, 3, 11, 12, 12, []),
  (41, .aload_n 0, 1, 0, 0, 0, []),
  (42, .getfield 102, 3, 11, 13, 13, []),
  (45, .invokevirtual 379, 3, 105, 10, 0, [2, 0, 0, 1, 3]),
  (48, .ifCond .ne 5, 3, 27, 0, 0, []),
  (51, .iload_n 1, 1, 0, 0, 0, []),
  (52, .ireturn, 1, 0, 0, 0, []),
  (53, .iinc 1 1, 3, 0, 0, 0, []),
  (56, .goto (-54), 3, 2, 0, 0, []),
  (59, .bipush (-9), 2, 0, 0, 0, []),
  (61, .ireturn, 1, 0, 0, 0, [])]
/-- 138 FallRows.has(I)I -/
def k138 : List fr_E := [(0, .iload_n 1, 1, 0, 0, 0, []),
  (1, .tableswitch 99 0 6 #[43, 51, 59, 67, 78, 86, 91], 43, 30, 0, 0, [2, 6, 10, 14, 19, 23, 26]),
  (44, .aload_n 0, 1, 0, 0, 0, []),
  (45, .getfield 10, 3, 11, 0, 0, []),
  (48, .getfield 120, 3, 7, 0, 0, []),
  (51, .ireturn, 1, 0, 0, 0, []),
  (52, .aload_n 0, 1, 0, 0, 0, []),
  (53, .getfield 10, 3, 11, 0, 0, []),
  (56, .getfield 134, 3, 7, 1, 1, []),
  (59, .ireturn, 1, 0, 0, 0, []),
  (60, .aload_n 0, 1, 0, 0, 0, []),
  (61, .getfield 76, 3, 11, 8, 8, []),
  (64, .getfield 316, 3, 9, 1, 1, []),
  (67, .ireturn, 1, 0, 0, 0, []),
  (68, .aload_n 0, 1, 0, 0, 0, []),
  (69, .getfield 60, 3, 11, 6, 6, []),
  (72, .getfield 256, 3, 3, 12, 12, []),
  (75, .invokestatic 186, 3, 113, 11, 0, [1, 0, 0, 1, 1]),
  (78, .ireturn, 1, 0, 0, 0, []),
  (79, .aload_n 0, 1, 0, 0, 0, []),
  (80, .getfield 60, 3, 11, 6, 6, []),
  (83, .getfield 264, 3, 3, 11, 11, []),
  (86, .ireturn, 1, 0, 0, 0, []),
  (87, .aload_n 0, 1, 0, 0, 0, []),
  (88, .getfield 112, 3, 11, 16, 16, []),
  (91, .ireturn, 1, 0, 0, 0, []),
  (92, .aload_n 0, 1, 0, 0, 0, []),
  (93, .getfield 21, 3, 11, 1, 1, []),
  (96, .getfield 250, 3, 5, 5, 5, []),
  (99, .ireturn, 1, 0, 0, 0, []),
  (100, .iconst (-1), 1, 0, 0, 0, []),
  (101, .ireturn, 1, 0, 0, 0, [])]
/-- 139 FallRowsModel.<init>()V -/
def k139 : List fr_E := [(0, .aload_n 0, 1, 0, 0, 0, []),
  (1, .invokespecial 1, 3, 999, 0, 0, []),
  (4, .aload_n 0, 1, 0, 0, 0, []),
  (5, .bipush 6, 2, 0, 0, 0, []),
  (7, .newarray .int, 2, 0, 0, 0, []),
  (9, .putfield 7, 3, 12, 1, 1, [2]),
  (12, .aload_n 0, 1, 0, 0, 0, []),
  (13, .bipush 54, 2, 0, 0, 0, []),
  (15, .newarray .int, 2, 0, 0, 0, []),
  (17, .putfield 13, 3, 12, 2, 2, [2]),
  (20, .aload_n 0, 1, 0, 0, 0, []),
  (21, .bipush 54, 2, 0, 0, 0, []),
  (23, .newarray .int, 2, 0, 0, 0, []),
  (25, .putfield 16, 3, 12, 3, 3, [2]),
  (28, .aload_n 0, 1, 0, 0, 0, []),
  (29, .bipush 40, 2, 0, 0, 0, []),
  (31, .newarray .int, 2, 0, 0, 0, []),
  (33, .putfield 19, 3, 12, 5, 5, [2]),
  (36, .aload_n 0, 1, 0, 0, 0, []),
  (37, .bipush 40, 2, 0, 0, 0, []),
  (39, .newarray .int, 2, 0, 0, 0, []),
  (41, .putfield 22, 3, 12, 6, 6, [2]),
  (44, .aload_n 0, 1, 0, 0, 0, []),
  (45, .bipush 40, 2, 0, 0, 0, []),
  (47, .newarray .boolean, 2, 1, 0, 0, []),
  (49, .putfield 25, 3, 12, 7, 7, [2]),
  (52, .aload_n 0, 1, 0, 0, 0, []),
  (53, .bipush 40, 2, 0, 0, 0, []),
  (55, .newarray .int, 2, 0, 0, 0, []),
  (57, .putfield 29, 3, 12, 8, 8, [2]),
  (60, .aload_n 0, 1, 0, 0, 0, []),
  (61, .bipush 40, 2, 0, 0, 0, []),
  (63, .newarray .int, 2, 0, 0, 0, []),
  (65, .putfield 32, 3, 12, 9, 9, [2]),
  (68, .aload_n 0, 1, 0, 0, 0, []),
  (69, .sipush 160, 3, 0, 0, 0, []),
  (72, .newarray .int, 2, 0, 0, 0, []),
  (74, .putfield 35, 3, 12, 10, 10, [2]),
  (77, .aload_n 0, 1, 0, 0, 0, []),
  (78, .sipush 160, 3, 0, 0, 0, []),
  (81, .newarray .int, 2, 0, 0, 0, []),
  (83, .putfield 38, 3, 12, 11, 11, [2]),
  (86, .aload_n 0, 1, 0, 0, 0, []),
  (87, .bipush 40, 2, 0, 0, 0, []),
  (89, .newarray .int, 2, 0, 0, 0, []),
  (91, .putfield 41, 3, 12, 12, 12, [2]),
  (94, .aload_n 0, 1, 0, 0, 0, []),
  (95, .iconst 1, 1, 0, 0, 0, []),
  (96, .putfield 44, 3, 12, 14, 14, []),
  (99, .aload_n 0, 1, 0, 0, 0, []),
  (100, .iconst 4, 1, 0, 0, 0, []),
  (101, .putfield 48, 3, 12, 15, 15, []),
  (104, .aload_n 0, 1, 0, 0, 0, []),
  (105, .sipush 200, 3, 0, 0, 0, []),
  (108, .newarray .int, 2, 0, 0, 0, []),
  (110, .putfield 51, 3, 12, 16, 16, [2]),
  (113, .aload_n 0, 1, 0, 0, 0, []),
  (114, .bipush 12, 2, 0, 0, 0, []),
  (116, .newarray .int, 2, 0, 0, 0, []),
  (118, .putfield 54, 3, 12, 19, 19, [2]),
  (121, .aload_n 0, 1, 0, 0, 0, []),
  (122, .bipush 108, 2, 0, 0, 0, []),
  (124, .newarray .int, 2, 0, 0, 0, []),
  (126, .putfield 57, 3, 12, 20, 20, [2]),
  (129, .aload_n 0, 1, 0, 0, 0, []),
  (130, .iconst 4, 1, 0, 0, 0, []),
  (131, .newarray .int, 2, 0, 0, 0, []),
  (133, .putfield 60, 3, 12, 21, 21, [2]),
  (136, .aload_n 0, 1, 0, 0, 0, []),
  (137, .sipush 4608, 3, 0, 0, 0, []),
  (140, .newarray .int, 2, 0, 0, 0, []),
  (142, .putfield 63, 3, 12, 22, 22, [2]),
  (145, .aload_n 0, 1, 0, 0, 0, []),
  (146, .bipush 40, 2, 0, 0, 0, []),
  (148, .newarray .int, 2, 0, 0, 0, []),
  (150, .putfield 66, 3, 12, 23, 23, [2]),
  (153, .aload_n 0, 1, 0, 0, 0, []),
  (154, .bipush 40, 2, 0, 0, 0, []),
  (156, .newarray .int, 2, 0, 0, 0, []),
  (158, .putfield 69, 3, 12, 24, 24, [2]),
  (161, .aload_n 0, 1, 0, 0, 0, []),
  (162, .sipush 160, 3, 0, 0, 0, []),
  (165, .newarray .boolean, 2, 1, 0, 0, []),
  (167, .putfield 72, 3, 12, 25, 25, [2]),
  (170, .aload_n 0, 1, 0, 0, 0, []),
  (171, .bipush 40, 2, 0, 0, 0, []),
  (173, .newarray .boolean, 2, 1, 0, 0, []),
  (175, .putfield 75, 3, 12, 26, 26, [2]),
  (178, .aload_n 0, 1, 0, 0, 0, []),
  (179, .bipush 40, 2, 0, 0, 0, []),
  (181, .newarray .int, 2, 0, 0, 0, []),
  (183, .putfield 78, 3, 12, 27, 27, [2]),
  (186, .aload_n 0, 1, 0, 0, 0, []),
  (187, .bipush 40, 2, 0, 0, 0, []),
  (189, .newarray .int, 2, 0, 0, 0, []),
  (191, .putfield 81, 3, 12, 29, 29, [2]),
  (194, .aload_n 0, 1, 0, 0, 0, []),
  (195, .bipush 40, 2, 0, 0, 0, []),
  (197, .newarray .int, 2, 0, 0, 0, []),
  (199, .putfield 84, 3, 12, 30, 30, [2]),
  (202, .aload_n 0, 1, 0, 0, 0, []),
  (203, .bipush 40, 2, 0, 0, 0, []),
  (205, .newarray .int, 2, 0, 0, 0, []),
  (207, .putfield 87, 3, 12, 31, 31, [2]),
  (210, .aload_n 0, 1, 0, 0, 0, []),
  (211, .bipush 40, 2, 0, 0, 0, []),
  (213, .newarray .int, 2, 0, 0, 0, []),
  (215, .putfield 90, 3, 12, 32, 32, [2]),
  (218, .aload_n 0, 1, 0, 0, 0, []),
  (219, .bipush 80, 2, 0, 0, 0, []),
  (221, .newarray .int, 2, 0, 0, 0, []),
  (223, .putfield 93, 3, 12, 33, 33, [2]),
  (226, .aload_n 0, 1, 0, 0, 0, []),
  (227, .bipush 80, 2, 0, 0, 0, []),
  (229, .newarray .boolean, 2, 1, 0, 0, []),
  (231, .putfield 96, 3, 12, 34, 34, [2]),
  (234, .aload_n 0, 1, 0, 0, 0, []),
  (235, .bipush 80, 2, 0, 0, 0, []),
  (237, .newarray .int, 2, 0, 0, 0, []),
  (239, .putfield 99, 3, 12, 35, 35, [2]),
  (242, .aload_n 0, 1, 0, 0, 0, []),
  (243, .bipush 80, 2, 0, 0, 0, []),
  (245, .newarray .int, 2, 0, 0, 0, []),
  (247, .putfield 102, 3, 12, 36, 36, [2]),
  (250, .aload_n 0, 1, 0, 0, 0, []),
  (251, .bipush 80, 2, 0, 0, 0, []),
  (253, .newarray .boolean, 2, 1, 0, 0, []),
  (255, .putfield 105, 3, 12, 40, 40, [2]),
  (258, .aload_n 0, 1, 0, 0, 0, []),
  (259, .iconst 2, 1, 0, 0, 0, []),
  (260, .newarray .boolean, 2, 1, 0, 0, []),
  (262, .putfield 108, 3, 12, 42, 42, [2]),
  (265, .aload_n 0, 1, 0, 0, 0, []),
  (266, .bipush 18, 2, 0, 0, 0, []),
  (268, .newarray .int, 2, 0, 0, 0, []),
  (270, .putfield 111, 3, 12, 43, 43, [2]),
  (273, .aload_n 0, 1, 0, 0, 0, []),
  (274, .sipush 400, 3, 0, 0, 0, []),
  (277, .newarray .int, 2, 0, 0, 0, []),
  (279, .putfield 114, 3, 12, 44, 44, [2]),
  (282, .aload_n 0, 1, 0, 0, 0, []),
  (283, .sipush 160, 3, 0, 0, 0, []),
  (286, .newarray .int, 2, 0, 0, 0, []),
  (288, .putfield 117, 3, 12, 45, 45, [2]),
  (291, .aload_n 0, 1, 0, 0, 0, []),
  (292, .sipush 200, 3, 0, 0, 0, []),
  (295, .newarray .int, 2, 0, 0, 0, []),
  (297, .putfield 120, 3, 12, 46, 46, [2]),
  (300, .aload_n 0, 1, 0, 0, 0, []),
  (301, .bipush 9, 2, 0, 0, 0, []),
  (303, .newarray .int, 2, 0, 0, 0, []),
  (305, .putfield 123, 3, 12, 47, 47, [2]),
  (308, .aload_n 0, 1, 0, 0, 0, []),
  (309, .sipush 200, 3, 0, 0, 0, []),
  (312, .newarray .int, 2, 0, 0, 0, []),
  (314, .putfield 126, 3, 12, 48, 48, [2]),
  (317, .aload_n 0, 1, 0, 0, 0, []),
  (318, .bipush 8, 2, 0, 0, 0, []),
  (320, .newarray .int, 2, 0, 0, 0, []),
  (322, .putfield 129, 3, 12, 49, 49, [2]),
  (325, .aload_n 0, 1, 0, 0, 0, []),
  (326, .bipush 8, 2, 0, 0, 0, []),
  (328, .newarray .int, 2, 0, 0, 0, []),
  (330, .putfield 132, 3, 12, 51, 51, [2]),
  (333, .aload_n 0, 1, 0, 0, 0, []),
  (334, .sipush 160, 3, 0, 0, 0, []),
  (337, .newarray .int, 2, 0, 0, 0, []),
  (339, .putfield 135, 3, 12, 53, 53, [2]),
  (342, .aload_n 0, 1, 0, 0, 0, []),
  (343, .sipush 200, 3, 0, 0, 0, []),
  (346, .newarray .int, 2, 0, 0, 0, []),
  (348, .putfield 138, 3, 12, 54, 54, [2]),
  (351, .aload_n 0, 1, 0, 0, 0, []),
  (352, .sipush 200, 3, 0, 0, 0, []),
  (355, .newarray .int, 2, 0, 0, 0, []),
  (357, .putfield 141, 3, 12, 55, 55, [2]),
  (360, .aload_n 0, 1, 0, 0, 0, []),
  (361, .iconst 4, 1, 0, 0, 0, []),
  (362, .newarray .int, 2, 0, 0, 0, []),
  (364, .putfield 144, 3, 12, 56, 56, [2]),
  (367, .aload_n 0, 1, 0, 0, 0, []),
  (368, .iconst 0, 1, 0, 0, 0, []),
  (369, .putfield 147, 3, 12, 0, 0, []),
  (372, .return_, 1, 0, 0, 0, [])]
/-- 140 FallRowsModel.in(III)Z -/
def k140 : List fr_E := [(0, .iload_n 0, 1, 0, 0, 0, []),
  (1, .iload_n 1, 1, 0, 0, 0, []),
  (2, .if_icmp .lt 12, 3, 8, 0, 0, []),
  (5, .iload_n 0, 1, 0, 0, 0, []),
  (6, .iload_n 2, 1, 0, 0, 0, []),
  (7, .if_icmp .gt 7, 3, 8, 0, 0, []),
  (10, .iconst 1, 1, 0, 0, 0, []),
  (11, .goto 4, 3, 9, 0, 0, []),
  (14, .iconst 0, 1, 0, 0, 0, []),
  (15, .ireturn, 1, 1, 0, 0, [])]
/-- 141 FallRowsModel.isRoutine(I)Z -/
def k141 : List fr_E := [(0, .iload_n 1, 1, 0, 0, 0, []),
  (1, .iconst 0, 1, 0, 0, 0, []),
  (2, .aload_n 0, 1, 0, 0, 0, []),
  (3, .getfield 147, 3, 12, 0, 0, []),
  (6, .iconst 1, 1, 0, 0, 0, []),
  (7, .isub, 1, 0, 0, 0, []),
  (8, .invokestatic 150, 3, 140, 12, 0, [3, 0, 0, 1, 3]),
  (11, .ireturn, 1, 1, 0, 0, [])]
/-- 142 FallRowsModel.isBlock(I)Z -/
def k142 : List fr_E := [(0, .iload_n 1, 1, 0, 0, 0, []),
  (1, .iconst 0, 1, 0, 0, 0, []),
  (2, .aload_n 0, 1, 0, 0, 0, []),
  (3, .getfield 154, 3, 12, 4, 4, []),
  (6, .iconst 1, 1, 0, 0, 0, []),
  (7, .isub, 1, 0, 0, 0, []),
  (8, .invokestatic 150, 3, 140, 12, 0, [3, 0, 0, 1, 3]),
  (11, .ireturn, 1, 1, 0, 0, [])]
/-- 143 FallRowsModel.isFirst(I)Z -/
def k143 : List fr_E := [(0, .aload_n 0, 1, 0, 0, 0, []),
  (1, .getfield 13, 3, 12, 2, 2, []),
  (4, .bipush 9, 2, 0, 0, 0, []),
  (6, .aload_n 0, 1, 0, 0, 0, []),
  (7, .getfield 19, 3, 12, 5, 5, []),
  (10, .iload_n 1, 1, 0, 0, 0, []),
  (11, .iaload, 1, 0, 0, 0, []),
  (12, .imul, 1, 0, 0, 0, []),
  (13, .iaload, 1, 0, 0, 0, []),
  (14, .iload_n 1, 1, 0, 0, 0, []),
  (15, .if_icmp .ne 7, 3, 13, 0, 0, []),
  (18, .iconst 1, 1, 0, 0, 0, []),
  (19, .goto 4, 3, 14, 0, 0, []),
  (22, .iconst 0, 1, 0, 0, 0, []),
  (23, .ireturn, 1, 1, 0, 0, [])]
/-- 144 FallRowsModel.routine()I -/
def k144 : List fr_E := [(0, .aload_n 0, 1, 0, 0, 0, []),
  (1, .getfield 147, 3, 12, 0, 0, []),
  (4, .bipush 6, 2, 0, 0, 0, []),
  (6, .if_icmp .ne 6, 3, 6, 0, 0, []),
  (9, .bipush (-3), 2, 0, 0, 0, []),
  (11, .ireturn, 1, 0, 0, 0, []),
  (12, .aload_n 0, 1, 0, 0, 0, []),
  (13, .dup, 1, 0, 0, 0, []),
  (14, .getfield 147, 3, 12, 0, 0, []),
  (17, .iconst 1, 1, 0, 0, 0, []),
  (18, .iadd, 1, 0, 0, 0, []),
  (19, .putfield 147, 3, 12, 0, 0, []),
  (22, .aload_n 0, 1, 0, 0, 0, []),
  (23, .getfield 147, 3, 12, 0, 0, []),
  (26, .iconst 1, 1, 0, 0, 0, []),
  (27, .isub, 1, 0, 0, 0, []),
  (28, .ireturn, 1, 0, 0, 0, [])]
/-- 145 FallRowsModel.block(II)I -/
def k145 : List fr_E := [(0, .aload_n 0, 1, 0, 0, 0, []),
  (1, .iload_n 1, 1, 0, 0, 0, []),
  (2, .invokevirtual 157, 3, 141, 12, 0, [2, 0, 0, 1, 2]),
  (5, .ifCond .eq 14, 3, 9, 0, 0, []),
  (8, .iload_n 2, 1, 0, 0, 0, []),
  (9, .iconst 1, 1, 0, 0, 0, []),
  (10, .sipush 200, 3, 0, 0, 0, []),
  (13, .invokestatic 150, 3, 140, 12, 0, [3, 0, 0, 1, 3]),
  (16, .ifCond .ne 5, 3, 11, 0, 0, []),
  (19, .iconst (-1), 1, 0, 0, 0, []),
  (20, .ireturn, 1, 0, 0, 0, []),
  (21, .aload_n 0, 1, 0, 0, 0, []),
  (22, .getfield 7, 3, 12, 1, 1, []),
  (25, .iload_n 1, 1, 0, 0, 0, []),
  (26, .iaload, 1, 0, 0, 0, []),
  (27, .bipush 9, 2, 0, 0, 0, []),
  (29, .if_icmp .eq 12, 3, 21, 0, 0, []),
  (32, .aload_n 0, 1, 0, 0, 0, []),
  (33, .getfield 154, 3, 12, 4, 4, []),
  (36, .bipush 40, 2, 0, 0, 0, []),
  (38, .if_icmp .ne 6, 3, 23, 0, 0, []),
  (41, .bipush (-3), 2, 0, 0, 0, []),
  (43, .ireturn, 1, 0, 0, 0, []),
  (44, .aload_n 0, 1, 0, 0, 0, []),
  (45, .getfield 19, 3, 12, 5, 5, []),
  (48, .aload_n 0, 1, 0, 0, 0, []),
  (49, .getfield 154, 3, 12, 4, 4, []),
  (52, .iload_n 1, 1, 0, 0, 0, []),
  (53, .iastore, 1, 0, 0, 0, []),
  (54, .aload_n 0, 1, 0, 0, 0, []),
  (55, .getfield 22, 3, 12, 6, 6, []),
  (58, .aload_n 0, 1, 0, 0, 0, []),
  (59, .getfield 154, 3, 12, 4, 4, []),
  (62, .iload_n 2, 1, 0, 0, 0, []),
  (63, .iastore, 1, 0, 0, 0, []),
  (64, .aload_n 0, 1, 0, 0, 0, []),
  (65, .getfield 29, 3, 12, 8, 8, []),
  (68, .aload_n 0, 1, 0, 0, 0, []),
  (69, .getfield 154, 3, 12, 4, 4, []),
  (72, .iconst 0, 1, 0, 0, 0, []),
  (73, .iastore, 1, 0, 0, 0, []),
  (74, .aload_n 0, 1, 0, 0, 0, []),
  (75, .getfield 32, 3, 12, 9, 9, []),
  (78, .aload_n 0, 1, 0, 0, 0, []),
  (79, .getfield 154, 3, 12, 4, 4, []),
  (82, .iconst 0, 1, 0, 0, 0, []),
  (83, .iastore, 1, 0, 0, 0, []),
  (84, .aload_n 0, 1, 0, 0, 0, []),
  (85, .getfield 41, 3, 12, 12, 12, []),
  (88, .aload_n 0, 1, 0, 0, 0, []),
  (89, .getfield 154, 3, 12, 4, 4, []),
  (92, .bipush (-9), 2, 0, 0, 0, []),
  (94, .iastore, 1, 0, 0, 0, []),
  (95, .aload_n 0, 1, 0, 0, 0, []),
  (96, .getfield 13, 3, 12, 2, 2, []),
  (99, .bipush 9, 2, 0, 0, 0, []),
  (101, .iload_n 1, 1, 0, 0, 0, []),
  (102, .imul, 1, 0, 0, 0, []),
  (103, .aload_n 0, 1, 0, 0, 0, []),
  (104, .getfield 7, 3, 12, 1, 1, []),
  (107, .iload_n 1, 1, 0, 0, 0, []),
  (108, .iaload, 1, 0, 0, 0, []),
  (109, .iadd, 1, 0, 0, 0, []),
  (110, .aload_n 0, 1, 0, 0, 0, []),
  (111, .getfield 154, 3, 12, 4, 4, []),
  (114, .iastore, 1, 0, 0, 0, []),
  (115, .aload_n 0, 1, 0, 0, 0, []),
  (116, .getfield 16, 3, 12, 3, 3, []),
  (119, .bipush 9, 2, 0, 0, 0, []),
  (121, .iload_n 1, 1, 0, 0, 0, []),
  (122, .imul, 1, 0, 0, 0, []),
  (123, .aload_n 0, 1, 0, 0, 0, []),
  (124, .getfield 7, 3, 12, 1, 1, []),
  (127, .iload_n 1, 1, 0, 0, 0, []),
  (128, .iaload, 1, 0, 0, 0, []),
  (129, .iadd, 1, 0, 0, 0, []),
  (130, .aload_n 0, 1, 0, 0, 0, []),
  (131, .getfield 154, 3, 12, 4, 4, []),
  (134, .iastore, 1, 0, 0, 0, []),
  (135, .aload_n 0, 1, 0, 0, 0, []),
  (136, .getfield 7, 3, 12, 1, 1, []),
  (139, .iload_n 1, 1, 0, 0, 0, []),
  (140, .dup2, 1, 0, 0, 0, []),
  (141, .iaload, 1, 0, 0, 0, []),
  (142, .iconst 1, 1, 0, 0, 0, []),
  (143, .iadd, 1, 0, 0, 0, []),
  (144, .iastore, 1, 0, 0, 0, []),
  (145, .aload_n 0, 1, 0, 0, 0, []),
  (146, .dup, 1, 0, 0, 0, []),
  (147, .getfield 154, 3, 12, 4, 4, []),
  (150, .iconst 1, 1, 0, 0, 0, []),
  (151, .iadd, 1, 0, 0, 0, []),
  (152, .putfield 154, 3, 12, 4, 4, []),
  (155, .aload_n 0, 1, 0, 0, 0, []),
  (156, .iconst 0, 1, 0, 0, 0, []),
  (157, .putfield 161, 3, 12, 18, 18, []),
  (160, .aload_n 0, 1, 0, 0, 0, []),
  (161, .iconst 0, 1, 0, 0, 0, []),
  (162, .putfield 164, 3, 12, 41, 41, [1]),
  (165, .aload_n 0, 1, 0, 0, 0, []),
  (166, .getfield 154, 3, 12, 4, 4, []),
  (169, .iconst 1, 1, 0, 0, 0, []),
  (170, .isub, 1, 0, 0, 0, []),
  (171, .ireturn, 1, 0, 0, 0, [])]
/-- 146 FallRowsModel.isWay(II)Z -/
def k146 : List fr_E := [(0, .aload_n 0, 1, 0, 0, 0, []),
  (1, .iload_n 2, 1, 0, 0, 0, []),
  (2, .invokevirtual 168, 3, 142, 12, 0, [2, 0, 0, 1, 2]),
  (5, .ifCond .eq 22, 3, 15, 0, 0, []),
  (8, .aload_n 0, 1, 0, 0, 0, []),
  (9, .getfield 19, 3, 12, 5, 5, []),
  (12, .iload_n 2, 1, 0, 0, 0, []),
  (13, .iaload, 1, 0, 0, 0, []),
  (14, .aload_n 0, 1, 0, 0, 0, []),
  (15, .getfield 19, 3, 12, 5, 5, []),
  (18, .iload_n 1, 1, 0, 0, 0, []),
  (19, .iaload, 1, 0, 0, 0, []),
  (20, .if_icmp .ne 7, 3, 15, 0, 0, []),
  (23, .iconst 1, 1, 0, 0, 0, []),
  (24, .goto 4, 3, 16, 0, 0, []),
  (27, .iconst 0, 1, 0, 0, 0, []),
  (28, .ireturn, 1, 1, 0, 0, [])]
/-- 147 FallRowsModel.waysTold(II)I -/
def k147 : List fr_E := [(0, .iload_n 2, 1, 0, 0, 0, []),
  (1, .iconst 2, 1, 0, 0, 0, []),
  (2, .if_icmp .eq 8, 3, 6, 0, 0, []),
  (5, .iload_n 2, 1, 0, 0, 0, []),
  (6, .iconst 5, 1, 0, 0, 0, []),
  (7, .if_icmp .ne 7, 3, 8, 0, 0, []),
  (10, .iconst 1, 1, 0, 0, 0, []),
  (11, .goto 19, 3, 17, 0, 0, []),
  (14, .iload_n 2, 1, 0, 0, 0, []),
  (15, .iconst 3, 1, 0, 0, 0, []),
  (16, .if_icmp .eq 9, 3, 14, 0, 0, []),
  (19, .iload_n 2, 1, 0, 0, 0, []),
  (20, .bipush 6, 2, 0, 0, 0, []),
  (22, .if_icmp .ne 7, 3, 16, 0, 0, []),
  (25, .iconst 2, 1, 0, 0, 0, []),
  (26, .goto 4, 3, 17, 0, 0, []),
  (29, .iconst 0, 1, 0, 0, 0, []),
  (30, .istore_n 3, 1, 0, 0, 0, []),
  (31, .iload_n 2, 1, 0, 0, 0, []),
  (32, .iconst 4, 1, 0, 0, 0, []),
  (33, .if_icmp .ne 34, 3, 38, 0, 0, []),
  (36, .iload_n 3, 1, 0, 0, 0, []),
  (37, .iconst 4, 1, 0, 0, 0, []),
  (38, .if_icmp .ge 19, 3, 32, 0, 0, []),
  (41, .aload_n 0, 1, 0, 0, 0, []),
  (42, .getfield 60, 3, 12, 21, 21, []),
  (45, .iload_n 3, 1, 0, 0, 0, []),
  (46, .iaload, 1, 0, 0, 0, []),
  (47, .iconst (-1), 1, 0, 0, 0, []),
  (48, .if_icmp .eq 9, 3, 32, 0, 0, []),
  (51, .iinc 3 1, 3, 0, 0, 0, []),
  (54, .goto (-18), 3, 21, 0, 0, []),
  (57, .iload_n 3, 1, 0, 0, 0, []),
  (58, .ifCond .ne 7, 3, 36, 0, 0, []),
  (61, .iconst (-1), 1, 0, 0, 0, []),
  (62, .goto 4, 3, 37, 0, 0, []),
  (65, .iload_n 3, 1, 0, 0, 0, []),
  (66, .istore_n 3, 1, 0, 0, 0, []),
  (67, .iconst 0, 1, 0, 0, 0, []),
  (68, .istore 4, 2, 0, 0, 0, []),
  (70, .iload 4, 2, 0, 0, 0, []),
  (72, .iload_n 3, 1, 0, 0, 0, []),
  (73, .if_icmp .ge 26, 3, 55, 0, 0, []),
  (76, .aload_n 0, 1, 0, 0, 0, []),
  (77, .iload_n 1, 1, 0, 0, 0, []),
  (78, .aload_n 0, 1, 0, 0, 0, []),
  (79, .getfield 60, 3, 12, 21, 21, []),
  (82, .iload 4, 2, 0, 0, 0, []),
  (84, .iaload, 1, 0, 0, 0, []),
  (85, .invokevirtual 171, 3, 146, 12, 0, [3, 0, 0, 1, 3]),
  (88, .ifCond .ne 5, 3, 53, 0, 0, []),
  (91, .iconst (-1), 1, 0, 0, 0, []),
  (92, .ireturn, 1, 0, 0, 0, []),
  (93, .iinc 4 1, 3, 0, 0, 0, []),
  (96, .goto (-26), 3, 40, 0, 0, []),
  (99, .iload_n 2, 1, 0, 0, 0, []),
  (100, .iconst 5, 1, 0, 0, 0, []),
  (101, .if_icmp .ne 34, 3, 75, 0, 0, []),
  (104, .aload_n 0, 1, 0, 0, 0, []),
  (105, .aload_n 0, 1, 0, 0, 0, []),
  (106, .getfield 60, 3, 12, 21, 21, []),
  (109, .iconst 1, 1, 0, 0, 0, []),
  (110, .iaload, 1, 0, 0, 0, []),
  (111, .invokevirtual 157, 3, 141, 12, 0, [2, 0, 0, 1, 2]),
  (114, .ifCond .eq 17, 3, 73, 0, 0, []),
  (117, .aload_n 0, 1, 0, 0, 0, []),
  (118, .getfield 7, 3, 12, 1, 1, []),
  (121, .aload_n 0, 1, 0, 0, 0, []),
  (122, .getfield 60, 3, 12, 21, 21, []),
  (125, .iconst 1, 1, 0, 0, 0, []),
  (126, .iaload, 1, 0, 0, 0, []),
  (127, .iaload, 1, 0, 0, 0, []),
  (128, .ifCond .ne 7, 3, 75, 0, 0, []),
  (131, .iconst (-1), 1, 0, 0, 0, []),
  (132, .goto 4, 3, 76, 0, 0, []),
  (135, .iload_n 3, 1, 0, 0, 0, []),
  (136, .ireturn, 1, 0, 0, 0, [])]
/-- 148 FallRowsModel.end(IIIIII)I -/
def k148 : List fr_E := [(0, .aload_n 0, 1, 0, 0, 0, []),
  (1, .iload_n 1, 1, 0, 0, 0, []),
  (2, .invokevirtual 168, 3, 142, 12, 0, [2, 0, 0, 1, 2]),
  (5, .ifCond .eq 13, 3, 9, 0, 0, []),
  (8, .iload_n 2, 1, 0, 0, 0, []),
  (9, .iconst 0, 1, 0, 0, 0, []),
  (10, .bipush 6, 2, 0, 0, 0, []),
  (12, .invokestatic 150, 3, 140, 12, 0, [3, 0, 0, 1, 3]),
  (15, .ifCond .ne 5, 3, 11, 0, 0, []),
  (18, .iconst (-1), 1, 0, 0, 0, []),
  (19, .ireturn, 1, 0, 0, 0, []),
  (20, .aload_n 0, 1, 0, 0, 0, []),
  (21, .getfield 60, 3, 12, 21, 21, []),
  (24, .iconst 0, 1, 0, 0, 0, []),
  (25, .iload_n 3, 1, 0, 0, 0, []),
  (26, .iastore, 1, 0, 0, 0, []),
  (27, .aload_n 0, 1, 0, 0, 0, []),
  (28, .getfield 60, 3, 12, 21, 21, []),
  (31, .iconst 1, 1, 0, 0, 0, []),
  (32, .iload 4, 2, 0, 0, 0, []),
  (34, .iastore, 1, 0, 0, 0, []),
  (35, .aload_n 0, 1, 0, 0, 0, []),
  (36, .getfield 60, 3, 12, 21, 21, []),
  (39, .iconst 2, 1, 0, 0, 0, []),
  (40, .iload 5, 2, 0, 0, 0, []),
  (42, .iastore, 1, 0, 0, 0, []),
  (43, .aload_n 0, 1, 0, 0, 0, []),
  (44, .getfield 60, 3, 12, 21, 21, []),
  (47, .iconst 3, 1, 0, 0, 0, []),
  (48, .iload 6, 2, 0, 0, 0, []),
  (50, .iastore, 1, 0, 0, 0, []),
  (51, .aload_n 0, 1, 0, 0, 0, []),
  (52, .iload_n 1, 1, 0, 0, 0, []),
  (53, .iload_n 2, 1, 0, 0, 0, []),
  (54, .invokevirtual 175, 3, 147, 12, 0, [3, 0, 0, 1, 5]),
  (57, .istore 7, 2, 0, 0, 0, []),
  (59, .iload 7, 2, 0, 0, 0, []),
  (61, .ifCond .ge 5, 3, 40, 0, 0, []),
  (64, .iconst (-1), 1, 0, 0, 0, []),
  (65, .ireturn, 1, 0, 0, 0, []),
  (66, .aload_n 0, 1, 0, 0, 0, []),
  (67, .getfield 29, 3, 12, 8, 8, []),
  (70, .iload_n 1, 1, 0, 0, 0, []),
  (71, .iload_n 2, 1, 0, 0, 0, []),
  (72, .iastore, 1, 0, 0, 0, []),
  (73, .aload_n 0, 1, 0, 0, 0, []),
  (74, .getfield 32, 3, 12, 9, 9, []),
  (77, .iload_n 1, 1, 0, 0, 0, []),
  (78, .iload 7, 2, 0, 0, 0, []),
  (80, .iastore, 1, 0, 0, 0, []),
  (81, .aload_n 0, 1, 0, 0, 0, []),
  (82, .getfield 41, 3, 12, 12, 12, []),
  (85, .iload_n 1, 1, 0, 0, 0, []),
  (86, .iload_n 2, 1, 0, 0, 0, []),
  (87, .iconst 5, 1, 0, 0, 0, []),
  (88, .if_icmp .ne 8, 3, 58, 0, 0, []),
  (91, .iload 4, 2, 0, 0, 0, []),
  (93, .goto 5, 3, 59, 0, 0, []),
  (96, .bipush (-9), 2, 0, 0, 0, []),
  (98, .iastore, 1, 0, 0, 0, []),
  (99, .iconst 0, 1, 0, 0, 0, []),
  (100, .istore 8, 2, 0, 0, 0, []),
  (102, .iload 8, 2, 0, 0, 0, []),
  (104, .iconst 4, 1, 0, 0, 0, []),
  (105, .if_icmp .ge 51, 3, 93, 0, 0, []),
  (108, .aload_n 0, 1, 0, 0, 0, []),
  (109, .getfield 35, 3, 12, 10, 10, []),
  (112, .iconst 4, 1, 0, 0, 0, []),
  (113, .iload_n 1, 1, 0, 0, 0, []),
  (114, .imul, 1, 0, 0, 0, []),
  (115, .iload 8, 2, 0, 0, 0, []),
  (117, .iadd, 1, 0, 0, 0, []),
  (118, .iload 8, 2, 0, 0, 0, []),
  (120, .iload 7, 2, 0, 0, 0, []),
  (122, .if_icmp .ge 13, 3, 80, 0, 0, []),
  (125, .aload_n 0, 1, 0, 0, 0, []),
  (126, .getfield 60, 3, 12, 21, 21, []),
  (129, .iload 8, 2, 0, 0, 0, []),
  (131, .iaload, 1, 0, 0, 0, []),
  (132, .goto 5, 3, 81, 0, 0, []),
  (135, .bipush (-9), 2, 0, 0, 0, []),
  (137, .iastore, 1, 0, 0, 0, []),
  (138, .aload_n 0, 1, 0, 0, 0, []),
  (139, .getfield 38, 3, 12, 11, 11, []),
  (142, .iconst 4, 1, 0, 0, 0, []),
  (143, .iload_n 1, 1, 0, 0, 0, []),
  (144, .imul, 1, 0, 0, 0, []),
  (145, .iload 8, 2, 0, 0, 0, []),
  (147, .iadd, 1, 0, 0, 0, []),
  (148, .iconst 0, 1, 0, 0, 0, []),
  (149, .iastore, 1, 0, 0, 0, []),
  (150, .iinc 8 1, 3, 0, 0, 0, []),
  (153, .goto (-51), 3, 62, 0, 0, []),
  (156, .aload_n 0, 1, 0, 0, 0, []),
  (157, .iconst 0, 1, 0, 0, 0, []),
  (158, .putfield 164, 3, 12, 41, 41, [1]),
  (161, .iload 7, 2, 0, 0, 0, []),
  (163, .ireturn, 1, 0, 0, 0, [])]
/-- 149 FallRowsModel.count(III)I -/
def k149 : List fr_E := [(0, .aload_n 0, 1, 0, 0, 0, []),
  (1, .iload_n 1, 1, 0, 0, 0, []),
  (2, .invokevirtual 168, 3, 142, 12, 0, [2, 0, 0, 1, 2]),
  (5, .ifCond .eq 29, 3, 19, 0, 0, []),
  (8, .iload_n 2, 1, 0, 0, 0, []),
  (9, .iconst 0, 1, 0, 0, 0, []),
  (10, .aload_n 0, 1, 0, 0, 0, []),
  (11, .getfield 32, 3, 12, 9, 9, []),
  (14, .iload_n 1, 1, 0, 0, 0, []),
  (15, .iaload, 1, 0, 0, 0, []),
  (16, .iconst 1, 1, 0, 0, 0, []),
  (17, .isub, 1, 0, 0, 0, []),
  (18, .invokestatic 150, 3, 140, 12, 0, [3, 0, 0, 1, 3]),
  (21, .ifCond .eq 13, 3, 19, 0, 0, []),
  (24, .iload_n 3, 1, 0, 0, 0, []),
  (25, .iconst 0, 1, 0, 0, 0, []),
  (26, .ldc 179, 2, 0, 0, 1000000, []),
  (28, .invokestatic 150, 3, 140, 12, 0, [3, 0, 0, 1, 3]),
  (31, .ifCond .ne 5, 3, 21, 0, 0, []),
  (34, .iconst (-1), 1, 0, 0, 0, []),
  (35, .ireturn, 1, 0, 0, 0, []),
  (36, .aload_n 0, 1, 0, 0, 0, []),
  (37, .getfield 38, 3, 12, 11, 11, []),
  (40, .iconst 4, 1, 0, 0, 0, []),
  (41, .iload_n 1, 1, 0, 0, 0, []),
  (42, .imul, 1, 0, 0, 0, []),
  (43, .iload_n 2, 1, 0, 0, 0, []),
  (44, .iadd, 1, 0, 0, 0, []),
  (45, .iaload, 1, 0, 0, 0, []),
  (46, .istore 4, 2, 0, 0, 0, []),
  (48, .aload_n 0, 1, 0, 0, 0, []),
  (49, .getfield 38, 3, 12, 11, 11, []),
  (52, .iconst 4, 1, 0, 0, 0, []),
  (53, .iload_n 1, 1, 0, 0, 0, []),
  (54, .imul, 1, 0, 0, 0, []),
  (55, .iload_n 2, 1, 0, 0, 0, []),
  (56, .iadd, 1, 0, 0, 0, []),
  (57, .iload_n 3, 1, 0, 0, 0, []),
  (58, .iastore, 1, 0, 0, 0, []),
  (59, .iload 4, 2, 0, 0, 0, []),
  (61, .ireturn, 1, 0, 0, 0, [])]
/-- 150 FallRowsModel.cold(IZ)I -/
def k150 : List fr_E := [(0, .aload_n 0, 1, 0, 0, 0, []),
  (1, .iload_n 1, 1, 0, 0, 0, []),
  (2, .invokevirtual 168, 3, 142, 12, 0, [2, 0, 0, 1, 2]),
  (5, .ifCond .eq 11, 3, 8, 0, 0, []),
  (8, .aload_n 0, 1, 0, 0, 0, []),
  (9, .iload_n 1, 1, 0, 0, 0, []),
  (10, .invokevirtual 180, 3, 143, 12, 0, [2, 0, 0, 1, 2]),
  (13, .ifCond .eq 5, 3, 10, 0, 0, []),
  (16, .iconst (-1), 1, 0, 0, 0, []),
  (17, .ireturn, 1, 0, 0, 0, []),
  (18, .aload_n 0, 1, 0, 0, 0, []),
  (19, .getfield 25, 3, 12, 7, 7, []),
  (22, .iload_n 1, 1, 0, 0, 0, []),
  (23, .baload, 1, 0, 0, 0, []),
  (24, .ifCond .eq 7, 3, 17, 0, 0, []),
  (27, .iconst 1, 1, 0, 0, 0, []),
  (28, .goto 4, 3, 18, 0, 0, []),
  (31, .iconst 0, 1, 0, 0, 0, []),
  (32, .istore_n 3, 1, 0, 0, 0, []),
  (33, .aload_n 0, 1, 0, 0, 0, []),
  (34, .getfield 25, 3, 12, 7, 7, []),
  (37, .iload_n 1, 1, 0, 0, 0, []),
  (38, .iload_n 2, 1, 0, 0, 0, []),
  (39, .bastore, 1, 0, 0, 0, []),
  (40, .iload_n 3, 1, 0, 0, 0, []),
  (41, .ireturn, 1, 0, 0, 0, [])]
/-- 151 FallRowsModel.placeOf(I)I -/
def k151 : List fr_E := [(0, .aload_n 0, 1, 0, 0, 0, []),
  (1, .getfield 19, 3, 12, 5, 5, []),
  (4, .iload_n 1, 1, 0, 0, 0, []),
  (5, .iaload, 1, 0, 0, 0, []),
  (6, .istore_n 2, 1, 0, 0, 0, []),
  (7, .iconst 0, 1, 0, 0, 0, []),
  (8, .istore_n 3, 1, 0, 0, 0, []),
  (9, .aload_n 0, 1, 0, 0, 0, []),
  (10, .getfield 16, 3, 12, 3, 3, []),
  (13, .bipush 9, 2, 0, 0, 0, []),
  (15, .iload_n 2, 1, 0, 0, 0, []),
  (16, .imul, 1, 0, 0, 0, []),
  (17, .iload_n 3, 1, 0, 0, 0, []),
  (18, .iadd, 1, 0, 0, 0, []),
  (19, .iaload, 1, 0, 0, 0, []),
  (20, .iload_n 1, 1, 0, 0, 0, []),
  (21, .if_icmp .eq 9, 3, 19, 0, 0, []),
  (24, .iinc 3 1, 3, 0, 0, 0, []),
  (27, .goto (-18), 3, 7, 0, 0, []),
  (30, .iload_n 3, 1, 0, 0, 0, []),
  (31, .ireturn, 1, 0, 0, 0, [])]
/-- 152 FallRowsModel.about(II)I -/
def k152 : List fr_E := [(0, .aload_n 0, 1, 0, 0, 0, []),
  (1, .iload_n 1, 1, 0, 0, 0, []),
  (2, .invokevirtual 168, 3, 142, 12, 0, [2, 0, 0, 1, 2]),
  (5, .ifCond .eq 13, 3, 9, 0, 0, []),
  (8, .iload_n 2, 1, 0, 0, 0, []),
  (9, .iconst 0, 1, 0, 0, 0, []),
  (10, .bipush 14, 2, 0, 0, 0, []),
  (12, .invokestatic 150, 3, 140, 12, 0, [3, 0, 0, 1, 3]),
  (15, .ifCond .ne 5, 3, 11, 0, 0, []),
  (18, .iconst (-1), 1, 0, 0, 0, []),
  (19, .ireturn, 1, 0, 0, 0, []),
  (20, .iload_n 2, 1, 0, 0, 0, []),
  (21, .iconst 5, 1, 0, 0, 0, []),
  (22, .if_icmp .le 72, 3, 57, 0, 0, []),
  (25, .iload_n 2, 1, 0, 0, 0, []),
  (26, .bipush 14, 2, 0, 0, 0, []),
  (28, .if_icmp .ge 66, 3, 57, 0, 0, []),
  (31, .iload_n 2, 1, 0, 0, 0, []),
  (32, .bipush 10, 2, 0, 0, 0, []),
  (34, .if_icmp .ge 10, 3, 24, 0, 0, []),
  (37, .iload_n 2, 1, 0, 0, 0, []),
  (38, .bipush 6, 2, 0, 0, 0, []),
  (40, .isub, 1, 0, 0, 0, []),
  (41, .goto 7, 3, 27, 0, 0, []),
  (44, .iload_n 2, 1, 0, 0, 0, []),
  (45, .bipush 10, 2, 0, 0, 0, []),
  (47, .isub, 1, 0, 0, 0, []),
  (48, .istore_n 3, 1, 0, 0, 0, []),
  (49, .iload_n 3, 1, 0, 0, 0, []),
  (50, .aload_n 0, 1, 0, 0, 0, []),
  (51, .getfield 32, 3, 12, 9, 9, []),
  (54, .iload_n 1, 1, 0, 0, 0, []),
  (55, .iaload, 1, 0, 0, 0, []),
  (56, .if_icmp .lt 8, 3, 36, 0, 0, []),
  (59, .bipush (-9), 2, 0, 0, 0, []),
  (61, .goto 32, 3, 56, 0, 0, []),
  (64, .iload_n 2, 1, 0, 0, 0, []),
  (65, .bipush 10, 2, 0, 0, 0, []),
  (67, .if_icmp .ge 16, 3, 48, 0, 0, []),
  (70, .aload_n 0, 1, 0, 0, 0, []),
  (71, .getfield 35, 3, 12, 10, 10, []),
  (74, .iconst 4, 1, 0, 0, 0, []),
  (75, .iload_n 1, 1, 0, 0, 0, []),
  (76, .imul, 1, 0, 0, 0, []),
  (77, .iload_n 3, 1, 0, 0, 0, []),
  (78, .iadd, 1, 0, 0, 0, []),
  (79, .iaload, 1, 0, 0, 0, []),
  (80, .goto 13, 3, 56, 0, 0, []),
  (83, .aload_n 0, 1, 0, 0, 0, []),
  (84, .getfield 38, 3, 12, 11, 11, []),
  (87, .iconst 4, 1, 0, 0, 0, []),
  (88, .iload_n 1, 1, 0, 0, 0, []),
  (89, .imul, 1, 0, 0, 0, []),
  (90, .iload_n 3, 1, 0, 0, 0, []),
  (91, .iadd, 1, 0, 0, 0, []),
  (92, .iaload, 1, 0, 0, 0, []),
  (93, .ireturn, 1, 0, 0, 0, []),
  (94, .iload_n 2, 1, 0, 0, 0, []),
  (95, .tableswitch 86 0 5 #[37, 44, 51, 58, 73, 79], 37, 92, 0, 0, [59, 64, 69, 74, 83, 87]),
  (132, .aload_n 0, 1, 0, 0, 0, []),
  (133, .getfield 19, 3, 12, 5, 5, []),
  (136, .iload_n 1, 1, 0, 0, 0, []),
  (137, .iaload, 1, 0, 0, 0, []),
  (138, .ireturn, 1, 0, 0, 0, []),
  (139, .aload_n 0, 1, 0, 0, 0, []),
  (140, .getfield 22, 3, 12, 6, 6, []),
  (143, .iload_n 1, 1, 0, 0, 0, []),
  (144, .iaload, 1, 0, 0, 0, []),
  (145, .ireturn, 1, 0, 0, 0, []),
  (146, .aload_n 0, 1, 0, 0, 0, []),
  (147, .getfield 29, 3, 12, 8, 8, []),
  (150, .iload_n 1, 1, 0, 0, 0, []),
  (151, .iaload, 1, 0, 0, 0, []),
  (152, .ireturn, 1, 0, 0, 0, []),
  (153, .aload_n 0, 1, 0, 0, 0, []),
  (154, .getfield 25, 3, 12, 7, 7, []),
  (157, .iload_n 1, 1, 0, 0, 0, []),
  (158, .baload, 1, 0, 0, 0, []),
  (159, .ifCond .eq 7, 3, 81, 0, 0, []),
  (162, .iconst 1, 1, 0, 0, 0, []),
  (163, .goto 4, 3, 82, 0, 0, []),
  (166, .iconst 0, 1, 0, 0, 0, []),
  (167, .ireturn, 1, 0, 0, 0, []),
  (168, .aload_n 0, 1, 0, 0, 0, []),
  (169, .iload_n 1, 1, 0, 0, 0, []),
  (170, .invokevirtual 183, 3, 151, 12, 0, [2, 0, 0, 1, 4]),
  (173, .ireturn, 1, 0, 0, 0, []),
  (174, .aload_n 0, 1, 0, 0, 0, []),
  (175, .getfield 32, 3, 12, 9, 9, []),
  (178, .iload_n 1, 1, 0, 0, 0, []),
  (179, .iaload, 1, 0, 0, 0, []),
  (180, .ireturn, 1, 0, 0, 0, []),
  (181, .aload_n 0, 1, 0, 0, 0, []),
  (182, .getfield 41, 3, 12, 12, 12, []),
  (185, .iload_n 1, 1, 0, 0, 0, []),
  (186, .iaload, 1, 0, 0, 0, []),
  (187, .ireturn, 1, 0, 0, 0, [])]
/-- 153 FallRowsModel.keeps(I)V -/
def k153 : List fr_E := [(0, .aload_n 0, 1, 0, 0, 0, []),
  (1, .getfield 161, 3, 12, 18, 18, []),
  (4, .bipush 12, 2, 0, 0, 0, []),
  (6, .if_icmp .ne 70, 3, 44, 0, 0, []),
  (9, .iconst 0, 1, 0, 0, 0, []),
  (10, .istore_n 2, 1, 0, 0, 0, []),
  (11, .iload_n 2, 1, 0, 0, 0, []),
  (12, .bipush 11, 2, 0, 0, 0, []),
  (14, .if_icmp .ge 23, 3, 21, 0, 0, []),
  (17, .aload_n 0, 1, 0, 0, 0, []),
  (18, .getfield 54, 3, 12, 19, 19, []),
  (21, .iload_n 2, 1, 0, 0, 0, []),
  (22, .aload_n 0, 1, 0, 0, 0, []),
  (23, .getfield 54, 3, 12, 19, 19, []),
  (26, .iload_n 2, 1, 0, 0, 0, []),
  (27, .iconst 1, 1, 0, 0, 0, []),
  (28, .iadd, 1, 0, 0, 0, []),
  (29, .iaload, 1, 0, 0, 0, []),
  (30, .iastore, 1, 0, 0, 0, []),
  (31, .iinc 2 1, 3, 0, 0, 0, []),
  (34, .goto (-23), 3, 6, 0, 0, []),
  (37, .iconst 0, 1, 0, 0, 0, []),
  (38, .istore_n 2, 1, 0, 0, 0, []),
  (39, .iload_n 2, 1, 0, 0, 0, []),
  (40, .bipush 99, 2, 0, 0, 0, []),
  (42, .if_icmp .ge 24, 3, 38, 0, 0, []),
  (45, .aload_n 0, 1, 0, 0, 0, []),
  (46, .getfield 57, 3, 12, 20, 20, []),
  (49, .iload_n 2, 1, 0, 0, 0, []),
  (50, .aload_n 0, 1, 0, 0, 0, []),
  (51, .getfield 57, 3, 12, 20, 20, []),
  (54, .iload_n 2, 1, 0, 0, 0, []),
  (55, .bipush 9, 2, 0, 0, 0, []),
  (57, .iadd, 1, 0, 0, 0, []),
  (58, .iaload, 1, 0, 0, 0, []),
  (59, .iastore, 1, 0, 0, 0, []),
  (60, .iinc 2 1, 3, 0, 0, 0, []),
  (63, .goto (-24), 3, 23, 0, 0, []),
  (66, .aload_n 0, 1, 0, 0, 0, []),
  (67, .dup, 1, 0, 0, 0, []),
  (68, .getfield 161, 3, 12, 18, 18, []),
  (71, .iconst 1, 1, 0, 0, 0, []),
  (72, .isub, 1, 0, 0, 0, []),
  (73, .putfield 161, 3, 12, 18, 18, []),
  (76, .aload_n 0, 1, 0, 0, 0, []),
  (77, .getfield 54, 3, 12, 19, 19, []),
  (80, .aload_n 0, 1, 0, 0, 0, []),
  (81, .getfield 161, 3, 12, 18, 18, []),
  (84, .iload_n 1, 1, 0, 0, 0, []),
  (85, .iastore, 1, 0, 0, 0, []),
  (86, .iconst 0, 1, 0, 0, 0, []),
  (87, .istore_n 2, 1, 0, 0, 0, []),
  (88, .iload_n 2, 1, 0, 0, 0, []),
  (89, .bipush 9, 2, 0, 0, 0, []),
  (91, .if_icmp .ge 34, 3, 74, 0, 0, []),
  (94, .aload_n 0, 1, 0, 0, 0, []),
  (95, .getfield 57, 3, 12, 20, 20, []),
  (98, .bipush 9, 2, 0, 0, 0, []),
  (100, .aload_n 0, 1, 0, 0, 0, []),
  (101, .getfield 161, 3, 12, 18, 18, []),
  (104, .imul, 1, 0, 0, 0, []),
  (105, .iload_n 2, 1, 0, 0, 0, []),
  (106, .iadd, 1, 0, 0, 0, []),
  (107, .aload_n 0, 1, 0, 0, 0, []),
  (108, .getfield 16, 3, 12, 3, 3, []),
  (111, .bipush 9, 2, 0, 0, 0, []),
  (113, .iload_n 1, 1, 0, 0, 0, []),
  (114, .imul, 1, 0, 0, 0, []),
  (115, .iload_n 2, 1, 0, 0, 0, []),
  (116, .iadd, 1, 0, 0, 0, []),
  (117, .iaload, 1, 0, 0, 0, []),
  (118, .iastore, 1, 0, 0, 0, []),
  (119, .iinc 2 1, 3, 0, 0, 0, []),
  (122, .goto (-34), 3, 52, 0, 0, []),
  (125, .aload_n 0, 1, 0, 0, 0, []),
  (126, .dup, 1, 0, 0, 0, []),
  (127, .getfield 161, 3, 12, 18, 18, []),
  (130, .iconst 1, 1, 0, 0, 0, []),
  (131, .iadd, 1, 0, 0, 0, []),
  (132, .putfield 161, 3, 12, 18, 18, []),
  (135, .return_, 1, 0, 0, 0, [])]
/-- 154 FallRowsModel.undo()I -/
def k154 : List fr_E := [(0, .aload_n 0, 1, 0, 0, 0, []),
  (1, .getfield 161, 3, 12, 18, 18, []),
  (4, .ifCond .ne 6, 3, 5, 0, 0, []),
  (7, .bipush (-2), 2, 0, 0, 0, []),
  (9, .ireturn, 1, 0, 0, 0, []),
  (10, .aload_n 0, 1, 0, 0, 0, []),
  (11, .dup, 1, 0, 0, 0, []),
  (12, .getfield 161, 3, 12, 18, 18, []),
  (15, .iconst 1, 1, 0, 0, 0, []),
  (16, .isub, 1, 0, 0, 0, []),
  (17, .putfield 161, 3, 12, 18, 18, []),
  (20, .iconst 0, 1, 0, 0, 0, []),
  (21, .istore_n 1, 1, 0, 0, 0, []),
  (22, .iload_n 1, 1, 0, 0, 0, []),
  (23, .bipush 9, 2, 0, 0, 0, []),
  (25, .if_icmp .ge 42, 3, 39, 0, 0, []),
  (28, .aload_n 0, 1, 0, 0, 0, []),
  (29, .getfield 16, 3, 12, 3, 3, []),
  (32, .bipush 9, 2, 0, 0, 0, []),
  (34, .aload_n 0, 1, 0, 0, 0, []),
  (35, .getfield 54, 3, 12, 19, 19, []),
  (38, .aload_n 0, 1, 0, 0, 0, []),
  (39, .getfield 161, 3, 12, 18, 18, []),
  (42, .iaload, 1, 0, 0, 0, []),
  (43, .imul, 1, 0, 0, 0, []),
  (44, .iload_n 1, 1, 0, 0, 0, []),
  (45, .iadd, 1, 0, 0, 0, []),
  (46, .aload_n 0, 1, 0, 0, 0, []),
  (47, .getfield 57, 3, 12, 20, 20, []),
  (50, .bipush 9, 2, 0, 0, 0, []),
  (52, .aload_n 0, 1, 0, 0, 0, []),
  (53, .getfield 161, 3, 12, 18, 18, []),
  (56, .imul, 1, 0, 0, 0, []),
  (57, .iload_n 1, 1, 0, 0, 0, []),
  (58, .iadd, 1, 0, 0, 0, []),
  (59, .iaload, 1, 0, 0, 0, []),
  (60, .iastore, 1, 0, 0, 0, []),
  (61, .iinc 1 1, 3, 0, 0, 0, []),
  (64, .goto (-42), 3, 13, 0, 0, []),
  (67, .aload_n 0, 1, 0, 0, 0, []),
  (68, .getfield 161, 3, 12, 18, 18, []),
  (71, .ireturn, 1, 0, 0, 0, [])]
/-- 155 FallRowsModel.shifts(III)V -/
def k155 : List fr_E := [(0, .aload_n 0, 1, 0, 0, 0, []),
  (1, .getfield 16, 3, 12, 3, 3, []),
  (4, .bipush 9, 2, 0, 0, 0, []),
  (6, .iload_n 1, 1, 0, 0, 0, []),
  (7, .imul, 1, 0, 0, 0, []),
  (8, .iload_n 2, 1, 0, 0, 0, []),
  (9, .iadd, 1, 0, 0, 0, []),
  (10, .iaload, 1, 0, 0, 0, []),
  (11, .istore 4, 2, 0, 0, 0, []),
  (13, .iload_n 2, 1, 0, 0, 0, []),
  (14, .istore 5, 2, 0, 0, 0, []),
  (16, .iload 5, 2, 0, 0, 0, []),
  (18, .iload_n 3, 1, 0, 0, 0, []),
  (19, .if_icmp .ge 35, 3, 34, 0, 0, []),
  (22, .aload_n 0, 1, 0, 0, 0, []),
  (23, .getfield 16, 3, 12, 3, 3, []),
  (26, .bipush 9, 2, 0, 0, 0, []),
  (28, .iload_n 1, 1, 0, 0, 0, []),
  (29, .imul, 1, 0, 0, 0, []),
  (30, .iload 5, 2, 0, 0, 0, []),
  (32, .iadd, 1, 0, 0, 0, []),
  (33, .aload_n 0, 1, 0, 0, 0, []),
  (34, .getfield 16, 3, 12, 3, 3, []),
  (37, .bipush 9, 2, 0, 0, 0, []),
  (39, .iload_n 1, 1, 0, 0, 0, []),
  (40, .imul, 1, 0, 0, 0, []),
  (41, .iload 5, 2, 0, 0, 0, []),
  (43, .iadd, 1, 0, 0, 0, []),
  (44, .iconst 1, 1, 0, 0, 0, []),
  (45, .iadd, 1, 0, 0, 0, []),
  (46, .iaload, 1, 0, 0, 0, []),
  (47, .iastore, 1, 0, 0, 0, []),
  (48, .iinc 5 1, 3, 0, 0, 0, []),
  (51, .goto (-35), 3, 11, 0, 0, []),
  (54, .iload_n 2, 1, 0, 0, 0, []),
  (55, .istore 5, 2, 0, 0, 0, []),
  (57, .iload 5, 2, 0, 0, 0, []),
  (59, .iload_n 3, 1, 0, 0, 0, []),
  (60, .if_icmp .le 35, 3, 59, 0, 0, []),
  (63, .aload_n 0, 1, 0, 0, 0, []),
  (64, .getfield 16, 3, 12, 3, 3, []),
  (67, .bipush 9, 2, 0, 0, 0, []),
  (69, .iload_n 1, 1, 0, 0, 0, []),
  (70, .imul, 1, 0, 0, 0, []),
  (71, .iload 5, 2, 0, 0, 0, []),
  (73, .iadd, 1, 0, 0, 0, []),
  (74, .aload_n 0, 1, 0, 0, 0, []),
  (75, .getfield 16, 3, 12, 3, 3, []),
  (78, .bipush 9, 2, 0, 0, 0, []),
  (80, .iload_n 1, 1, 0, 0, 0, []),
  (81, .imul, 1, 0, 0, 0, []),
  (82, .iload 5, 2, 0, 0, 0, []),
  (84, .iadd, 1, 0, 0, 0, []),
  (85, .iconst 1, 1, 0, 0, 0, []),
  (86, .isub, 1, 0, 0, 0, []),
  (87, .iaload, 1, 0, 0, 0, []),
  (88, .iastore, 1, 0, 0, 0, []),
  (89, .iinc 5 (-1), 3, 0, 0, 0, []),
  (92, .goto (-35), 3, 36, 0, 0, []),
  (95, .aload_n 0, 1, 0, 0, 0, []),
  (96, .getfield 16, 3, 12, 3, 3, []),
  (99, .bipush 9, 2, 0, 0, 0, []),
  (101, .iload_n 1, 1, 0, 0, 0, []),
  (102, .imul, 1, 0, 0, 0, []),
  (103, .iload_n 3, 1, 0, 0, 0, []),
  (104, .iadd, 1, 0, 0, 0, []),
  (105, .iload 4, 2, 0, 0, 0, []),
  (107, .iastore, 1, 0, 0, 0, []),
  (108, .return_, 1, 0, 0, 0, [])]
/-- 156 FallRowsModel.changes(III)V -/
def k156 : List fr_E := [(0, .aload_n 0, 1, 0, 0, 0, []),
  (1, .getfield 16, 3, 12, 3, 3, []),
  (4, .bipush 9, 2, 0, 0, 0, []),
  (6, .iload_n 1, 1, 0, 0, 0, []),
  (7, .imul, 1, 0, 0, 0, []),
  (8, .iload_n 2, 1, 0, 0, 0, []),
  (9, .iadd, 1, 0, 0, 0, []),
  (10, .iaload, 1, 0, 0, 0, []),
  (11, .istore 4, 2, 0, 0, 0, []),
  (13, .aload_n 0, 1, 0, 0, 0, []),
  (14, .getfield 16, 3, 12, 3, 3, []),
  (17, .bipush 9, 2, 0, 0, 0, []),
  (19, .iload_n 1, 1, 0, 0, 0, []),
  (20, .imul, 1, 0, 0, 0, []),
  (21, .iload_n 2, 1, 0, 0, 0, []),
  (22, .iadd, 1, 0, 0, 0, []),
  (23, .aload_n 0, 1, 0, 0, 0, []),
  (24, .getfield 16, 3, 12, 3, 3, []),
  (27, .bipush 9, 2, 0, 0, 0, []),
  (29, .iload_n 1, 1, 0, 0, 0, []),
  (30, .imul, 1, 0, 0, 0, []),
  (31, .iload_n 3, 1, 0, 0, 0, []),
  (32, .iadd, 1, 0, 0, 0, []),
  (33, .iaload, 1, 0, 0, 0, []),
  (34, .iastore, 1, 0, 0, 0, []),
  (35, .aload_n 0, 1, 0, 0, 0, []),
  (36, .getfield 16, 3, 12, 3, 3, []),
  (39, .bipush 9, 2, 0, 0, 0, []),
  (41, .iload_n 1, 1, 0, 0, 0, []),
  (42, .imul, 1, 0, 0, 0, []),
  (43, .iload_n 3, 1, 0, 0, 0, []),
  (44, .iadd, 1, 0, 0, 0, []),
  (45, .iload 4, 2, 0, 0, 0, []),
  (47, .iastore, 1, 0, 0, 0, []),
  (48, .return_, 1, 0, 0, 0, [])]
/-- 157 FallRowsModel.move(II)I -/
def k157 : List fr_E := [(0, .aload_n 0, 1, 0, 0, 0, []),
  (1, .iload_n 1, 1, 0, 0, 0, []),
  (2, .invokevirtual 168, 3, 142, 12, 0, [2, 0, 0, 1, 2]),
  (5, .ifCond .eq 32, 3, 21, 0, 0, []),
  (8, .aload_n 0, 1, 0, 0, 0, []),
  (9, .iload_n 1, 1, 0, 0, 0, []),
  (10, .invokevirtual 180, 3, 143, 12, 0, [2, 0, 0, 1, 2]),
  (13, .ifCond .ne 24, 3, 21, 0, 0, []),
  (16, .iload_n 2, 1, 0, 0, 0, []),
  (17, .iconst 1, 1, 0, 0, 0, []),
  (18, .aload_n 0, 1, 0, 0, 0, []),
  (19, .getfield 7, 3, 12, 1, 1, []),
  (22, .aload_n 0, 1, 0, 0, 0, []),
  (23, .getfield 19, 3, 12, 5, 5, []),
  (26, .iload_n 1, 1, 0, 0, 0, []),
  (27, .iaload, 1, 0, 0, 0, []),
  (28, .iaload, 1, 0, 0, 0, []),
  (29, .iconst 1, 1, 0, 0, 0, []),
  (30, .isub, 1, 0, 0, 0, []),
  (31, .invokestatic 150, 3, 140, 12, 0, [3, 0, 0, 1, 3]),
  (34, .ifCond .ne 5, 3, 23, 0, 0, []),
  (37, .iconst (-1), 1, 0, 0, 0, []),
  (38, .ireturn, 1, 0, 0, 0, []),
  (39, .aload_n 0, 1, 0, 0, 0, []),
  (40, .getfield 19, 3, 12, 5, 5, []),
  (43, .iload_n 1, 1, 0, 0, 0, []),
  (44, .iaload, 1, 0, 0, 0, []),
  (45, .istore_n 3, 1, 0, 0, 0, []),
  (46, .aload_n 0, 1, 0, 0, 0, []),
  (47, .iload_n 1, 1, 0, 0, 0, []),
  (48, .invokevirtual 183, 3, 151, 12, 0, [2, 0, 0, 1, 4]),
  (51, .istore 4, 2, 0, 0, 0, []),
  (53, .aload_n 0, 1, 0, 0, 0, []),
  (54, .iload_n 3, 1, 0, 0, 0, []),
  (55, .invokevirtual 187, 3, 153, 12, 0, [2, 0, 0, 0, 3]),
  (58, .aload_n 0, 1, 0, 0, 0, []),
  (59, .iload_n 3, 1, 0, 0, 0, []),
  (60, .iload 4, 2, 0, 0, 0, []),
  (62, .iload_n 2, 1, 0, 0, 0, []),
  (63, .invokevirtual 191, 3, 155, 12, 0, [4, 0, 0, 0, 6]),
  (66, .iload 4, 2, 0, 0, 0, []),
  (68, .ireturn, 1, 0, 0, 0, [])]
/-- 158 FallRowsModel.swap(II)I -/
def k158 : List fr_E := [(0, .aload_n 0, 1, 0, 0, 0, []),
  (1, .iload_n 1, 1, 0, 0, 0, []),
  (2, .invokevirtual 168, 3, 142, 12, 0, [2, 0, 0, 1, 2]),
  (5, .ifCond .eq 42, 3, 25, 0, 0, []),
  (8, .aload_n 0, 1, 0, 0, 0, []),
  (9, .iload_n 2, 1, 0, 0, 0, []),
  (10, .invokevirtual 168, 3, 142, 12, 0, [2, 0, 0, 1, 2]),
  (13, .ifCond .eq 34, 3, 25, 0, 0, []),
  (16, .aload_n 0, 1, 0, 0, 0, []),
  (17, .getfield 19, 3, 12, 5, 5, []),
  (20, .iload_n 1, 1, 0, 0, 0, []),
  (21, .iaload, 1, 0, 0, 0, []),
  (22, .aload_n 0, 1, 0, 0, 0, []),
  (23, .getfield 19, 3, 12, 5, 5, []),
  (26, .iload_n 2, 1, 0, 0, 0, []),
  (27, .iaload, 1, 0, 0, 0, []),
  (28, .if_icmp .ne 19, 3, 25, 0, 0, []),
  (31, .aload_n 0, 1, 0, 0, 0, []),
  (32, .iload_n 1, 1, 0, 0, 0, []),
  (33, .invokevirtual 180, 3, 143, 12, 0, [2, 0, 0, 1, 2]),
  (36, .ifCond .ne 11, 3, 25, 0, 0, []),
  (39, .aload_n 0, 1, 0, 0, 0, []),
  (40, .iload_n 2, 1, 0, 0, 0, []),
  (41, .invokevirtual 180, 3, 143, 12, 0, [2, 0, 0, 1, 2]),
  (44, .ifCond .eq 5, 3, 27, 0, 0, []),
  (47, .iconst (-1), 1, 0, 0, 0, []),
  (48, .ireturn, 1, 0, 0, 0, []),
  (49, .aload_n 0, 1, 0, 0, 0, []),
  (50, .getfield 19, 3, 12, 5, 5, []),
  (53, .iload_n 1, 1, 0, 0, 0, []),
  (54, .iaload, 1, 0, 0, 0, []),
  (55, .istore_n 3, 1, 0, 0, 0, []),
  (56, .aload_n 0, 1, 0, 0, 0, []),
  (57, .iload_n 3, 1, 0, 0, 0, []),
  (58, .invokevirtual 187, 3, 153, 12, 0, [2, 0, 0, 0, 3]),
  (61, .aload_n 0, 1, 0, 0, 0, []),
  (62, .iload_n 3, 1, 0, 0, 0, []),
  (63, .aload_n 0, 1, 0, 0, 0, []),
  (64, .iload_n 1, 1, 0, 0, 0, []),
  (65, .invokevirtual 183, 3, 151, 12, 0, [2, 0, 0, 1, 4]),
  (68, .aload_n 0, 1, 0, 0, 0, []),
  (69, .iload_n 2, 1, 0, 0, 0, []),
  (70, .invokevirtual 183, 3, 151, 12, 0, [2, 0, 0, 1, 4]),
  (73, .invokevirtual 195, 3, 156, 12, 0, [4, 0, 0, 0, 5]),
  (76, .iconst 1, 1, 0, 0, 0, []),
  (77, .ireturn, 1, 0, 0, 0, [])]
/-- 159 FallRowsModel.cost(II)I -/
def k159 : List fr_E := [(0, .aload_n 0, 1, 0, 0, 0, []),
  (1, .getfield 38, 3, 12, 11, 11, []),
  (4, .iconst 4, 1, 0, 0, 0, []),
  (5, .iload_n 1, 1, 0, 0, 0, []),
  (6, .imul, 1, 0, 0, 0, []),
  (7, .iaload, 1, 0, 0, 0, []),
  (8, .istore_n 3, 1, 0, 0, 0, []),
  (9, .aload_n 0, 1, 0, 0, 0, []),
  (10, .getfield 38, 3, 12, 11, 11, []),
  (13, .iconst 4, 1, 0, 0, 0, []),
  (14, .iload_n 1, 1, 0, 0, 0, []),
  (15, .imul, 1, 0, 0, 0, []),
  (16, .iconst 1, 1, 0, 0, 0, []),
  (17, .iadd, 1, 0, 0, 0, []),
  (18, .iaload, 1, 0, 0, 0, []),
  (19, .istore 4, 2, 0, 0, 0, []),
  (21, .aload_n 0, 1, 0, 0, 0, []),
  (22, .getfield 29, 3, 12, 8, 8, []),
  (25, .iload_n 1, 1, 0, 0, 0, []),
  (26, .iaload, 1, 0, 0, 0, []),
  (27, .tableswitch 106 2 6 #[33, 53, 106, 33, 33], 33, 73, 0, 0, [21, 35, 73, 21, 21]),
  (60, .aload_n 0, 1, 0, 0, 0, []),
  (61, .getfield 35, 3, 12, 10, 10, []),
  (64, .iconst 4, 1, 0, 0, 0, []),
  (65, .iload_n 1, 1, 0, 0, 0, []),
  (66, .imul, 1, 0, 0, 0, []),
  (67, .iaload, 1, 0, 0, 0, []),
  (68, .iload_n 2, 1, 0, 0, 0, []),
  (69, .if_icmp .ne 7, 3, 31, 0, 0, []),
  (72, .iconst 0, 1, 0, 0, 0, []),
  (73, .goto 6, 3, 34, 0, 0, []),
  (76, .iconst 2, 1, 0, 0, 0, []),
  (77, .iload_n 3, 1, 0, 0, 0, []),
  (78, .imul, 1, 0, 0, 0, []),
  (79, .ireturn, 1, 0, 0, 0, []),
  (80, .aload_n 0, 1, 0, 0, 0, []),
  (81, .getfield 35, 3, 12, 10, 10, []),
  (84, .iconst 4, 1, 0, 0, 0, []),
  (85, .iload_n 1, 1, 0, 0, 0, []),
  (86, .imul, 1, 0, 0, 0, []),
  (87, .iconst 1, 1, 0, 0, 0, []),
  (88, .iadd, 1, 0, 0, 0, []),
  (89, .iaload, 1, 0, 0, 0, []),
  (90, .iload_n 2, 1, 0, 0, 0, []),
  (91, .if_icmp .ne 12, 3, 51, 0, 0, []),
  (94, .iconst 3, 1, 0, 0, 0, []),
  (95, .iload_n 3, 1, 0, 0, 0, []),
  (96, .imul, 1, 0, 0, 0, []),
  (97, .iload 4, 2, 0, 0, 0, []),
  (99, .iadd, 1, 0, 0, 0, []),
  (100, .goto 32, 3, 72, 0, 0, []),
  (103, .aload_n 0, 1, 0, 0, 0, []),
  (104, .getfield 35, 3, 12, 10, 10, []),
  (107, .iconst 4, 1, 0, 0, 0, []),
  (108, .iload_n 1, 1, 0, 0, 0, []),
  (109, .imul, 1, 0, 0, 0, []),
  (110, .iaload, 1, 0, 0, 0, []),
  (111, .iload_n 2, 1, 0, 0, 0, []),
  (112, .if_icmp .ne 12, 3, 65, 0, 0, []),
  (115, .iload_n 3, 1, 0, 0, 0, []),
  (116, .iconst 3, 1, 0, 0, 0, []),
  (117, .iload 4, 2, 0, 0, 0, []),
  (119, .imul, 1, 0, 0, 0, []),
  (120, .iadd, 1, 0, 0, 0, []),
  (121, .goto 11, 3, 72, 0, 0, []),
  (124, .iconst 3, 1, 0, 0, 0, []),
  (125, .iload_n 3, 1, 0, 0, 0, []),
  (126, .imul, 1, 0, 0, 0, []),
  (127, .iconst 3, 1, 0, 0, 0, []),
  (128, .iload 4, 2, 0, 0, 0, []),
  (130, .imul, 1, 0, 0, 0, []),
  (131, .iadd, 1, 0, 0, 0, []),
  (132, .ireturn, 1, 0, 0, 0, []),
  (133, .iconst 0, 1, 0, 0, 0, []),
  (134, .ireturn, 1, 0, 0, 0, [])]
/-- 160 FallRowsModel.weightOf(I)I -/
def k160 : List fr_E := [(0, .iconst 0, 1, 0, 0, 0, []),
  (1, .istore_n 2, 1, 0, 0, 0, []),
  (2, .iconst 0, 1, 0, 0, 0, []),
  (3, .istore_n 3, 1, 0, 0, 0, []),
  (4, .iload_n 3, 1, 0, 0, 0, []),
  (5, .aload_n 0, 1, 0, 0, 0, []),
  (6, .getfield 7, 3, 12, 1, 1, []),
  (9, .iload_n 1, 1, 0, 0, 0, []),
  (10, .iaload, 1, 0, 0, 0, []),
  (11, .if_icmp .ge 57, 3, 45, 0, 0, []),
  (14, .iload_n 2, 1, 0, 0, 0, []),
  (15, .aload_n 0, 1, 0, 0, 0, []),
  (16, .aload_n 0, 1, 0, 0, 0, []),
  (17, .getfield 16, 3, 12, 3, 3, []),
  (20, .bipush 9, 2, 0, 0, 0, []),
  (22, .iload_n 1, 1, 0, 0, 0, []),
  (23, .imul, 1, 0, 0, 0, []),
  (24, .iload_n 3, 1, 0, 0, 0, []),
  (25, .iadd, 1, 0, 0, 0, []),
  (26, .iaload, 1, 0, 0, 0, []),
  (27, .iload_n 3, 1, 0, 0, 0, []),
  (28, .iconst 1, 1, 0, 0, 0, []),
  (29, .iadd, 1, 0, 0, 0, []),
  (30, .aload_n 0, 1, 0, 0, 0, []),
  (31, .getfield 7, 3, 12, 1, 1, []),
  (34, .iload_n 1, 1, 0, 0, 0, []),
  (35, .iaload, 1, 0, 0, 0, []),
  (36, .if_icmp .ge 19, 3, 39, 0, 0, []),
  (39, .aload_n 0, 1, 0, 0, 0, []),
  (40, .getfield 16, 3, 12, 3, 3, []),
  (43, .bipush 9, 2, 0, 0, 0, []),
  (45, .iload_n 1, 1, 0, 0, 0, []),
  (46, .imul, 1, 0, 0, 0, []),
  (47, .iload_n 3, 1, 0, 0, 0, []),
  (48, .iadd, 1, 0, 0, 0, []),
  (49, .iconst 1, 1, 0, 0, 0, []),
  (50, .iadd, 1, 0, 0, 0, []),
  (51, .iaload, 1, 0, 0, 0, []),
  (52, .goto 5, 3, 40, 0, 0, []),
  (55, .bipush (-9), 2, 0, 0, 0, []),
  (57, .invokevirtual 198, 3, 159, 12, 0, [3, 0, 0, 1, 5]),
  (60, .iadd, 1, 0, 0, 0, []),
  (61, .istore_n 2, 1, 0, 0, 0, []),
  (62, .iinc 3 1, 3, 0, 0, 0, []),
  (65, .goto (-61), 3, 4, 0, 0, []),
  (68, .iload_n 2, 1, 0, 0, 0, []),
  (69, .ireturn, 1, 0, 0, 0, [])]
/-- 161 FallRowsModel.makeTable(I)V -/
def k161 : List fr_E := [(0, .aload_n 0, 1, 0, 0, 0, []),
  (1, .getfield 7, 3, 12, 1, 1, []),
  (4, .iload_n 1, 1, 0, 0, 0, []),
  (5, .iaload, 1, 0, 0, 0, []),
  (6, .istore_n 2, 1, 0, 0, 0, []),
  (7, .iconst 0, 1, 0, 0, 0, []),
  (8, .istore_n 3, 1, 0, 0, 0, []),
  (9, .iload_n 3, 1, 0, 0, 0, []),
  (10, .iconst 1, 1, 0, 0, 0, []),
  (11, .iload_n 2, 1, 0, 0, 0, []),
  (12, .ishl, 1, 0, 0, 0, []),
  (13, .if_icmp .ge 156, 3, 98, 0, 0, []),
  (16, .iconst 0, 1, 0, 0, 0, []),
  (17, .istore 4, 2, 0, 0, 0, []),
  (19, .iload 4, 2, 0, 0, 0, []),
  (21, .iload_n 2, 1, 0, 0, 0, []),
  (22, .if_icmp .ge 141, 3, 96, 0, 0, []),
  (25, .aload_n 0, 1, 0, 0, 0, []),
  (26, .getfield 13, 3, 12, 2, 2, []),
  (29, .bipush 9, 2, 0, 0, 0, []),
  (31, .iload_n 1, 1, 0, 0, 0, []),
  (32, .imul, 1, 0, 0, 0, []),
  (33, .iload 4, 2, 0, 0, 0, []),
  (35, .iadd, 1, 0, 0, 0, []),
  (36, .iaload, 1, 0, 0, 0, []),
  (37, .istore 5, 2, 0, 0, 0, []),
  (39, .iload_n 3, 1, 0, 0, 0, []),
  (40, .ifCond .ne 14, 3, 33, 0, 0, []),
  (43, .aload_n 0, 1, 0, 0, 0, []),
  (44, .iload 5, 2, 0, 0, 0, []),
  (46, .bipush (-9), 2, 0, 0, 0, []),
  (48, .invokevirtual 198, 3, 159, 12, 0, [3, 0, 0, 1, 5]),
  (51, .goto 4, 3, 34, 0, 0, []),
  (54, .iconst (-1), 1, 0, 0, 0, []),
  (55, .istore 6, 2, 0, 0, 0, []),
  (57, .iconst 0, 1, 0, 0, 0, []),
  (58, .istore 7, 2, 0, 0, 0, []),
  (60, .iload 7, 2, 0, 0, 0, []),
  (62, .iload_n 2, 1, 0, 0, 0, []),
  (63, .if_icmp .ge 80, 3, 85, 0, 0, []),
  (66, .iload_n 3, 1, 0, 0, 0, []),
  (67, .iload 7, 2, 0, 0, 0, []),
  (69, .ishr, 1, 0, 0, 0, []),
  (70, .iconst 1, 1, 0, 0, 0, []),
  (71, .iand, 1, 0, 0, 0, []),
  (72, .iconst 1, 1, 0, 0, 0, []),
  (73, .if_icmp .ne 64, 3, 83, 0, 0, []),
  (76, .aload_n 0, 1, 0, 0, 0, []),
  (77, .iload 5, 2, 0, 0, 0, []),
  (79, .aload_n 0, 1, 0, 0, 0, []),
  (80, .getfield 13, 3, 12, 2, 2, []),
  (83, .bipush 9, 2, 0, 0, 0, []),
  (85, .iload_n 1, 1, 0, 0, 0, []),
  (86, .imul, 1, 0, 0, 0, []),
  (87, .iload 7, 2, 0, 0, 0, []),
  (89, .iadd, 1, 0, 0, 0, []),
  (90, .iaload, 1, 0, 0, 0, []),
  (91, .invokevirtual 198, 3, 159, 12, 0, [3, 0, 0, 1, 5]),
  (94, .aload_n 0, 1, 0, 0, 0, []),
  (95, .getfield 63, 3, 12, 22, 22, []),
  (98, .bipush 9, 2, 0, 0, 0, []),
  (100, .iload_n 3, 1, 0, 0, 0, []),
  (101, .iconst 1, 1, 0, 0, 0, []),
  (102, .iload 7, 2, 0, 0, 0, []),
  (104, .ishl, 1, 0, 0, 0, []),
  (105, .iconst (-1), 1, 0, 0, 0, []),
  (106, .ixor, 1, 0, 0, 0, []),
  (107, .iand, 1, 0, 0, 0, []),
  (108, .imul, 1, 0, 0, 0, []),
  (109, .iload 7, 2, 0, 0, 0, []),
  (111, .iadd, 1, 0, 0, 0, []),
  (112, .iaload, 1, 0, 0, 0, []),
  (113, .iadd, 1, 0, 0, 0, []),
  (114, .istore 8, 2, 0, 0, 0, []),
  (116, .iload 6, 2, 0, 0, 0, []),
  (118, .ifCond .lt 10, 3, 79, 0, 0, []),
  (121, .iload 8, 2, 0, 0, 0, []),
  (123, .iload 6, 2, 0, 0, 0, []),
  (125, .if_icmp .ge 8, 3, 81, 0, 0, []),
  (128, .iload 8, 2, 0, 0, 0, []),
  (130, .goto 5, 3, 82, 0, 0, []),
  (133, .iload 6, 2, 0, 0, 0, []),
  (135, .istore 6, 2, 0, 0, 0, []),
  (137, .iinc 7 1, 3, 0, 0, 0, []),
  (140, .goto (-80), 3, 37, 0, 0, []),
  (143, .aload_n 0, 1, 0, 0, 0, []),
  (144, .getfield 63, 3, 12, 22, 22, []),
  (147, .bipush 9, 2, 0, 0, 0, []),
  (149, .iload_n 3, 1, 0, 0, 0, []),
  (150, .imul, 1, 0, 0, 0, []),
  (151, .iload 4, 2, 0, 0, 0, []),
  (153, .iadd, 1, 0, 0, 0, []),
  (154, .iload 6, 2, 0, 0, 0, []),
  (156, .iastore, 1, 0, 0, 0, []),
  (157, .iinc 4 1, 3, 0, 0, 0, []),
  (160, .goto (-141), 3, 14, 0, 0, []),
  (163, .iinc 3 1, 3, 0, 0, 0, []),
  (166, .goto (-157), 3, 7, 0, 0, []),
  (169, .return_, 1, 0, 0, 0, [])]
/-- 162 FallRowsModel.best(I)V -/
def k162 : List fr_E := [(0, .aload_n 0, 1, 0, 0, 0, []),
  (1, .getfield 7, 3, 12, 1, 1, []),
  (4, .iload_n 1, 1, 0, 0, 0, []),
  (5, .iaload, 1, 0, 0, 0, []),
  (6, .istore_n 2, 1, 0, 0, 0, []),
  (7, .aload_n 0, 1, 0, 0, 0, []),
  (8, .iload_n 1, 1, 0, 0, 0, []),
  (9, .invokevirtual 201, 3, 161, 12, 0, [2, 0, 0, 0, 9]),
  (12, .iconst 1, 1, 0, 0, 0, []),
  (13, .iload_n 2, 1, 0, 0, 0, []),
  (14, .ishl, 1, 0, 0, 0, []),
  (15, .iconst 2, 1, 0, 0, 0, []),
  (16, .isub, 1, 0, 0, 0, []),
  (17, .istore_n 3, 1, 0, 0, 0, []),
  (18, .iconst 0, 1, 0, 0, 0, []),
  (19, .istore 4, 2, 0, 0, 0, []),
  (21, .aload_n 0, 1, 0, 0, 0, []),
  (22, .getfield 16, 3, 12, 3, 3, []),
  (25, .bipush 9, 2, 0, 0, 0, []),
  (27, .iload_n 1, 1, 0, 0, 0, []),
  (28, .imul, 1, 0, 0, 0, []),
  (29, .aload_n 0, 1, 0, 0, 0, []),
  (30, .getfield 13, 3, 12, 2, 2, []),
  (33, .bipush 9, 2, 0, 0, 0, []),
  (35, .iload_n 1, 1, 0, 0, 0, []),
  (36, .imul, 1, 0, 0, 0, []),
  (37, .iaload, 1, 0, 0, 0, []),
  (38, .iastore, 1, 0, 0, 0, []),
  (39, .iconst 1, 1, 0, 0, 0, []),
  (40, .istore 5, 2, 0, 0, 0, []),
  (42, .iload 5, 2, 0, 0, 0, []),
  (44, .iload_n 2, 1, 0, 0, 0, []),
  (45, .if_icmp .ge 167, 3, 133, 0, 0, []),
  (48, .aload_n 0, 1, 0, 0, 0, []),
  (49, .getfield 13, 3, 12, 2, 2, []),
  (52, .bipush 9, 2, 0, 0, 0, []),
  (54, .iload_n 1, 1, 0, 0, 0, []),
  (55, .imul, 1, 0, 0, 0, []),
  (56, .iload 4, 2, 0, 0, 0, []),
  (58, .iadd, 1, 0, 0, 0, []),
  (59, .iaload, 1, 0, 0, 0, []),
  (60, .istore 6, 2, 0, 0, 0, []),
  (62, .iconst (-1), 1, 0, 0, 0, []),
  (63, .istore 7, 2, 0, 0, 0, []),
  (65, .iconst 0, 1, 0, 0, 0, []),
  (66, .istore 8, 2, 0, 0, 0, []),
  (68, .iload 8, 2, 0, 0, 0, []),
  (70, .iload_n 2, 1, 0, 0, 0, []),
  (71, .if_icmp .ge 98, 3, 105, 0, 0, []),
  (74, .iload 7, 2, 0, 0, 0, []),
  (76, .ifCond .ge 93, 3, 105, 0, 0, []),
  (79, .iload_n 3, 1, 0, 0, 0, []),
  (80, .iload 8, 2, 0, 0, 0, []),
  (82, .ishr, 1, 0, 0, 0, []),
  (83, .iconst 1, 1, 0, 0, 0, []),
  (84, .iand, 1, 0, 0, 0, []),
  (85, .iconst 1, 1, 0, 0, 0, []),
  (86, .if_icmp .ne 7, 3, 60, 0, 0, []),
  (89, .iconst 1, 1, 0, 0, 0, []),
  (90, .goto 4, 3, 61, 0, 0, []),
  (93, .iconst 0, 1, 0, 0, 0, []),
  (94, .istore 9, 2, 0, 0, 0, []),
  (96, .iload 9, 2, 0, 0, 0, []),
  (98, .ifCond .eq 61, 3, 101, 0, 0, []),
  (101, .aload_n 0, 1, 0, 0, 0, []),
  (102, .iload 6, 2, 0, 0, 0, []),
  (104, .aload_n 0, 1, 0, 0, 0, []),
  (105, .getfield 13, 3, 12, 2, 2, []),
  (108, .bipush 9, 2, 0, 0, 0, []),
  (110, .iload_n 1, 1, 0, 0, 0, []),
  (111, .imul, 1, 0, 0, 0, []),
  (112, .iload 8, 2, 0, 0, 0, []),
  (114, .iadd, 1, 0, 0, 0, []),
  (115, .iaload, 1, 0, 0, 0, []),
  (116, .invokevirtual 198, 3, 159, 12, 0, [3, 0, 0, 1, 5]),
  (119, .aload_n 0, 1, 0, 0, 0, []),
  (120, .getfield 63, 3, 12, 22, 22, []),
  (123, .bipush 9, 2, 0, 0, 0, []),
  (125, .iload_n 3, 1, 0, 0, 0, []),
  (126, .iconst 1, 1, 0, 0, 0, []),
  (127, .iload 8, 2, 0, 0, 0, []),
  (129, .ishl, 1, 0, 0, 0, []),
  (130, .iconst (-1), 1, 0, 0, 0, []),
  (131, .ixor, 1, 0, 0, 0, []),
  (132, .iand, 1, 0, 0, 0, []),
  (133, .imul, 1, 0, 0, 0, []),
  (134, .iload 8, 2, 0, 0, 0, []),
  (136, .iadd, 1, 0, 0, 0, []),
  (137, .iaload, 1, 0, 0, 0, []),
  (138, .iadd, 1, 0, 0, 0, []),
  (139, .aload_n 0, 1, 0, 0, 0, []),
  (140, .getfield 63, 3, 12, 22, 22, []),
  (143, .bipush 9, 2, 0, 0, 0, []),
  (145, .iload_n 3, 1, 0, 0, 0, []),
  (146, .imul, 1, 0, 0, 0, []),
  (147, .iload 4, 2, 0, 0, 0, []),
  (149, .iadd, 1, 0, 0, 0, []),
  (150, .iaload, 1, 0, 0, 0, []),
  (151, .if_icmp .ne 8, 3, 101, 0, 0, []),
  (154, .iload 8, 2, 0, 0, 0, []),
  (156, .goto 5, 3, 102, 0, 0, []),
  (159, .iload 7, 2, 0, 0, 0, []),
  (161, .istore 7, 2, 0, 0, 0, []),
  (163, .iinc 8 1, 3, 0, 0, 0, []),
  (166, .goto (-98), 3, 46, 0, 0, []),
  (169, .aload_n 0, 1, 0, 0, 0, []),
  (170, .getfield 16, 3, 12, 3, 3, []),
  (173, .bipush 9, 2, 0, 0, 0, []),
  (175, .iload_n 1, 1, 0, 0, 0, []),
  (176, .imul, 1, 0, 0, 0, []),
  (177, .iload 5, 2, 0, 0, 0, []),
  (179, .iadd, 1, 0, 0, 0, []),
  (180, .aload_n 0, 1, 0, 0, 0, []),
  (181, .getfield 13, 3, 12, 2, 2, []),
  (184, .bipush 9, 2, 0, 0, 0, []),
  (186, .iload_n 1, 1, 0, 0, 0, []),
  (187, .imul, 1, 0, 0, 0, []),
  (188, .iload 7, 2, 0, 0, 0, []),
  (190, .iadd, 1, 0, 0, 0, []),
  (191, .iaload, 1, 0, 0, 0, []),
  (192, .iastore, 1, 0, 0, 0, []),
  (193, .iload_n 3, 1, 0, 0, 0, []),
  (194, .iconst 1, 1, 0, 0, 0, []),
  (195, .iload 7, 2, 0, 0, 0, []),
  (197, .ishl, 1, 0, 0, 0, []),
  (198, .iconst (-1), 1, 0, 0, 0, []),
  (199, .ixor, 1, 0, 0, 0, []),
  (200, .iand, 1, 0, 0, 0, []),
  (201, .istore_n 3, 1, 0, 0, 0, []),
  (202, .iload 7, 2, 0, 0, 0, []),
  (204, .istore 4, 2, 0, 0, 0, []),
  (206, .iinc 5 1, 3, 0, 0, 0, []),
  (209, .goto (-167), 3, 30, 0, 0, []),
  (212, .return_, 1, 0, 0, 0, [])]
/-- 163 FallRowsModel.turnsRound(III)V -/
def k163 : List fr_E := [(0, .iload_n 2, 1, 0, 0, 0, []),
  (1, .istore 4, 2, 0, 0, 0, []),
  (3, .iload_n 3, 1, 0, 0, 0, []),
  (4, .istore 5, 2, 0, 0, 0, []),
  (6, .iload 4, 2, 0, 0, 0, []),
  (8, .iload 5, 2, 0, 0, 0, []),
  (10, .if_icmp .ge 21, 3, 15, 0, 0, []),
  (13, .aload_n 0, 1, 0, 0, 0, []),
  (14, .iload_n 1, 1, 0, 0, 0, []),
  (15, .iload 4, 2, 0, 0, 0, []),
  (17, .iload 5, 2, 0, 0, 0, []),
  (19, .invokevirtual 195, 3, 156, 12, 0, [4, 0, 0, 0, 5]),
  (22, .iinc 4 1, 3, 0, 0, 0, []),
  (25, .iinc 5 (-1), 3, 0, 0, 0, []),
  (28, .goto (-22), 3, 4, 0, 0, []),
  (31, .return_, 1, 0, 0, 0, [])]
/-- 164 FallRowsModel.tries(IIII)V -/
def k164 : List fr_E := [(0, .iload_n 2, 1, 0, 0, 0, []),
  (1, .tableswitch 60 0 2 #[27, 38, 49], 27, 20, 0, 0, [2, 8, 14]),
  (28, .aload_n 0, 1, 0, 0, 0, []),
  (29, .iload_n 1, 1, 0, 0, 0, []),
  (30, .iload_n 3, 1, 0, 0, 0, []),
  (31, .iload 4, 2, 0, 0, 0, []),
  (33, .invokevirtual 195, 3, 156, 12, 0, [4, 0, 0, 0, 5]),
  (36, .goto 33, 3, 25, 0, 0, []),
  (39, .aload_n 0, 1, 0, 0, 0, []),
  (40, .iload_n 1, 1, 0, 0, 0, []),
  (41, .iload_n 3, 1, 0, 0, 0, []),
  (42, .iload 4, 2, 0, 0, 0, []),
  (44, .invokevirtual 204, 3, 163, 12, 0, [4, 0, 0, 0, 6]),
  (47, .goto 22, 3, 25, 0, 0, []),
  (50, .aload_n 0, 1, 0, 0, 0, []),
  (51, .iload_n 1, 1, 0, 0, 0, []),
  (52, .iload_n 3, 1, 0, 0, 0, []),
  (53, .iload 4, 2, 0, 0, 0, []),
  (55, .invokevirtual 191, 3, 155, 12, 0, [4, 0, 0, 0, 6]),
  (58, .goto 11, 3, 25, 0, 0, []),
  (61, .aload_n 0, 1, 0, 0, 0, []),
  (62, .iload_n 1, 1, 0, 0, 0, []),
  (63, .iload 4, 2, 0, 0, 0, []),
  (65, .iload_n 3, 1, 0, 0, 0, []),
  (66, .invokevirtual 191, 3, 155, 12, 0, [4, 0, 0, 0, 6]),
  (69, .return_, 1, 0, 0, 0, [])]
/-- 165 FallRowsModel.takesBack(IIII)V -/
def k165 : List fr_E := [(0, .aload_n 0, 1, 0, 0, 0, []),
  (1, .iload_n 1, 1, 0, 0, 0, []),
  (2, .iload_n 2, 1, 0, 0, 0, []),
  (3, .iconst 2, 1, 0, 0, 0, []),
  (4, .if_icmp .ge 7, 3, 7, 0, 0, []),
  (7, .iload_n 2, 1, 0, 0, 0, []),
  (8, .goto 6, 3, 10, 0, 0, []),
  (11, .iconst 5, 1, 0, 0, 0, []),
  (12, .iload_n 2, 1, 0, 0, 0, []),
  (13, .isub, 1, 0, 0, 0, []),
  (14, .iload_n 3, 1, 0, 0, 0, []),
  (15, .iload 4, 2, 0, 0, 0, []),
  (17, .invokevirtual 207, 3, 164, 12, 0, [5, 0, 0, 0, 5]),
  (20, .return_, 1, 0, 0, 0, [])]
/-- 166 FallRowsModel.gainsOne(I)Z -/
def k166 : List fr_E := [(0, .aload_n 0, 1, 0, 0, 0, []),
  (1, .iload_n 1, 1, 0, 0, 0, []),
  (2, .invokevirtual 211, 3, 160, 12, 0, [2, 0, 0, 1, 4]),
  (5, .istore_n 2, 1, 0, 0, 0, []),
  (6, .iconst 0, 1, 0, 0, 0, []),
  (7, .istore_n 3, 1, 0, 0, 0, []),
  (8, .iload_n 3, 1, 0, 0, 0, []),
  (9, .iconst 4, 1, 0, 0, 0, []),
  (10, .if_icmp .ge 83, 3, 52, 0, 0, []),
  (13, .iconst 1, 1, 0, 0, 0, []),
  (14, .istore 4, 2, 0, 0, 0, []),
  (16, .iload 4, 2, 0, 0, 0, []),
  (18, .aload_n 0, 1, 0, 0, 0, []),
  (19, .getfield 7, 3, 12, 1, 1, []),
  (22, .iload_n 1, 1, 0, 0, 0, []),
  (23, .iaload, 1, 0, 0, 0, []),
  (24, .if_icmp .ge 63, 3, 50, 0, 0, []),
  (27, .iload 4, 2, 0, 0, 0, []),
  (29, .iconst 1, 1, 0, 0, 0, []),
  (30, .iadd, 1, 0, 0, 0, []),
  (31, .istore 5, 2, 0, 0, 0, []),
  (33, .iload 5, 2, 0, 0, 0, []),
  (35, .aload_n 0, 1, 0, 0, 0, []),
  (36, .getfield 7, 3, 12, 1, 1, []),
  (39, .iload_n 1, 1, 0, 0, 0, []),
  (40, .iaload, 1, 0, 0, 0, []),
  (41, .if_icmp .ge 40, 3, 48, 0, 0, []),
  (44, .aload_n 0, 1, 0, 0, 0, []),
  (45, .iload_n 1, 1, 0, 0, 0, []),
  (46, .iload_n 3, 1, 0, 0, 0, []),
  (47, .iload 4, 2, 0, 0, 0, []),
  (49, .iload 5, 2, 0, 0, 0, []),
  (51, .invokevirtual 207, 3, 164, 12, 0, [5, 0, 0, 0, 5]),
  (54, .aload_n 0, 1, 0, 0, 0, []),
  (55, .iload_n 1, 1, 0, 0, 0, []),
  (56, .invokevirtual 211, 3, 160, 12, 0, [2, 0, 0, 1, 4]),
  (59, .iload_n 2, 1, 0, 0, 0, []),
  (60, .if_icmp .ge 5, 3, 40, 0, 0, []),
  (63, .iconst 1, 1, 0, 0, 0, []),
  (64, .ireturn, 1, 1, 0, 0, []),
  (65, .aload_n 0, 1, 0, 0, 0, []),
  (66, .iload_n 1, 1, 0, 0, 0, []),
  (67, .iload_n 3, 1, 0, 0, 0, []),
  (68, .iload 4, 2, 0, 0, 0, []),
  (70, .iload 5, 2, 0, 0, 0, []),
  (72, .invokevirtual 214, 3, 165, 12, 0, [5, 0, 0, 0, 5]),
  (75, .iinc 5 1, 3, 0, 0, 0, []),
  (78, .goto (-45), 3, 21, 0, 0, []),
  (81, .iinc 4 1, 3, 0, 0, 0, []),
  (84, .goto (-68), 3, 11, 0, 0, []),
  (87, .iinc 3 1, 3, 0, 0, 0, []),
  (90, .goto (-82), 3, 6, 0, 0, []),
  (93, .iconst 0, 1, 0, 0, 0, []),
  (94, .ireturn, 1, 1, 0, 0, [])]
/-- 167 FallRowsModel.headOf(I)I -/
def k167 : List fr_E := [(0, .iload_n 1, 1, 0, 0, 0, []),
  (1, .istore_n 2, 1, 0, 0, 0, []),
  (2, .aload_n 0, 1, 0, 0, 0, []),
  (3, .getfield 69, 3, 12, 24, 24, []),
  (6, .iload_n 2, 1, 0, 0, 0, []),
  (7, .iaload, 1, 0, 0, 0, []),
  (8, .bipush (-9), 2, 0, 0, 0, []),
  (10, .if_icmp .eq 13, 3, 14, 0, 0, []),
  (13, .aload_n 0, 1, 0, 0, 0, []),
  (14, .getfield 69, 3, 12, 24, 24, []),
  (17, .iload_n 2, 1, 0, 0, 0, []),
  (18, .iaload, 1, 0, 0, 0, []),
  (19, .istore_n 2, 1, 0, 0, 0, []),
  (20, .goto (-18), 3, 2, 0, 0, []),
  (23, .iload_n 2, 1, 0, 0, 0, []),
  (24, .ireturn, 1, 0, 0, 0, [])]
/-- 168 FallRowsModel.chainsBy(II)Z -/
def k168 : List fr_E := [(0, .aload_n 0, 1, 0, 0, 0, []),
  (1, .getfield 29, 3, 12, 8, 8, []),
  (4, .iload_n 1, 1, 0, 0, 0, []),
  (5, .iaload, 1, 0, 0, 0, []),
  (6, .istore_n 3, 1, 0, 0, 0, []),
  (7, .aload_n 0, 1, 0, 0, 0, []),
  (8, .getfield 38, 3, 12, 11, 11, []),
  (11, .iconst 4, 1, 0, 0, 0, []),
  (12, .iload_n 1, 1, 0, 0, 0, []),
  (13, .imul, 1, 0, 0, 0, []),
  (14, .iload_n 2, 1, 0, 0, 0, []),
  (15, .iadd, 1, 0, 0, 0, []),
  (16, .iaload, 1, 0, 0, 0, []),
  (17, .ifCond .le 42, 3, 36, 0, 0, []),
  (20, .iload_n 2, 1, 0, 0, 0, []),
  (21, .aload_n 0, 1, 0, 0, 0, []),
  (22, .getfield 32, 3, 12, 9, 9, []),
  (25, .iload_n 1, 1, 0, 0, 0, []),
  (26, .iaload, 1, 0, 0, 0, []),
  (27, .if_icmp .ge 32, 3, 36, 0, 0, []),
  (30, .iload_n 3, 1, 0, 0, 0, []),
  (31, .iconst 3, 1, 0, 0, 0, []),
  (32, .if_icmp .eq 23, 3, 34, 0, 0, []),
  (35, .iload_n 2, 1, 0, 0, 0, []),
  (36, .ifCond .ne 23, 3, 36, 0, 0, []),
  (39, .iload_n 3, 1, 0, 0, 0, []),
  (40, .iconst 2, 1, 0, 0, 0, []),
  (41, .if_icmp .eq 14, 3, 34, 0, 0, []),
  (44, .iload_n 3, 1, 0, 0, 0, []),
  (45, .iconst 5, 1, 0, 0, 0, []),
  (46, .if_icmp .eq 9, 3, 34, 0, 0, []),
  (49, .iload_n 3, 1, 0, 0, 0, []),
  (50, .bipush 6, 2, 0, 0, 0, []),
  (52, .if_icmp .ne 7, 3, 36, 0, 0, []),
  (55, .iconst 1, 1, 0, 0, 0, []),
  (56, .goto 4, 3, 37, 0, 0, []),
  (59, .iconst 0, 1, 0, 0, 0, []),
  (60, .ireturn, 1, 1, 0, 0, [])]
/-- 169 FallRowsModel.joins(I)V -/
def k169 : List fr_E := [(0, .aload_n 0, 1, 0, 0, 0, []),
  (1, .getfield 72, 3, 12, 25, 25, []),
  (4, .astore_n 2, 1, 0, 0, 0, []),
  (5, .iconst 0, 1, 0, 0, 0, []),
  (6, .istore_n 3, 1, 0, 0, 0, []),
  (7, .iload_n 3, 1, 0, 0, 0, []),
  (8, .sipush 160, 3, 0, 0, 0, []),
  (11, .if_icmp .ge 13, 3, 14, 0, 0, []),
  (14, .aload_n 2, 1, 0, 0, 0, []),
  (15, .iload_n 3, 1, 0, 0, 0, []),
  (16, .iconst 0, 1, 0, 0, 0, []),
  (17, .bastore, 1, 0, 0, 0, []),
  (18, .iinc 3 1, 3, 0, 0, 0, []),
  (21, .goto (-14), 3, 5, 0, 0, []),
  (24, .iconst 0, 1, 0, 0, 0, []),
  (25, .istore_n 3, 1, 0, 0, 0, []),
  (26, .iload_n 3, 1, 0, 0, 0, []),
  (27, .bipush (-9), 2, 0, 0, 0, []),
  (29, .if_icmp .eq 229, 3, 144, 0, 0, []),
  (32, .bipush (-9), 2, 0, 0, 0, []),
  (34, .istore_n 3, 1, 0, 0, 0, []),
  (35, .iconst 0, 1, 0, 0, 0, []),
  (36, .istore 4, 2, 0, 0, 0, []),
  (38, .iload 4, 2, 0, 0, 0, []),
  (40, .aload_n 0, 1, 0, 0, 0, []),
  (41, .getfield 7, 3, 12, 1, 1, []),
  (44, .iload_n 1, 1, 0, 0, 0, []),
  (45, .iaload, 1, 0, 0, 0, []),
  (46, .if_icmp .ge 112, 3, 90, 0, 0, []),
  (49, .aload_n 0, 1, 0, 0, 0, []),
  (50, .getfield 13, 3, 12, 2, 2, []),
  (53, .bipush 9, 2, 0, 0, 0, []),
  (55, .iload_n 1, 1, 0, 0, 0, []),
  (56, .imul, 1, 0, 0, 0, []),
  (57, .iload 4, 2, 0, 0, 0, []),
  (59, .iadd, 1, 0, 0, 0, []),
  (60, .iaload, 1, 0, 0, 0, []),
  (61, .istore 5, 2, 0, 0, 0, []),
  (63, .iconst 0, 1, 0, 0, 0, []),
  (64, .istore 6, 2, 0, 0, 0, []),
  (66, .iload 6, 2, 0, 0, 0, []),
  (68, .iconst 2, 1, 0, 0, 0, []),
  (69, .if_icmp .ge 83, 3, 88, 0, 0, []),
  (72, .aload_n 0, 1, 0, 0, 0, []),
  (73, .iload 5, 2, 0, 0, 0, []),
  (75, .iload 6, 2, 0, 0, 0, []),
  (77, .invokevirtual 217, 3, 168, 12, 0, [3, 0, 0, 1, 4]),
  (80, .ifCond .eq 19, 3, 58, 0, 0, []),
  (83, .aload_n 2, 1, 0, 0, 0, []),
  (84, .iconst 4, 1, 0, 0, 0, []),
  (85, .iload 5, 2, 0, 0, 0, []),
  (87, .imul, 1, 0, 0, 0, []),
  (88, .iload 6, 2, 0, 0, 0, []),
  (90, .iadd, 1, 0, 0, 0, []),
  (91, .baload, 1, 0, 0, 0, []),
  (92, .ifCond .ne 7, 3, 58, 0, 0, []),
  (95, .iconst 1, 1, 0, 0, 0, []),
  (96, .goto 4, 3, 59, 0, 0, []),
  (99, .iconst 0, 1, 0, 0, 0, []),
  (100, .istore 7, 2, 0, 0, 0, []),
  (102, .iload 7, 2, 0, 0, 0, []),
  (104, .ifCond .eq 40, 3, 84, 0, 0, []),
  (107, .iload_n 3, 1, 0, 0, 0, []),
  (108, .bipush (-9), 2, 0, 0, 0, []),
  (110, .if_icmp .eq 24, 3, 78, 0, 0, []),
  (113, .aload_n 0, 1, 0, 0, 0, []),
  (114, .getfield 38, 3, 12, 11, 11, []),
  (117, .iconst 4, 1, 0, 0, 0, []),
  (118, .iload 5, 2, 0, 0, 0, []),
  (120, .imul, 1, 0, 0, 0, []),
  (121, .iload 6, 2, 0, 0, 0, []),
  (123, .iadd, 1, 0, 0, 0, []),
  (124, .iaload, 1, 0, 0, 0, []),
  (125, .aload_n 0, 1, 0, 0, 0, []),
  (126, .getfield 38, 3, 12, 11, 11, []),
  (129, .iload_n 3, 1, 0, 0, 0, []),
  (130, .iaload, 1, 0, 0, 0, []),
  (131, .if_icmp .le 13, 3, 84, 0, 0, []),
  (134, .iconst 4, 1, 0, 0, 0, []),
  (135, .iload 5, 2, 0, 0, 0, []),
  (137, .imul, 1, 0, 0, 0, []),
  (138, .iload 6, 2, 0, 0, 0, []),
  (140, .iadd, 1, 0, 0, 0, []),
  (141, .goto 4, 3, 85, 0, 0, []),
  (144, .iload_n 3, 1, 0, 0, 0, []),
  (145, .istore_n 3, 1, 0, 0, 0, []),
  (146, .iinc 6 1, 3, 0, 0, 0, []),
  (149, .goto (-83), 3, 40, 0, 0, []),
  (152, .iinc 4 1, 3, 0, 0, 0, []),
  (155, .goto (-117), 3, 23, 0, 0, []),
  (158, .iload_n 3, 1, 0, 0, 0, []),
  (159, .bipush (-9), 2, 0, 0, 0, []),
  (161, .if_icmp .eq (-135), 3, 16, 0, 0, []),
  (164, .aload_n 2, 1, 0, 0, 0, []),
  (165, .iload_n 3, 1, 0, 0, 0, []),
  (166, .iconst 1, 1, 0, 0, 0, []),
  (167, .bastore, 1, 0, 0, 0, []),
  (168, .iload_n 3, 1, 0, 0, 0, []),
  (169, .iconst 4, 1, 0, 0, 0, []),
  (170, .idiv, 1, 0, 0, 0, []),
  (171, .istore 4, 2, 0, 0, 0, []),
  (173, .aload_n 0, 1, 0, 0, 0, []),
  (174, .getfield 35, 3, 12, 10, 10, []),
  (177, .iload_n 3, 1, 0, 0, 0, []),
  (178, .iaload, 1, 0, 0, 0, []),
  (179, .istore 5, 2, 0, 0, 0, []),
  (181, .aload_n 0, 1, 0, 0, 0, []),
  (182, .getfield 66, 3, 12, 23, 23, []),
  (185, .iload 4, 2, 0, 0, 0, []),
  (187, .iaload, 1, 0, 0, 0, []),
  (188, .bipush (-9), 2, 0, 0, 0, []),
  (190, .if_icmp .ne 39, 3, 129, 0, 0, []),
  (193, .aload_n 0, 1, 0, 0, 0, []),
  (194, .getfield 69, 3, 12, 24, 24, []),
  (197, .iload 5, 2, 0, 0, 0, []),
  (199, .iaload, 1, 0, 0, 0, []),
  (200, .bipush (-9), 2, 0, 0, 0, []),
  (202, .if_icmp .ne 27, 3, 129, 0, 0, []),
  (205, .aload_n 0, 1, 0, 0, 0, []),
  (206, .iload 5, 2, 0, 0, 0, []),
  (208, .invokevirtual 180, 3, 143, 12, 0, [2, 0, 0, 1, 2]),
  (211, .ifCond .ne 18, 3, 129, 0, 0, []),
  (214, .aload_n 0, 1, 0, 0, 0, []),
  (215, .iload 4, 2, 0, 0, 0, []),
  (217, .invokevirtual 220, 3, 167, 12, 0, [2, 0, 0, 1, 3]),
  (220, .iload 5, 2, 0, 0, 0, []),
  (222, .if_icmp .eq 7, 3, 129, 0, 0, []),
  (225, .iconst 1, 1, 0, 0, 0, []),
  (226, .goto 4, 3, 130, 0, 0, []),
  (229, .iconst 0, 1, 0, 0, 0, []),
  (230, .istore 6, 2, 0, 0, 0, []),
  (232, .iload 6, 2, 0, 0, 0, []),
  (234, .ifCond .eq 21, 3, 143, 0, 0, []),
  (237, .aload_n 0, 1, 0, 0, 0, []),
  (238, .getfield 66, 3, 12, 23, 23, []),
  (241, .iload 4, 2, 0, 0, 0, []),
  (243, .iload 5, 2, 0, 0, 0, []),
  (245, .iastore, 1, 0, 0, 0, []),
  (246, .aload_n 0, 1, 0, 0, 0, []),
  (247, .getfield 69, 3, 12, 24, 24, []),
  (250, .iload 5, 2, 0, 0, 0, []),
  (252, .iload 4, 2, 0, 0, 0, []),
  (254, .iastore, 1, 0, 0, 0, []),
  (255, .goto (-229), 3, 16, 0, 0, []),
  (258, .return_, 1, 0, 0, 0, [])]
/-- 170 FallRowsModel.sumTo(II)I -/
def k170 : List fr_E := [(0, .iconst 0, 1, 0, 0, 0, []),
  (1, .istore_n 3, 1, 0, 0, 0, []),
  (2, .iconst 0, 1, 0, 0, 0, []),
  (3, .istore 4, 2, 0, 0, 0, []),
  (5, .iload 4, 2, 0, 0, 0, []),
  (7, .aload_n 0, 1, 0, 0, 0, []),
  (8, .getfield 7, 3, 12, 1, 1, []),
  (11, .iload_n 1, 1, 0, 0, 0, []),
  (12, .iaload, 1, 0, 0, 0, []),
  (13, .if_icmp .ge 93, 3, 61, 0, 0, []),
  (16, .aload_n 0, 1, 0, 0, 0, []),
  (17, .getfield 13, 3, 12, 2, 2, []),
  (20, .bipush 9, 2, 0, 0, 0, []),
  (22, .iload_n 1, 1, 0, 0, 0, []),
  (23, .imul, 1, 0, 0, 0, []),
  (24, .iload 4, 2, 0, 0, 0, []),
  (26, .iadd, 1, 0, 0, 0, []),
  (27, .iaload, 1, 0, 0, 0, []),
  (28, .istore 5, 2, 0, 0, 0, []),
  (30, .iconst 0, 1, 0, 0, 0, []),
  (31, .istore 6, 2, 0, 0, 0, []),
  (33, .iload 6, 2, 0, 0, 0, []),
  (35, .aload_n 0, 1, 0, 0, 0, []),
  (36, .getfield 32, 3, 12, 9, 9, []),
  (39, .iload 5, 2, 0, 0, 0, []),
  (41, .iaload, 1, 0, 0, 0, []),
  (42, .if_icmp .ge 58, 3, 59, 0, 0, []),
  (45, .aload_n 0, 1, 0, 0, 0, []),
  (46, .getfield 75, 3, 12, 26, 26, []),
  (49, .iload 5, 2, 0, 0, 0, []),
  (51, .baload, 1, 0, 0, 0, []),
  (52, .ifCond .eq 48, 3, 59, 0, 0, []),
  (55, .iload_n 3, 1, 0, 0, 0, []),
  (56, .aload_n 0, 1, 0, 0, 0, []),
  (57, .aload_n 0, 1, 0, 0, 0, []),
  (58, .getfield 35, 3, 12, 10, 10, []),
  (61, .iconst 4, 1, 0, 0, 0, []),
  (62, .iload 5, 2, 0, 0, 0, []),
  (64, .imul, 1, 0, 0, 0, []),
  (65, .iload 6, 2, 0, 0, 0, []),
  (67, .iadd, 1, 0, 0, 0, []),
  (68, .iaload, 1, 0, 0, 0, []),
  (69, .invokevirtual 220, 3, 167, 12, 0, [2, 0, 0, 1, 3]),
  (72, .iload_n 2, 1, 0, 0, 0, []),
  (73, .if_icmp .ne 18, 3, 54, 0, 0, []),
  (76, .aload_n 0, 1, 0, 0, 0, []),
  (77, .getfield 38, 3, 12, 11, 11, []),
  (80, .iconst 4, 1, 0, 0, 0, []),
  (81, .iload 5, 2, 0, 0, 0, []),
  (83, .imul, 1, 0, 0, 0, []),
  (84, .iload 6, 2, 0, 0, 0, []),
  (86, .iadd, 1, 0, 0, 0, []),
  (87, .iaload, 1, 0, 0, 0, []),
  (88, .goto 4, 3, 55, 0, 0, []),
  (91, .iconst 0, 1, 0, 0, 0, []),
  (92, .iadd, 1, 0, 0, 0, []),
  (93, .istore_n 3, 1, 0, 0, 0, []),
  (94, .iinc 6 1, 3, 0, 0, 0, []),
  (97, .goto (-64), 3, 21, 0, 0, []),
  (100, .iinc 4 1, 3, 0, 0, 0, []),
  (103, .goto (-98), 3, 4, 0, 0, []),
  (106, .iload_n 3, 1, 0, 0, 0, []),
  (107, .ireturn, 1, 0, 0, 0, [])]
/-- 171 FallRowsModel.byChains(I)V -/
def k171 : List fr_E := [(0, .iconst 0, 1, 0, 0, 0, []),
  (1, .istore_n 2, 1, 0, 0, 0, []),
  (2, .iload_n 2, 1, 0, 0, 0, []),
  (3, .aload_n 0, 1, 0, 0, 0, []),
  (4, .getfield 7, 3, 12, 1, 1, []),
  (7, .iload_n 1, 1, 0, 0, 0, []),
  (8, .iaload, 1, 0, 0, 0, []),
  (9, .if_icmp .ge 44, 3, 34, 0, 0, []),
  (12, .aload_n 0, 1, 0, 0, 0, []),
  (13, .getfield 13, 3, 12, 2, 2, []),
  (16, .bipush 9, 2, 0, 0, 0, []),
  (18, .iload_n 1, 1, 0, 0, 0, []),
  (19, .imul, 1, 0, 0, 0, []),
  (20, .iload_n 2, 1, 0, 0, 0, []),
  (21, .iadd, 1, 0, 0, 0, []),
  (22, .iaload, 1, 0, 0, 0, []),
  (23, .istore_n 3, 1, 0, 0, 0, []),
  (24, .aload_n 0, 1, 0, 0, 0, []),
  (25, .getfield 66, 3, 12, 23, 23, []),
  (28, .iload_n 3, 1, 0, 0, 0, []),
  (29, .bipush (-9), 2, 0, 0, 0, []),
  (31, .iastore, 1, 0, 0, 0, []),
  (32, .aload_n 0, 1, 0, 0, 0, []),
  (33, .getfield 69, 3, 12, 24, 24, []),
  (36, .iload_n 3, 1, 0, 0, 0, []),
  (37, .bipush (-9), 2, 0, 0, 0, []),
  (39, .iastore, 1, 0, 0, 0, []),
  (40, .aload_n 0, 1, 0, 0, 0, []),
  (41, .getfield 75, 3, 12, 26, 26, []),
  (44, .iload_n 3, 1, 0, 0, 0, []),
  (45, .iconst 0, 1, 0, 0, 0, []),
  (46, .bastore, 1, 0, 0, 0, []),
  (47, .iinc 2 1, 3, 0, 0, 0, []),
  (50, .goto (-48), 3, 2, 0, 0, []),
  (53, .aload_n 0, 1, 0, 0, 0, []),
  (54, .iload_n 1, 1, 0, 0, 0, []),
  (55, .invokevirtual 223, 3, 169, 12, 0, [2, 0, 0, 0, 8]),
  (58, .iconst 0, 1, 0, 0, 0, []),
  (59, .istore_n 2, 1, 0, 0, 0, []),
  (60, .aload_n 0, 1, 0, 0, 0, []),
  (61, .getfield 13, 3, 12, 2, 2, []),
  (64, .bipush 9, 2, 0, 0, 0, []),
  (66, .iload_n 1, 1, 0, 0, 0, []),
  (67, .imul, 1, 0, 0, 0, []),
  (68, .iaload, 1, 0, 0, 0, []),
  (69, .istore_n 3, 1, 0, 0, 0, []),
  (70, .iload_n 3, 1, 0, 0, 0, []),
  (71, .bipush (-9), 2, 0, 0, 0, []),
  (73, .if_icmp .eq 138, 3, 123, 0, 0, []),
  (76, .iload_n 3, 1, 0, 0, 0, []),
  (77, .istore 4, 2, 0, 0, 0, []),
  (79, .iload 4, 2, 0, 0, 0, []),
  (81, .bipush (-9), 2, 0, 0, 0, []),
  (83, .if_icmp .eq 39, 3, 75, 0, 0, []),
  (86, .aload_n 0, 1, 0, 0, 0, []),
  (87, .getfield 16, 3, 12, 3, 3, []),
  (90, .bipush 9, 2, 0, 0, 0, []),
  (92, .iload_n 1, 1, 0, 0, 0, []),
  (93, .imul, 1, 0, 0, 0, []),
  (94, .iload_n 2, 1, 0, 0, 0, []),
  (95, .iadd, 1, 0, 0, 0, []),
  (96, .iload 4, 2, 0, 0, 0, []),
  (98, .iastore, 1, 0, 0, 0, []),
  (99, .aload_n 0, 1, 0, 0, 0, []),
  (100, .getfield 75, 3, 12, 26, 26, []),
  (103, .iload 4, 2, 0, 0, 0, []),
  (105, .iconst 1, 1, 0, 0, 0, []),
  (106, .bastore, 1, 0, 0, 0, []),
  (107, .iinc 2 1, 3, 0, 0, 0, []),
  (110, .aload_n 0, 1, 0, 0, 0, []),
  (111, .getfield 66, 3, 12, 23, 23, []),
  (114, .iload 4, 2, 0, 0, 0, []),
  (116, .iaload, 1, 0, 0, 0, []),
  (117, .istore 4, 2, 0, 0, 0, []),
  (119, .goto (-40), 3, 51, 0, 0, []),
  (122, .bipush (-9), 2, 0, 0, 0, []),
  (124, .istore_n 3, 1, 0, 0, 0, []),
  (125, .iconst (-1), 1, 0, 0, 0, []),
  (126, .istore 4, 2, 0, 0, 0, []),
  (128, .iconst 0, 1, 0, 0, 0, []),
  (129, .istore 5, 2, 0, 0, 0, []),
  (131, .iload 5, 2, 0, 0, 0, []),
  (133, .aload_n 0, 1, 0, 0, 0, []),
  (134, .getfield 7, 3, 12, 1, 1, []),
  (137, .iload_n 1, 1, 0, 0, 0, []),
  (138, .iaload, 1, 0, 0, 0, []),
  (139, .if_icmp .ge 69, 3, 122, 0, 0, []),
  (142, .aload_n 0, 1, 0, 0, 0, []),
  (143, .getfield 13, 3, 12, 2, 2, []),
  (146, .bipush 9, 2, 0, 0, 0, []),
  (148, .iload_n 1, 1, 0, 0, 0, []),
  (149, .imul, 1, 0, 0, 0, []),
  (150, .iload 5, 2, 0, 0, 0, []),
  (152, .iadd, 1, 0, 0, 0, []),
  (153, .iaload, 1, 0, 0, 0, []),
  (154, .istore 6, 2, 0, 0, 0, []),
  (156, .aload_n 0, 1, 0, 0, 0, []),
  (157, .getfield 75, 3, 12, 26, 26, []),
  (160, .iload 6, 2, 0, 0, 0, []),
  (162, .baload, 1, 0, 0, 0, []),
  (163, .ifCond .ne 39, 3, 120, 0, 0, []),
  (166, .aload_n 0, 1, 0, 0, 0, []),
  (167, .getfield 69, 3, 12, 24, 24, []),
  (170, .iload 6, 2, 0, 0, 0, []),
  (172, .iaload, 1, 0, 0, 0, []),
  (173, .bipush (-9), 2, 0, 0, 0, []),
  (175, .if_icmp .ne 27, 3, 120, 0, 0, []),
  (178, .aload_n 0, 1, 0, 0, 0, []),
  (179, .iload_n 1, 1, 0, 0, 0, []),
  (180, .iload 6, 2, 0, 0, 0, []),
  (182, .invokevirtual 226, 3, 170, 12, 0, [3, 0, 0, 1, 7]),
  (185, .iload 4, 2, 0, 0, 0, []),
  (187, .if_icmp .le 15, 3, 120, 0, 0, []),
  (190, .aload_n 0, 1, 0, 0, 0, []),
  (191, .iload_n 1, 1, 0, 0, 0, []),
  (192, .iload 6, 2, 0, 0, 0, []),
  (194, .invokevirtual 226, 3, 170, 12, 0, [3, 0, 0, 1, 7]),
  (197, .istore 4, 2, 0, 0, 0, []),
  (199, .iload 6, 2, 0, 0, 0, []),
  (201, .istore_n 3, 1, 0, 0, 0, []),
  (202, .iinc 5 1, 3, 0, 0, 0, []),
  (205, .goto (-74), 3, 81, 0, 0, []),
  (208, .goto (-138), 3, 46, 0, 0, []),
  (211, .return_, 1, 0, 0, 0, [])]
/-- 172 FallRowsModel.order(II)I -/
def k172 : List fr_E := [(0, .aload_n 0, 1, 0, 0, 0, []),
  (1, .iload_n 1, 1, 0, 0, 0, []),
  (2, .invokevirtual 157, 3, 141, 12, 0, [2, 0, 0, 1, 2]),
  (5, .ifCond .eq 21, 3, 14, 0, 0, []),
  (8, .aload_n 0, 1, 0, 0, 0, []),
  (9, .getfield 7, 3, 12, 1, 1, []),
  (12, .iload_n 1, 1, 0, 0, 0, []),
  (13, .iaload, 1, 0, 0, 0, []),
  (14, .ifCond .eq 12, 3, 14, 0, 0, []),
  (17, .iload_n 2, 1, 0, 0, 0, []),
  (18, .iconst 0, 1, 0, 0, 0, []),
  (19, .iconst 3, 1, 0, 0, 0, []),
  (20, .invokestatic 150, 3, 140, 12, 0, [3, 0, 0, 1, 3]),
  (23, .ifCond .ne 5, 3, 16, 0, 0, []),
  (26, .iconst (-1), 1, 0, 0, 0, []),
  (27, .ireturn, 1, 0, 0, 0, []),
  (28, .aload_n 0, 1, 0, 0, 0, []),
  (29, .iload_n 1, 1, 0, 0, 0, []),
  (30, .invokevirtual 187, 3, 153, 12, 0, [2, 0, 0, 0, 3]),
  (33, .iload_n 2, 1, 0, 0, 0, []),
  (34, .ifCond .ne 46, 3, 48, 0, 0, []),
  (37, .iconst 0, 1, 0, 0, 0, []),
  (38, .istore_n 3, 1, 0, 0, 0, []),
  (39, .iload_n 3, 1, 0, 0, 0, []),
  (40, .aload_n 0, 1, 0, 0, 0, []),
  (41, .getfield 7, 3, 12, 1, 1, []),
  (44, .iload_n 1, 1, 0, 0, 0, []),
  (45, .iaload, 1, 0, 0, 0, []),
  (46, .if_icmp .ge 31, 3, 47, 0, 0, []),
  (49, .aload_n 0, 1, 0, 0, 0, []),
  (50, .getfield 16, 3, 12, 3, 3, []),
  (53, .bipush 9, 2, 0, 0, 0, []),
  (55, .iload_n 1, 1, 0, 0, 0, []),
  (56, .imul, 1, 0, 0, 0, []),
  (57, .iload_n 3, 1, 0, 0, 0, []),
  (58, .iadd, 1, 0, 0, 0, []),
  (59, .aload_n 0, 1, 0, 0, 0, []),
  (60, .getfield 13, 3, 12, 2, 2, []),
  (63, .bipush 9, 2, 0, 0, 0, []),
  (65, .iload_n 1, 1, 0, 0, 0, []),
  (66, .imul, 1, 0, 0, 0, []),
  (67, .iload_n 3, 1, 0, 0, 0, []),
  (68, .iadd, 1, 0, 0, 0, []),
  (69, .iaload, 1, 0, 0, 0, []),
  (70, .iastore, 1, 0, 0, 0, []),
  (71, .iinc 3 1, 3, 0, 0, 0, []),
  (74, .goto (-35), 3, 23, 0, 0, []),
  (77, .goto 44, 3, 71, 0, 0, []),
  (80, .iload_n 2, 1, 0, 0, 0, []),
  (81, .iconst 1, 1, 0, 0, 0, []),
  (82, .if_icmp .ne 11, 3, 55, 0, 0, []),
  (85, .aload_n 0, 1, 0, 0, 0, []),
  (86, .iload_n 1, 1, 0, 0, 0, []),
  (87, .invokevirtual 229, 3, 162, 12, 0, [2, 0, 0, 0, 10]),
  (90, .goto 31, 3, 71, 0, 0, []),
  (93, .iload_n 2, 1, 0, 0, 0, []),
  (94, .iconst 2, 1, 0, 0, 0, []),
  (95, .if_icmp .ne 21, 3, 68, 0, 0, []),
  (98, .iconst 1, 1, 0, 0, 0, []),
  (99, .istore_n 3, 1, 0, 0, 0, []),
  (100, .iload_n 3, 1, 0, 0, 0, []),
  (101, .ifCond .eq 12, 3, 67, 0, 0, []),
  (104, .aload_n 0, 1, 0, 0, 0, []),
  (105, .iload_n 1, 1, 0, 0, 0, []),
  (106, .invokevirtual 232, 3, 166, 12, 0, [2, 0, 0, 1, 6]),
  (109, .istore_n 3, 1, 0, 0, 0, []),
  (110, .goto (-10), 3, 60, 0, 0, []),
  (113, .goto 8, 3, 71, 0, 0, []),
  (116, .aload_n 0, 1, 0, 0, 0, []),
  (117, .iload_n 1, 1, 0, 0, 0, []),
  (118, .invokevirtual 235, 3, 171, 12, 0, [2, 0, 0, 0, 7]),
  (121, .aload_n 0, 1, 0, 0, 0, []),
  (122, .iload_n 1, 1, 0, 0, 0, []),
  (123, .invokevirtual 211, 3, 160, 12, 0, [2, 0, 0, 1, 4]),
  (126, .ireturn, 1, 0, 0, 0, [])]
/-- 173 FallRowsModel.set(II)I -/
def k173 : List fr_E := [(0, .iload_n 1, 1, 0, 0, 0, []),
  (1, .ifCond .ne 12, 3, 7, 0, 0, []),
  (4, .iload_n 2, 1, 0, 0, 0, []),
  (5, .iconst 0, 1, 0, 0, 0, []),
  (6, .iconst 1, 1, 0, 0, 0, []),
  (7, .invokestatic 150, 3, 140, 12, 0, [3, 0, 0, 1, 3]),
  (10, .goto 63, 3, 40, 0, 0, []),
  (13, .iload_n 1, 1, 0, 0, 0, []),
  (14, .iconst 1, 1, 0, 0, 0, []),
  (15, .if_icmp .ne 38, 3, 29, 0, 0, []),
  (18, .iload_n 2, 1, 0, 0, 0, []),
  (19, .iconst 1, 1, 0, 0, 0, []),
  (20, .if_icmp .eq 25, 3, 25, 0, 0, []),
  (23, .iload_n 2, 1, 0, 0, 0, []),
  (24, .iconst 2, 1, 0, 0, 0, []),
  (25, .if_icmp .eq 20, 3, 25, 0, 0, []),
  (28, .iload_n 2, 1, 0, 0, 0, []),
  (29, .iconst 4, 1, 0, 0, 0, []),
  (30, .if_icmp .eq 15, 3, 25, 0, 0, []),
  (33, .iload_n 2, 1, 0, 0, 0, []),
  (34, .bipush 8, 2, 0, 0, 0, []),
  (36, .if_icmp .eq 9, 3, 25, 0, 0, []),
  (39, .iload_n 2, 1, 0, 0, 0, []),
  (40, .bipush 16, 2, 0, 0, 0, []),
  (42, .if_icmp .ne 7, 3, 27, 0, 0, []),
  (45, .iconst 1, 1, 0, 0, 0, []),
  (46, .goto 27, 3, 40, 0, 0, []),
  (49, .iconst 0, 1, 0, 0, 0, []),
  (50, .goto 23, 3, 40, 0, 0, []),
  (53, .iload_n 1, 1, 0, 0, 0, []),
  (54, .iconst 2, 1, 0, 0, 0, []),
  (55, .if_icmp .ne 17, 3, 39, 0, 0, []),
  (58, .iload_n 2, 1, 0, 0, 0, []),
  (59, .iconst 0, 1, 0, 0, 0, []),
  (60, .bipush 8, 2, 0, 0, 0, []),
  (62, .invokestatic 150, 3, 140, 12, 0, [3, 0, 0, 1, 3]),
  (65, .ifCond .eq 7, 3, 39, 0, 0, []),
  (68, .iconst 1, 1, 0, 0, 0, []),
  (69, .goto 4, 3, 40, 0, 0, []),
  (72, .iconst 0, 1, 0, 0, 0, []),
  (73, .istore_n 3, 1, 0, 0, 0, []),
  (74, .iload_n 3, 1, 0, 0, 0, []),
  (75, .ifCond .ne 5, 3, 45, 0, 0, []),
  (78, .iconst (-1), 1, 0, 0, 0, []),
  (79, .ireturn, 1, 0, 0, 0, []),
  (80, .iload_n 1, 1, 0, 0, 0, []),
  (81, .ifCond .ne 18, 3, 54, 0, 0, []),
  (84, .aload_n 0, 1, 0, 0, 0, []),
  (85, .getfield 238, 3, 12, 13, 13, []),
  (88, .ifCond .eq 7, 3, 52, 0, 0, []),
  (91, .iconst 1, 1, 0, 0, 0, []),
  (92, .goto 23, 3, 62, 0, 0, []),
  (95, .iconst 0, 1, 0, 0, 0, []),
  (96, .goto 19, 3, 62, 0, 0, []),
  (99, .iload_n 1, 1, 0, 0, 0, []),
  (100, .iconst 1, 1, 0, 0, 0, []),
  (101, .if_icmp .ne 10, 3, 60, 0, 0, []),
  (104, .aload_n 0, 1, 0, 0, 0, []),
  (105, .getfield 44, 3, 12, 14, 14, []),
  (108, .goto 7, 3, 62, 0, 0, []),
  (111, .aload_n 0, 1, 0, 0, 0, []),
  (112, .getfield 48, 3, 12, 15, 15, []),
  (115, .istore 4, 2, 0, 0, 0, []),
  (117, .iload_n 1, 1, 0, 0, 0, []),
  (118, .ifCond .ne 20, 3, 74, 0, 0, []),
  (121, .aload_n 0, 1, 0, 0, 0, []),
  (122, .iload_n 2, 1, 0, 0, 0, []),
  (123, .iconst 1, 1, 0, 0, 0, []),
  (124, .if_icmp .ne 7, 3, 71, 0, 0, []),
  (127, .iconst 1, 1, 0, 0, 0, []),
  (128, .goto 4, 3, 72, 0, 0, []),
  (131, .iconst 0, 1, 0, 0, 0, []),
  (132, .putfield 238, 3, 12, 13, 13, [1]),
  (135, .goto 21, 3, 84, 0, 0, []),
  (138, .iload_n 1, 1, 0, 0, 0, []),
  (139, .iconst 1, 1, 0, 0, 0, []),
  (140, .if_icmp .ne 11, 3, 81, 0, 0, []),
  (143, .aload_n 0, 1, 0, 0, 0, []),
  (144, .iload_n 2, 1, 0, 0, 0, []),
  (145, .putfield 44, 3, 12, 14, 14, []),
  (148, .goto 8, 3, 84, 0, 0, []),
  (151, .aload_n 0, 1, 0, 0, 0, []),
  (152, .iload_n 2, 1, 0, 0, 0, []),
  (153, .putfield 48, 3, 12, 15, 15, []),
  (156, .iload 4, 2, 0, 0, 0, []),
  (158, .ireturn, 1, 0, 0, 0, [])]
/-- 174 FallRowsModel.boundOf(I)I -/
def k174 : List fr_E := [(0, .iconst 0, 1, 0, 0, 0, []),
  (1, .istore_n 2, 1, 0, 0, 0, []),
  (2, .iconst 0, 1, 0, 0, 0, []),
  (3, .istore_n 3, 1, 0, 0, 0, []),
  (4, .iload_n 3, 1, 0, 0, 0, []),
  (5, .aload_n 0, 1, 0, 0, 0, []),
  (6, .getfield 7, 3, 12, 1, 1, []),
  (9, .iload_n 1, 1, 0, 0, 0, []),
  (10, .iaload, 1, 0, 0, 0, []),
  (11, .if_icmp .ge 94, 3, 59, 0, 0, []),
  (14, .aload_n 0, 1, 0, 0, 0, []),
  (15, .getfield 13, 3, 12, 2, 2, []),
  (18, .bipush 9, 2, 0, 0, 0, []),
  (20, .iload_n 1, 1, 0, 0, 0, []),
  (21, .imul, 1, 0, 0, 0, []),
  (22, .iload_n 3, 1, 0, 0, 0, []),
  (23, .iadd, 1, 0, 0, 0, []),
  (24, .iaload, 1, 0, 0, 0, []),
  (25, .istore 4, 2, 0, 0, 0, []),
  (27, .aload_n 0, 1, 0, 0, 0, []),
  (28, .iload 4, 2, 0, 0, 0, []),
  (30, .bipush (-9), 2, 0, 0, 0, []),
  (32, .invokevirtual 198, 3, 159, 12, 0, [3, 0, 0, 1, 5]),
  (35, .istore 5, 2, 0, 0, 0, []),
  (37, .iconst 0, 1, 0, 0, 0, []),
  (38, .istore 6, 2, 0, 0, 0, []),
  (40, .iload 6, 2, 0, 0, 0, []),
  (42, .aload_n 0, 1, 0, 0, 0, []),
  (43, .getfield 32, 3, 12, 9, 9, []),
  (46, .iload 4, 2, 0, 0, 0, []),
  (48, .iaload, 1, 0, 0, 0, []),
  (49, .if_icmp .ge 45, 3, 53, 0, 0, []),
  (52, .aload_n 0, 1, 0, 0, 0, []),
  (53, .iload 4, 2, 0, 0, 0, []),
  (55, .aload_n 0, 1, 0, 0, 0, []),
  (56, .getfield 35, 3, 12, 10, 10, []),
  (59, .iconst 4, 1, 0, 0, 0, []),
  (60, .iload 4, 2, 0, 0, 0, []),
  (62, .imul, 1, 0, 0, 0, []),
  (63, .iload 6, 2, 0, 0, 0, []),
  (65, .iadd, 1, 0, 0, 0, []),
  (66, .iaload, 1, 0, 0, 0, []),
  (67, .invokevirtual 198, 3, 159, 12, 0, [3, 0, 0, 1, 5]),
  (70, .istore 7, 2, 0, 0, 0, []),
  (72, .iload 7, 2, 0, 0, 0, []),
  (74, .iload 5, 2, 0, 0, 0, []),
  (76, .if_icmp .ge 8, 3, 49, 0, 0, []),
  (79, .iload 7, 2, 0, 0, 0, []),
  (81, .goto 5, 3, 50, 0, 0, []),
  (84, .iload 5, 2, 0, 0, 0, []),
  (86, .istore 5, 2, 0, 0, 0, []),
  (88, .iinc 6 1, 3, 0, 0, 0, []),
  (91, .goto (-51), 3, 26, 0, 0, []),
  (94, .iload_n 2, 1, 0, 0, 0, []),
  (95, .iload 5, 2, 0, 0, 0, []),
  (97, .iadd, 1, 0, 0, 0, []),
  (98, .istore_n 2, 1, 0, 0, 0, []),
  (99, .iinc 3 1, 3, 0, 0, 0, []),
  (102, .goto (-98), 3, 4, 0, 0, []),
  (105, .iload_n 2, 1, 0, 0, 0, []),
  (106, .ireturn, 1, 0, 0, 0, [])]
/-- 175 FallRowsModel.falls(I)I -/
def k175 : List fr_E := [(0, .iconst 0, 1, 0, 0, 0, []),
  (1, .istore_n 2, 1, 0, 0, 0, []),
  (2, .iconst 0, 1, 0, 0, 0, []),
  (3, .istore_n 3, 1, 0, 0, 0, []),
  (4, .iload_n 3, 1, 0, 0, 0, []),
  (5, .iconst 1, 1, 0, 0, 0, []),
  (6, .iadd, 1, 0, 0, 0, []),
  (7, .aload_n 0, 1, 0, 0, 0, []),
  (8, .getfield 7, 3, 12, 1, 1, []),
  (11, .iload_n 1, 1, 0, 0, 0, []),
  (12, .iaload, 1, 0, 0, 0, []),
  (13, .if_icmp .ge 99, 3, 68, 0, 0, []),
  (16, .aload_n 0, 1, 0, 0, 0, []),
  (17, .getfield 16, 3, 12, 3, 3, []),
  (20, .bipush 9, 2, 0, 0, 0, []),
  (22, .iload_n 1, 1, 0, 0, 0, []),
  (23, .imul, 1, 0, 0, 0, []),
  (24, .iload_n 3, 1, 0, 0, 0, []),
  (25, .iadd, 1, 0, 0, 0, []),
  (26, .iaload, 1, 0, 0, 0, []),
  (27, .istore 4, 2, 0, 0, 0, []),
  (29, .iconst 0, 1, 0, 0, 0, []),
  (30, .istore 5, 2, 0, 0, 0, []),
  (32, .iconst 0, 1, 0, 0, 0, []),
  (33, .istore 6, 2, 0, 0, 0, []),
  (35, .iload 6, 2, 0, 0, 0, []),
  (37, .aload_n 0, 1, 0, 0, 0, []),
  (38, .getfield 32, 3, 12, 9, 9, []),
  (41, .iload 4, 2, 0, 0, 0, []),
  (43, .iaload, 1, 0, 0, 0, []),
  (44, .if_icmp .ge 49, 3, 58, 0, 0, []),
  (47, .iload 5, 2, 0, 0, 0, []),
  (49, .ifCond .ne 31, 3, 52, 0, 0, []),
  (52, .aload_n 0, 1, 0, 0, 0, []),
  (53, .getfield 35, 3, 12, 10, 10, []),
  (56, .iconst 4, 1, 0, 0, 0, []),
  (57, .iload 4, 2, 0, 0, 0, []),
  (59, .imul, 1, 0, 0, 0, []),
  (60, .iload 6, 2, 0, 0, 0, []),
  (62, .iadd, 1, 0, 0, 0, []),
  (63, .iaload, 1, 0, 0, 0, []),
  (64, .aload_n 0, 1, 0, 0, 0, []),
  (65, .getfield 16, 3, 12, 3, 3, []),
  (68, .bipush 9, 2, 0, 0, 0, []),
  (70, .iload_n 1, 1, 0, 0, 0, []),
  (71, .imul, 1, 0, 0, 0, []),
  (72, .iload_n 3, 1, 0, 0, 0, []),
  (73, .iadd, 1, 0, 0, 0, []),
  (74, .iconst 1, 1, 0, 0, 0, []),
  (75, .iadd, 1, 0, 0, 0, []),
  (76, .iaload, 1, 0, 0, 0, []),
  (77, .if_icmp .ne 7, 3, 54, 0, 0, []),
  (80, .iconst 1, 1, 0, 0, 0, []),
  (81, .goto 4, 3, 55, 0, 0, []),
  (84, .iconst 0, 1, 0, 0, 0, []),
  (85, .istore 5, 2, 0, 0, 0, []),
  (87, .iinc 6 1, 3, 0, 0, 0, []),
  (90, .goto (-55), 3, 25, 0, 0, []),
  (93, .iload_n 2, 1, 0, 0, 0, []),
  (94, .iload 5, 2, 0, 0, 0, []),
  (96, .ifCond .eq 7, 3, 63, 0, 0, []),
  (99, .iconst 1, 1, 0, 0, 0, []),
  (100, .goto 4, 3, 64, 0, 0, []),
  (103, .iconst 0, 1, 0, 0, 0, []),
  (104, .iadd, 1, 0, 0, 0, []),
  (105, .istore_n 2, 1, 0, 0, 0, []),
  (106, .iinc 3 1, 3, 0, 0, 0, []),
  (109, .goto (-105), 3, 4, 0, 0, []),
  (112, .iload_n 2, 1, 0, 0, 0, []),
  (113, .ireturn, 1, 0, 0, 0, [])]
/-- 176 FallRowsModel.weight(II)I -/
def k176 : List fr_E := [(0, .aload_n 0, 1, 0, 0, 0, []),
  (1, .iload_n 1, 1, 0, 0, 0, []),
  (2, .invokevirtual 157, 3, 141, 12, 0, [2, 0, 0, 1, 2]),
  (5, .ifCond .eq 21, 3, 14, 0, 0, []),
  (8, .aload_n 0, 1, 0, 0, 0, []),
  (9, .getfield 7, 3, 12, 1, 1, []),
  (12, .iload_n 1, 1, 0, 0, 0, []),
  (13, .iaload, 1, 0, 0, 0, []),
  (14, .ifCond .eq 12, 3, 14, 0, 0, []),
  (17, .iload_n 2, 1, 0, 0, 0, []),
  (18, .iconst 0, 1, 0, 0, 0, []),
  (19, .iconst 3, 1, 0, 0, 0, []),
  (20, .invokestatic 150, 3, 140, 12, 0, [3, 0, 0, 1, 3]),
  (23, .ifCond .ne 5, 3, 16, 0, 0, []),
  (26, .iconst (-1), 1, 0, 0, 0, []),
  (27, .ireturn, 1, 0, 0, 0, []),
  (28, .iload_n 2, 1, 0, 0, 0, []),
  (29, .tableswitch 63 0 2 #[27, 33, 57], 27, 43, 0, 0, [18, 22, 39]),
  (56, .aload_n 0, 1, 0, 0, 0, []),
  (57, .iload_n 1, 1, 0, 0, 0, []),
  (58, .invokevirtual 211, 3, 160, 12, 0, [2, 0, 0, 1, 4]),
  (61, .ireturn, 1, 0, 0, 0, []),
  (62, .aload_n 0, 1, 0, 0, 0, []),
  (63, .iload_n 1, 1, 0, 0, 0, []),
  (64, .invokevirtual 201, 3, 161, 12, 0, [2, 0, 0, 0, 9]),
  (67, .aload_n 0, 1, 0, 0, 0, []),
  (68, .getfield 63, 3, 12, 22, 22, []),
  (71, .bipush 9, 2, 0, 0, 0, []),
  (73, .iconst 1, 1, 0, 0, 0, []),
  (74, .aload_n 0, 1, 0, 0, 0, []),
  (75, .getfield 7, 3, 12, 1, 1, []),
  (78, .iload_n 1, 1, 0, 0, 0, []),
  (79, .iaload, 1, 0, 0, 0, []),
  (80, .ishl, 1, 0, 0, 0, []),
  (81, .iconst 2, 1, 0, 0, 0, []),
  (82, .isub, 1, 0, 0, 0, []),
  (83, .imul, 1, 0, 0, 0, []),
  (84, .iaload, 1, 0, 0, 0, []),
  (85, .ireturn, 1, 0, 0, 0, []),
  (86, .aload_n 0, 1, 0, 0, 0, []),
  (87, .iload_n 1, 1, 0, 0, 0, []),
  (88, .invokevirtual 241, 3, 174, 12, 0, [2, 0, 0, 1, 8]),
  (91, .ireturn, 1, 0, 0, 0, []),
  (92, .aload_n 0, 1, 0, 0, 0, []),
  (93, .iload_n 1, 1, 0, 0, 0, []),
  (94, .invokevirtual 244, 3, 175, 12, 0, [2, 0, 0, 1, 7]),
  (97, .ireturn, 1, 0, 0, 0, [])]
/-- 177 FallRowsModel.makeRow()V -/
def k177 : List fr_E := [(0, .aload_n 0, 1, 0, 0, 0, []),
  (1, .iconst 0, 1, 0, 0, 0, []),
  (2, .putfield 247, 3, 12, 28, 28, []),
  (5, .iconst 0, 1, 0, 0, 0, []),
  (6, .istore_n 1, 1, 0, 0, 0, []),
  (7, .iload_n 1, 1, 0, 0, 0, []),
  (8, .aload_n 0, 1, 0, 0, 0, []),
  (9, .getfield 238, 3, 12, 13, 13, []),
  (12, .ifCond .eq 7, 3, 11, 0, 0, []),
  (15, .iconst 2, 1, 0, 0, 0, []),
  (16, .goto 4, 3, 12, 0, 0, []),
  (19, .iconst 1, 1, 0, 0, 0, []),
  (20, .if_icmp .ge 104, 3, 68, 0, 0, []),
  (23, .iconst 0, 1, 0, 0, 0, []),
  (24, .istore_n 2, 1, 0, 0, 0, []),
  (25, .iload_n 2, 1, 0, 0, 0, []),
  (26, .aload_n 0, 1, 0, 0, 0, []),
  (27, .getfield 147, 3, 12, 0, 0, []),
  (30, .if_icmp .ge 88, 3, 66, 0, 0, []),
  (33, .iconst 0, 1, 0, 0, 0, []),
  (34, .istore_n 3, 1, 0, 0, 0, []),
  (35, .iload_n 3, 1, 0, 0, 0, []),
  (36, .aload_n 0, 1, 0, 0, 0, []),
  (37, .getfield 7, 3, 12, 1, 1, []),
  (40, .iload_n 2, 1, 0, 0, 0, []),
  (41, .iaload, 1, 0, 0, 0, []),
  (42, .if_icmp .ge 70, 3, 64, 0, 0, []),
  (45, .aload_n 0, 1, 0, 0, 0, []),
  (46, .getfield 16, 3, 12, 3, 3, []),
  (49, .bipush 9, 2, 0, 0, 0, []),
  (51, .iload_n 2, 1, 0, 0, 0, []),
  (52, .imul, 1, 0, 0, 0, []),
  (53, .iload_n 3, 1, 0, 0, 0, []),
  (54, .iadd, 1, 0, 0, 0, []),
  (55, .iaload, 1, 0, 0, 0, []),
  (56, .istore 4, 2, 0, 0, 0, []),
  (58, .aload_n 0, 1, 0, 0, 0, []),
  (59, .getfield 238, 3, 12, 13, 13, []),
  (62, .ifCond .eq 23, 3, 50, 0, 0, []),
  (65, .aload_n 0, 1, 0, 0, 0, []),
  (66, .getfield 25, 3, 12, 7, 7, []),
  (69, .iload 4, 2, 0, 0, 0, []),
  (71, .baload, 1, 0, 0, 0, []),
  (72, .iload_n 1, 1, 0, 0, 0, []),
  (73, .iconst 1, 1, 0, 0, 0, []),
  (74, .if_icmp .ne 7, 3, 48, 0, 0, []),
  (77, .iconst 1, 1, 0, 0, 0, []),
  (78, .goto 4, 3, 49, 0, 0, []),
  (81, .iconst 0, 1, 0, 0, 0, []),
  (82, .if_icmp .ne 24, 3, 62, 0, 0, []),
  (85, .aload_n 0, 1, 0, 0, 0, []),
  (86, .getfield 78, 3, 12, 27, 27, []),
  (89, .aload_n 0, 1, 0, 0, 0, []),
  (90, .getfield 247, 3, 12, 28, 28, []),
  (93, .iload 4, 2, 0, 0, 0, []),
  (95, .iastore, 1, 0, 0, 0, []),
  (96, .aload_n 0, 1, 0, 0, 0, []),
  (97, .dup, 1, 0, 0, 0, []),
  (98, .getfield 247, 3, 12, 28, 28, []),
  (101, .iconst 1, 1, 0, 0, 0, []),
  (102, .iadd, 1, 0, 0, 0, []),
  (103, .putfield 247, 3, 12, 28, 28, []),
  (106, .iinc 3 1, 3, 0, 0, 0, []),
  (109, .goto (-74), 3, 21, 0, 0, []),
  (112, .iinc 2 1, 3, 0, 0, 0, []),
  (115, .goto (-90), 3, 15, 0, 0, []),
  (118, .iinc 1 1, 3, 0, 0, 0, []),
  (121, .goto (-114), 3, 5, 0, 0, []),
  (124, .iconst 0, 1, 0, 0, 0, []),
  (125, .istore_n 1, 1, 0, 0, 0, []),
  (126, .iload_n 1, 1, 0, 0, 0, []),
  (127, .aload_n 0, 1, 0, 0, 0, []),
  (128, .getfield 247, 3, 12, 28, 28, []),
  (131, .if_icmp .ge 43, 3, 97, 0, 0, []),
  (134, .aload_n 0, 1, 0, 0, 0, []),
  (135, .getfield 81, 3, 12, 29, 29, []),
  (138, .aload_n 0, 1, 0, 0, 0, []),
  (139, .getfield 78, 3, 12, 27, 27, []),
  (142, .iload_n 1, 1, 0, 0, 0, []),
  (143, .iaload, 1, 0, 0, 0, []),
  (144, .iload_n 1, 1, 0, 0, 0, []),
  (145, .iconst 1, 1, 0, 0, 0, []),
  (146, .iadd, 1, 0, 0, 0, []),
  (147, .aload_n 0, 1, 0, 0, 0, []),
  (148, .getfield 247, 3, 12, 28, 28, []),
  (151, .if_icmp .ge 14, 3, 93, 0, 0, []),
  (154, .aload_n 0, 1, 0, 0, 0, []),
  (155, .getfield 78, 3, 12, 27, 27, []),
  (158, .iload_n 1, 1, 0, 0, 0, []),
  (159, .iconst 1, 1, 0, 0, 0, []),
  (160, .iadd, 1, 0, 0, 0, []),
  (161, .iaload, 1, 0, 0, 0, []),
  (162, .goto 5, 3, 94, 0, 0, []),
  (165, .bipush (-9), 2, 0, 0, 0, []),
  (167, .iastore, 1, 0, 0, 0, []),
  (168, .iinc 1 1, 3, 0, 0, 0, []),
  (171, .goto (-45), 3, 70, 0, 0, []),
  (174, .return_, 1, 0, 0, 0, [])]
/-- 178 FallRowsModel.isTurned(I)Z -/
def k178 : List fr_E := [(0, .aload_n 0, 1, 0, 0, 0, []),
  (1, .getfield 29, 3, 12, 8, 8, []),
  (4, .iload_n 1, 1, 0, 0, 0, []),
  (5, .iaload, 1, 0, 0, 0, []),
  (6, .iconst 3, 1, 0, 0, 0, []),
  (7, .if_icmp .ne 43, 3, 32, 0, 0, []),
  (10, .aload_n 0, 1, 0, 0, 0, []),
  (11, .getfield 35, 3, 12, 10, 10, []),
  (14, .iconst 4, 1, 0, 0, 0, []),
  (15, .iload_n 1, 1, 0, 0, 0, []),
  (16, .imul, 1, 0, 0, 0, []),
  (17, .iconst 1, 1, 0, 0, 0, []),
  (18, .iadd, 1, 0, 0, 0, []),
  (19, .iaload, 1, 0, 0, 0, []),
  (20, .aload_n 0, 1, 0, 0, 0, []),
  (21, .getfield 81, 3, 12, 29, 29, []),
  (24, .iload_n 1, 1, 0, 0, 0, []),
  (25, .iaload, 1, 0, 0, 0, []),
  (26, .if_icmp .eq 24, 3, 32, 0, 0, []),
  (29, .aload_n 0, 1, 0, 0, 0, []),
  (30, .getfield 35, 3, 12, 10, 10, []),
  (33, .iconst 4, 1, 0, 0, 0, []),
  (34, .iload_n 1, 1, 0, 0, 0, []),
  (35, .imul, 1, 0, 0, 0, []),
  (36, .iaload, 1, 0, 0, 0, []),
  (37, .aload_n 0, 1, 0, 0, 0, []),
  (38, .getfield 81, 3, 12, 29, 29, []),
  (41, .iload_n 1, 1, 0, 0, 0, []),
  (42, .iaload, 1, 0, 0, 0, []),
  (43, .if_icmp .ne 7, 3, 32, 0, 0, []),
  (46, .iconst 1, 1, 0, 0, 0, []),
  (47, .goto 4, 3, 33, 0, 0, []),
  (50, .iconst 0, 1, 0, 0, 0, []),
  (51, .ireturn, 1, 1, 0, 0, [])]
/-- 179 FallRowsModel.makeJumps()V -/
def k179 : List fr_E := [(0, .iconst 0, 1, 0, 0, 0, []),
  (1, .istore_n 1, 1, 0, 0, 0, []),
  (2, .iload_n 1, 1, 0, 0, 0, []),
  (3, .aload_n 0, 1, 0, 0, 0, []),
  (4, .getfield 154, 3, 12, 4, 4, []),
  (7, .if_icmp .ge 209, 3, 144, 0, 0, []),
  (10, .aload_n 0, 1, 0, 0, 0, []),
  (11, .getfield 35, 3, 12, 10, 10, []),
  (14, .iconst 4, 1, 0, 0, 0, []),
  (15, .iload_n 1, 1, 0, 0, 0, []),
  (16, .imul, 1, 0, 0, 0, []),
  (17, .iaload, 1, 0, 0, 0, []),
  (18, .istore_n 2, 1, 0, 0, 0, []),
  (19, .aload_n 0, 1, 0, 0, 0, []),
  (20, .getfield 81, 3, 12, 29, 29, []),
  (23, .iload_n 1, 1, 0, 0, 0, []),
  (24, .iaload, 1, 0, 0, 0, []),
  (25, .istore_n 3, 1, 0, 0, 0, []),
  (26, .aload_n 0, 1, 0, 0, 0, []),
  (27, .getfield 93, 3, 12, 33, 33, []),
  (30, .iconst 2, 1, 0, 0, 0, []),
  (31, .iload_n 1, 1, 0, 0, 0, []),
  (32, .imul, 1, 0, 0, 0, []),
  (33, .bipush (-9), 2, 0, 0, 0, []),
  (35, .iastore, 1, 0, 0, 0, []),
  (36, .aload_n 0, 1, 0, 0, 0, []),
  (37, .getfield 93, 3, 12, 33, 33, []),
  (40, .iconst 2, 1, 0, 0, 0, []),
  (41, .iload_n 1, 1, 0, 0, 0, []),
  (42, .imul, 1, 0, 0, 0, []),
  (43, .iconst 1, 1, 0, 0, 0, []),
  (44, .iadd, 1, 0, 0, 0, []),
  (45, .bipush (-9), 2, 0, 0, 0, []),
  (47, .iastore, 1, 0, 0, 0, []),
  (48, .aload_n 0, 1, 0, 0, 0, []),
  (49, .getfield 96, 3, 12, 34, 34, []),
  (52, .iconst 2, 1, 0, 0, 0, []),
  (53, .iload_n 1, 1, 0, 0, 0, []),
  (54, .imul, 1, 0, 0, 0, []),
  (55, .iconst 0, 1, 0, 0, 0, []),
  (56, .bastore, 1, 0, 0, 0, []),
  (57, .aload_n 0, 1, 0, 0, 0, []),
  (58, .getfield 96, 3, 12, 34, 34, []),
  (61, .iconst 2, 1, 0, 0, 0, []),
  (62, .iload_n 1, 1, 0, 0, 0, []),
  (63, .imul, 1, 0, 0, 0, []),
  (64, .iconst 1, 1, 0, 0, 0, []),
  (65, .iadd, 1, 0, 0, 0, []),
  (66, .iconst 0, 1, 0, 0, 0, []),
  (67, .bastore, 1, 0, 0, 0, []),
  (68, .aload_n 0, 1, 0, 0, 0, []),
  (69, .getfield 99, 3, 12, 35, 35, []),
  (72, .iconst 2, 1, 0, 0, 0, []),
  (73, .iload_n 1, 1, 0, 0, 0, []),
  (74, .imul, 1, 0, 0, 0, []),
  (75, .iconst 0, 1, 0, 0, 0, []),
  (76, .iastore, 1, 0, 0, 0, []),
  (77, .aload_n 0, 1, 0, 0, 0, []),
  (78, .getfield 99, 3, 12, 35, 35, []),
  (81, .iconst 2, 1, 0, 0, 0, []),
  (82, .iload_n 1, 1, 0, 0, 0, []),
  (83, .imul, 1, 0, 0, 0, []),
  (84, .iconst 1, 1, 0, 0, 0, []),
  (85, .iadd, 1, 0, 0, 0, []),
  (86, .iconst 0, 1, 0, 0, 0, []),
  (87, .iastore, 1, 0, 0, 0, []),
  (88, .aload_n 0, 1, 0, 0, 0, []),
  (89, .getfield 29, 3, 12, 8, 8, []),
  (92, .iload_n 1, 1, 0, 0, 0, []),
  (93, .iaload, 1, 0, 0, 0, []),
  (94, .iconst 3, 1, 0, 0, 0, []),
  (95, .if_icmp .ne 68, 3, 112, 0, 0, []),
  (98, .aload_n 0, 1, 0, 0, 0, []),
  (99, .getfield 35, 3, 12, 10, 10, []),
  (102, .iconst 4, 1, 0, 0, 0, []),
  (103, .iload_n 1, 1, 0, 0, 0, []),
  (104, .imul, 1, 0, 0, 0, []),
  (105, .iconst 1, 1, 0, 0, 0, []),
  (106, .iadd, 1, 0, 0, 0, []),
  (107, .iaload, 1, 0, 0, 0, []),
  (108, .istore 4, 2, 0, 0, 0, []),
  (110, .aload_n 0, 1, 0, 0, 0, []),
  (111, .getfield 93, 3, 12, 33, 33, []),
  (114, .iconst 2, 1, 0, 0, 0, []),
  (115, .iload_n 1, 1, 0, 0, 0, []),
  (116, .imul, 1, 0, 0, 0, []),
  (117, .aload_n 0, 1, 0, 0, 0, []),
  (118, .iload_n 1, 1, 0, 0, 0, []),
  (119, .invokevirtual 250, 3, 178, 12, 0, [2, 0, 0, 1, 2]),
  (122, .ifCond .eq 8, 3, 92, 0, 0, []),
  (125, .iload 4, 2, 0, 0, 0, []),
  (127, .goto 4, 3, 93, 0, 0, []),
  (130, .iload_n 2, 1, 0, 0, 0, []),
  (131, .iastore, 1, 0, 0, 0, []),
  (132, .aload_n 0, 1, 0, 0, 0, []),
  (133, .getfield 93, 3, 12, 33, 33, []),
  (136, .iconst 2, 1, 0, 0, 0, []),
  (137, .iload_n 1, 1, 0, 0, 0, []),
  (138, .imul, 1, 0, 0, 0, []),
  (139, .iconst 1, 1, 0, 0, 0, []),
  (140, .iadd, 1, 0, 0, 0, []),
  (141, .iload 4, 2, 0, 0, 0, []),
  (143, .iload_n 3, 1, 0, 0, 0, []),
  (144, .if_icmp .eq 13, 3, 109, 0, 0, []),
  (147, .iload_n 2, 1, 0, 0, 0, []),
  (148, .iload_n 3, 1, 0, 0, 0, []),
  (149, .if_icmp .eq 8, 3, 109, 0, 0, []),
  (152, .iload 4, 2, 0, 0, 0, []),
  (154, .goto 5, 3, 110, 0, 0, []),
  (157, .bipush (-9), 2, 0, 0, 0, []),
  (159, .iastore, 1, 0, 0, 0, []),
  (160, .goto 50, 3, 142, 0, 0, []),
  (163, .aload_n 0, 1, 0, 0, 0, []),
  (164, .getfield 29, 3, 12, 8, 8, []),
  (167, .iload_n 1, 1, 0, 0, 0, []),
  (168, .iaload, 1, 0, 0, 0, []),
  (169, .iconst 2, 1, 0, 0, 0, []),
  (170, .if_icmp .eq 24, 3, 130, 0, 0, []),
  (173, .aload_n 0, 1, 0, 0, 0, []),
  (174, .getfield 29, 3, 12, 8, 8, []),
  (177, .iload_n 1, 1, 0, 0, 0, []),
  (178, .iaload, 1, 0, 0, 0, []),
  (179, .iconst 5, 1, 0, 0, 0, []),
  (180, .if_icmp .eq 14, 3, 130, 0, 0, []),
  (183, .aload_n 0, 1, 0, 0, 0, []),
  (184, .getfield 29, 3, 12, 8, 8, []),
  (187, .iload_n 1, 1, 0, 0, 0, []),
  (188, .iaload, 1, 0, 0, 0, []),
  (189, .bipush 6, 2, 0, 0, 0, []),
  (191, .if_icmp .ne 19, 3, 142, 0, 0, []),
  (194, .iload_n 2, 1, 0, 0, 0, []),
  (195, .iload_n 3, 1, 0, 0, 0, []),
  (196, .if_icmp .eq 14, 3, 142, 0, 0, []),
  (199, .aload_n 0, 1, 0, 0, 0, []),
  (200, .getfield 93, 3, 12, 33, 33, []),
  (203, .iconst 2, 1, 0, 0, 0, []),
  (204, .iload_n 1, 1, 0, 0, 0, []),
  (205, .imul, 1, 0, 0, 0, []),
  (206, .iconst 1, 1, 0, 0, 0, []),
  (207, .iadd, 1, 0, 0, 0, []),
  (208, .iload_n 2, 1, 0, 0, 0, []),
  (209, .iastore, 1, 0, 0, 0, []),
  (210, .iinc 1 1, 3, 0, 0, 0, []),
  (213, .goto (-211), 3, 2, 0, 0, []),
  (216, .return_, 1, 0, 0, 0, [])]
/-- 180 FallRowsModel.laysOut()V -/
def k180 : List fr_E := [(0, .iconst 0, 1, 0, 0, 0, []),
  (1, .istore_n 1, 1, 0, 0, 0, []),
  (2, .iconst 0, 1, 0, 0, 0, []),
  (3, .istore_n 2, 1, 0, 0, 0, []),
  (4, .iload_n 2, 1, 0, 0, 0, []),
  (5, .aload_n 0, 1, 0, 0, 0, []),
  (6, .getfield 247, 3, 12, 28, 28, []),
  (9, .if_icmp .ge 218, 3, 154, 0, 0, []),
  (12, .aload_n 0, 1, 0, 0, 0, []),
  (13, .getfield 78, 3, 12, 27, 27, []),
  (16, .iload_n 2, 1, 0, 0, 0, []),
  (17, .iaload, 1, 0, 0, 0, []),
  (18, .istore_n 3, 1, 0, 0, 0, []),
  (19, .iload_n 1, 1, 0, 0, 0, []),
  (20, .aload_n 0, 1, 0, 0, 0, []),
  (21, .getfield 44, 3, 12, 14, 14, []),
  (24, .iadd, 1, 0, 0, 0, []),
  (25, .iconst 1, 1, 0, 0, 0, []),
  (26, .isub, 1, 0, 0, 0, []),
  (27, .aload_n 0, 1, 0, 0, 0, []),
  (28, .getfield 44, 3, 12, 14, 14, []),
  (31, .idiv, 1, 0, 0, 0, []),
  (32, .aload_n 0, 1, 0, 0, 0, []),
  (33, .getfield 44, 3, 12, 14, 14, []),
  (36, .imul, 1, 0, 0, 0, []),
  (37, .istore_n 1, 1, 0, 0, 0, []),
  (38, .aload_n 0, 1, 0, 0, 0, []),
  (39, .getfield 84, 3, 12, 30, 30, []),
  (42, .iload_n 3, 1, 0, 0, 0, []),
  (43, .iload_n 1, 1, 0, 0, 0, []),
  (44, .iastore, 1, 0, 0, 0, []),
  (45, .iload_n 1, 1, 0, 0, 0, []),
  (46, .aload_n 0, 1, 0, 0, 0, []),
  (47, .getfield 22, 3, 12, 6, 6, []),
  (50, .iload_n 3, 1, 0, 0, 0, []),
  (51, .iaload, 1, 0, 0, 0, []),
  (52, .iadd, 1, 0, 0, 0, []),
  (53, .istore_n 1, 1, 0, 0, 0, []),
  (54, .aload_n 0, 1, 0, 0, 0, []),
  (55, .getfield 87, 3, 12, 31, 31, []),
  (58, .iload_n 3, 1, 0, 0, 0, []),
  (59, .iload_n 1, 1, 0, 0, 0, []),
  (60, .iastore, 1, 0, 0, 0, []),
  (61, .aload_n 0, 1, 0, 0, 0, []),
  (62, .getfield 29, 3, 12, 8, 8, []),
  (65, .iload_n 3, 1, 0, 0, 0, []),
  (66, .iaload, 1, 0, 0, 0, []),
  (67, .iconst 2, 1, 0, 0, 0, []),
  (68, .if_icmp .ge 9, 3, 51, 0, 0, []),
  (71, .iinc 1 1, 3, 0, 0, 0, []),
  (74, .goto 140, 3, 147, 0, 0, []),
  (77, .aload_n 0, 1, 0, 0, 0, []),
  (78, .getfield 29, 3, 12, 8, 8, []),
  (81, .iload_n 3, 1, 0, 0, 0, []),
  (82, .iaload, 1, 0, 0, 0, []),
  (83, .iconst 4, 1, 0, 0, 0, []),
  (84, .if_icmp .ne 23, 3, 73, 0, 0, []),
  (87, .iload_n 1, 1, 0, 0, 0, []),
  (88, .iconst 5, 1, 0, 0, 0, []),
  (89, .iadd, 1, 0, 0, 0, []),
  (90, .iconst 4, 1, 0, 0, 0, []),
  (91, .idiv, 1, 0, 0, 0, []),
  (92, .iconst 4, 1, 0, 0, 0, []),
  (93, .imul, 1, 0, 0, 0, []),
  (94, .iconst 4, 1, 0, 0, 0, []),
  (95, .aload_n 0, 1, 0, 0, 0, []),
  (96, .getfield 32, 3, 12, 9, 9, []),
  (99, .iload_n 3, 1, 0, 0, 0, []),
  (100, .iaload, 1, 0, 0, 0, []),
  (101, .imul, 1, 0, 0, 0, []),
  (102, .iadd, 1, 0, 0, 0, []),
  (103, .istore_n 1, 1, 0, 0, 0, []),
  (104, .goto 110, 3, 147, 0, 0, []),
  (107, .iload_n 1, 1, 0, 0, 0, []),
  (108, .aload_n 0, 1, 0, 0, 0, []),
  (109, .getfield 29, 3, 12, 8, 8, []),
  (112, .iload_n 3, 1, 0, 0, 0, []),
  (113, .iaload, 1, 0, 0, 0, []),
  (114, .iconst 5, 1, 0, 0, 0, []),
  (115, .if_icmp .ne 7, 3, 82, 0, 0, []),
  (118, .iconst 5, 1, 0, 0, 0, []),
  (119, .goto 4, 3, 83, 0, 0, []),
  (122, .iconst 0, 1, 0, 0, 0, []),
  (123, .iadd, 1, 0, 0, 0, []),
  (124, .istore_n 1, 1, 0, 0, 0, []),
  (125, .aload_n 0, 1, 0, 0, 0, []),
  (126, .getfield 93, 3, 12, 33, 33, []),
  (129, .iconst 2, 1, 0, 0, 0, []),
  (130, .iload_n 3, 1, 0, 0, 0, []),
  (131, .imul, 1, 0, 0, 0, []),
  (132, .iaload, 1, 0, 0, 0, []),
  (133, .bipush (-9), 2, 0, 0, 0, []),
  (135, .if_icmp .eq 32, 3, 113, 0, 0, []),
  (138, .iload_n 1, 1, 0, 0, 0, []),
  (139, .aload_n 0, 1, 0, 0, 0, []),
  (140, .getfield 96, 3, 12, 34, 34, []),
  (143, .iconst 2, 1, 0, 0, 0, []),
  (144, .iload_n 3, 1, 0, 0, 0, []),
  (145, .imul, 1, 0, 0, 0, []),
  (146, .baload, 1, 0, 0, 0, []),
  (147, .ifCond .eq 8, 3, 103, 0, 0, []),
  (150, .bipush 6, 2, 0, 0, 0, []),
  (152, .goto 4, 3, 104, 0, 0, []),
  (155, .iconst 2, 1, 0, 0, 0, []),
  (156, .iadd, 1, 0, 0, 0, []),
  (157, .istore_n 1, 1, 0, 0, 0, []),
  (158, .aload_n 0, 1, 0, 0, 0, []),
  (159, .getfield 102, 3, 12, 36, 36, []),
  (162, .iconst 2, 1, 0, 0, 0, []),
  (163, .iload_n 3, 1, 0, 0, 0, []),
  (164, .imul, 1, 0, 0, 0, []),
  (165, .iload_n 1, 1, 0, 0, 0, []),
  (166, .iastore, 1, 0, 0, 0, []),
  (167, .aload_n 0, 1, 0, 0, 0, []),
  (168, .getfield 93, 3, 12, 33, 33, []),
  (171, .iconst 2, 1, 0, 0, 0, []),
  (172, .iload_n 3, 1, 0, 0, 0, []),
  (173, .imul, 1, 0, 0, 0, []),
  (174, .iconst 1, 1, 0, 0, 0, []),
  (175, .iadd, 1, 0, 0, 0, []),
  (176, .iaload, 1, 0, 0, 0, []),
  (177, .bipush (-9), 2, 0, 0, 0, []),
  (179, .if_icmp .eq 35, 3, 147, 0, 0, []),
  (182, .iload_n 1, 1, 0, 0, 0, []),
  (183, .aload_n 0, 1, 0, 0, 0, []),
  (184, .getfield 96, 3, 12, 34, 34, []),
  (187, .iconst 2, 1, 0, 0, 0, []),
  (188, .iload_n 3, 1, 0, 0, 0, []),
  (189, .imul, 1, 0, 0, 0, []),
  (190, .iconst 1, 1, 0, 0, 0, []),
  (191, .iadd, 1, 0, 0, 0, []),
  (192, .baload, 1, 0, 0, 0, []),
  (193, .ifCond .eq 7, 3, 135, 0, 0, []),
  (196, .iconst 5, 1, 0, 0, 0, []),
  (197, .goto 4, 3, 136, 0, 0, []),
  (200, .iconst 2, 1, 0, 0, 0, []),
  (201, .iadd, 1, 0, 0, 0, []),
  (202, .istore_n 1, 1, 0, 0, 0, []),
  (203, .aload_n 0, 1, 0, 0, 0, []),
  (204, .getfield 102, 3, 12, 36, 36, []),
  (207, .iconst 2, 1, 0, 0, 0, []),
  (208, .iload_n 3, 1, 0, 0, 0, []),
  (209, .imul, 1, 0, 0, 0, []),
  (210, .iconst 1, 1, 0, 0, 0, []),
  (211, .iadd, 1, 0, 0, 0, []),
  (212, .iload_n 1, 1, 0, 0, 0, []),
  (213, .iastore, 1, 0, 0, 0, []),
  (214, .aload_n 0, 1, 0, 0, 0, []),
  (215, .getfield 90, 3, 12, 32, 32, []),
  (218, .iload_n 3, 1, 0, 0, 0, []),
  (219, .iload_n 1, 1, 0, 0, 0, []),
  (220, .iastore, 1, 0, 0, 0, []),
  (221, .iinc 2 1, 3, 0, 0, 0, []),
  (224, .goto (-220), 3, 4, 0, 0, []),
  (227, .aload_n 0, 1, 0, 0, 0, []),
  (228, .iload_n 1, 1, 0, 0, 0, []),
  (229, .putfield 253, 3, 12, 38, 38, []),
  (232, .return_, 1, 0, 0, 0, [])]
/-- 181 FallRowsModel.growsSome()Z -/
def k181 : List fr_E := [(0, .iconst 0, 1, 0, 0, 0, []),
  (1, .istore_n 1, 1, 0, 0, 0, []),
  (2, .iconst 0, 1, 0, 0, 0, []),
  (3, .istore_n 2, 1, 0, 0, 0, []),
  (4, .iload_n 2, 1, 0, 0, 0, []),
  (5, .iconst 2, 1, 0, 0, 0, []),
  (6, .aload_n 0, 1, 0, 0, 0, []),
  (7, .getfield 154, 3, 12, 4, 4, []),
  (10, .imul, 1, 0, 0, 0, []),
  (11, .if_icmp .ge 109, 3, 69, 0, 0, []),
  (14, .aload_n 0, 1, 0, 0, 0, []),
  (15, .getfield 93, 3, 12, 33, 33, []),
  (18, .iload_n 2, 1, 0, 0, 0, []),
  (19, .iaload, 1, 0, 0, 0, []),
  (20, .bipush (-9), 2, 0, 0, 0, []),
  (22, .if_icmp .eq 16, 3, 23, 0, 0, []),
  (25, .aload_n 0, 1, 0, 0, 0, []),
  (26, .getfield 96, 3, 12, 34, 34, []),
  (29, .iload_n 2, 1, 0, 0, 0, []),
  (30, .baload, 1, 0, 0, 0, []),
  (31, .ifCond .ne 7, 3, 23, 0, 0, []),
  (34, .iconst 1, 1, 0, 0, 0, []),
  (35, .goto 4, 3, 24, 0, 0, []),
  (38, .iconst 0, 1, 0, 0, 0, []),
  (39, .istore_n 3, 1, 0, 0, 0, []),
  (40, .iload_n 3, 1, 0, 0, 0, []),
  (41, .ifCond .eq 24, 3, 40, 0, 0, []),
  (44, .aload_n 0, 1, 0, 0, 0, []),
  (45, .getfield 84, 3, 12, 30, 30, []),
  (48, .aload_n 0, 1, 0, 0, 0, []),
  (49, .getfield 93, 3, 12, 33, 33, []),
  (52, .iload_n 2, 1, 0, 0, 0, []),
  (53, .iaload, 1, 0, 0, 0, []),
  (54, .iaload, 1, 0, 0, 0, []),
  (55, .aload_n 0, 1, 0, 0, 0, []),
  (56, .getfield 102, 3, 12, 36, 36, []),
  (59, .iload_n 2, 1, 0, 0, 0, []),
  (60, .iaload, 1, 0, 0, 0, []),
  (61, .isub, 1, 0, 0, 0, []),
  (62, .goto 4, 3, 41, 0, 0, []),
  (65, .iconst 0, 1, 0, 0, 0, []),
  (66, .istore 4, 2, 0, 0, 0, []),
  (68, .aload_n 0, 1, 0, 0, 0, []),
  (69, .getfield 105, 3, 12, 40, 40, []),
  (72, .iload_n 2, 1, 0, 0, 0, []),
  (73, .iload_n 3, 1, 0, 0, 0, []),
  (74, .ifCond .eq 19, 3, 54, 0, 0, []),
  (77, .iload 4, 2, 0, 0, 0, []),
  (79, .bipush (-128), 2, 0, 0, 0, []),
  (81, .bipush 127, 2, 0, 0, 0, []),
  (83, .invokestatic 150, 3, 140, 12, 0, [3, 0, 0, 1, 3]),
  (86, .ifCond .ne 7, 3, 54, 0, 0, []),
  (89, .iconst 1, 1, 0, 0, 0, []),
  (90, .goto 4, 3, 55, 0, 0, []),
  (93, .iconst 0, 1, 0, 0, 0, []),
  (94, .bastore, 1, 0, 0, 0, []),
  (95, .iload_n 1, 1, 0, 0, 0, []),
  (96, .ifCond .ne 12, 3, 63, 0, 0, []),
  (99, .aload_n 0, 1, 0, 0, 0, []),
  (100, .getfield 105, 3, 12, 40, 40, []),
  (103, .iload_n 2, 1, 0, 0, 0, []),
  (104, .baload, 1, 0, 0, 0, []),
  (105, .ifCond .eq 7, 3, 65, 0, 0, []),
  (108, .iconst 1, 1, 0, 0, 0, []),
  (109, .goto 4, 3, 66, 0, 0, []),
  (112, .iconst 0, 1, 0, 0, 0, []),
  (113, .istore_n 1, 1, 0, 0, 0, []),
  (114, .iinc 2 1, 3, 0, 0, 0, []),
  (117, .goto (-113), 3, 4, 0, 0, []),
  (120, .aload_n 0, 1, 0, 0, 0, []),
  (121, .dup, 1, 0, 0, 0, []),
  (122, .getfield 256, 3, 12, 37, 37, []),
  (125, .iload_n 1, 1, 0, 0, 0, []),
  (126, .ifCond .eq 7, 3, 76, 0, 0, []),
  (129, .iconst 1, 1, 0, 0, 0, []),
  (130, .goto 4, 3, 77, 0, 0, []),
  (133, .iconst 0, 1, 0, 0, 0, []),
  (134, .iadd, 1, 0, 0, 0, []),
  (135, .putfield 256, 3, 12, 37, 37, []),
  (138, .iconst 0, 1, 0, 0, 0, []),
  (139, .istore_n 2, 1, 0, 0, 0, []),
  (140, .iload_n 2, 1, 0, 0, 0, []),
  (141, .iconst 2, 1, 0, 0, 0, []),
  (142, .aload_n 0, 1, 0, 0, 0, []),
  (143, .getfield 154, 3, 12, 4, 4, []),
  (146, .imul, 1, 0, 0, 0, []),
  (147, .if_icmp .ge 35, 3, 105, 0, 0, []),
  (150, .aload_n 0, 1, 0, 0, 0, []),
  (151, .getfield 105, 3, 12, 40, 40, []),
  (154, .iload_n 2, 1, 0, 0, 0, []),
  (155, .baload, 1, 0, 0, 0, []),
  (156, .ifCond .eq 20, 3, 103, 0, 0, []),
  (159, .aload_n 0, 1, 0, 0, 0, []),
  (160, .getfield 96, 3, 12, 34, 34, []),
  (163, .iload_n 2, 1, 0, 0, 0, []),
  (164, .iconst 1, 1, 0, 0, 0, []),
  (165, .bastore, 1, 0, 0, 0, []),
  (166, .aload_n 0, 1, 0, 0, 0, []),
  (167, .getfield 99, 3, 12, 35, 35, []),
  (170, .iload_n 2, 1, 0, 0, 0, []),
  (171, .aload_n 0, 1, 0, 0, 0, []),
  (172, .getfield 256, 3, 12, 37, 37, []),
  (175, .iastore, 1, 0, 0, 0, []),
  (176, .iinc 2 1, 3, 0, 0, 0, []),
  (179, .goto (-39), 3, 81, 0, 0, []),
  (182, .iload_n 1, 1, 0, 0, 0, []),
  (183, .ireturn, 1, 1, 0, 0, [])]
/-- 182 FallRowsModel.lays()V -/
def k182 : List fr_E := [(0, .aload_n 0, 1, 0, 0, 0, []),
  (1, .invokevirtual 259, 3, 177, 12, 0, [1, 0, 0, 0, 5]),
  (4, .aload_n 0, 1, 0, 0, 0, []),
  (5, .invokevirtual 262, 3, 179, 12, 0, [1, 0, 0, 0, 5]),
  (8, .aload_n 0, 1, 0, 0, 0, []),
  (9, .iconst 0, 1, 0, 0, 0, []),
  (10, .putfield 256, 3, 12, 37, 37, []),
  (13, .iconst 1, 1, 0, 0, 0, []),
  (14, .istore_n 1, 1, 0, 0, 0, []),
  (15, .iload_n 1, 1, 0, 0, 0, []),
  (16, .ifCond .eq 15, 3, 17, 0, 0, []),
  (19, .aload_n 0, 1, 0, 0, 0, []),
  (20, .invokevirtual 265, 3, 180, 12, 0, [1, 0, 0, 0, 4]),
  (23, .aload_n 0, 1, 0, 0, 0, []),
  (24, .invokevirtual 268, 3, 181, 12, 0, [1, 0, 0, 1, 5]),
  (27, .istore_n 1, 1, 0, 0, 0, []),
  (28, .goto (-13), 3, 9, 0, 0, []),
  (31, .aload_n 0, 1, 0, 0, 0, []),
  (32, .aload_n 0, 1, 0, 0, 0, []),
  (33, .getfield 253, 3, 12, 38, 38, []),
  (36, .putfield 272, 3, 12, 39, 39, []),
  (39, .iconst 0, 1, 0, 0, 0, []),
  (40, .istore_n 2, 1, 0, 0, 0, []),
  (41, .iload_n 2, 1, 0, 0, 0, []),
  (42, .aload_n 0, 1, 0, 0, 0, []),
  (43, .getfield 247, 3, 12, 28, 28, []),
  (46, .if_icmp .ge 40, 3, 46, 0, 0, []),
  (49, .aload_n 0, 1, 0, 0, 0, []),
  (50, .dup, 1, 0, 0, 0, []),
  (51, .getfield 272, 3, 12, 39, 39, []),
  (54, .aload_n 0, 1, 0, 0, 0, []),
  (55, .getfield 29, 3, 12, 8, 8, []),
  (58, .aload_n 0, 1, 0, 0, 0, []),
  (59, .getfield 78, 3, 12, 27, 27, []),
  (62, .iload_n 2, 1, 0, 0, 0, []),
  (63, .iaload, 1, 0, 0, 0, []),
  (64, .iaload, 1, 0, 0, 0, []),
  (65, .bipush 6, 2, 0, 0, 0, []),
  (67, .if_icmp .ne 8, 3, 41, 0, 0, []),
  (70, .bipush 8, 2, 0, 0, 0, []),
  (72, .goto 4, 3, 42, 0, 0, []),
  (75, .iconst 0, 1, 0, 0, 0, []),
  (76, .iadd, 1, 0, 0, 0, []),
  (77, .putfield 272, 3, 12, 39, 39, []),
  (80, .iinc 2 1, 3, 0, 0, 0, []),
  (83, .goto (-42), 3, 23, 0, 0, []),
  (86, .return_, 1, 0, 0, 0, [])]
/-- 183 FallRowsModel.row(I)I -/
def k183 : List fr_E := [(0, .aload_n 0, 1, 0, 0, 0, []),
  (1, .invokevirtual 259, 3, 177, 12, 0, [1, 0, 0, 0, 5]),
  (4, .iload_n 1, 1, 0, 0, 0, []),
  (5, .iconst 0, 1, 0, 0, 0, []),
  (6, .aload_n 0, 1, 0, 0, 0, []),
  (7, .getfield 247, 3, 12, 28, 28, []),
  (10, .iconst 1, 1, 0, 0, 0, []),
  (11, .isub, 1, 0, 0, 0, []),
  (12, .invokestatic 150, 3, 140, 12, 0, [3, 0, 0, 1, 3]),
  (15, .ifCond .eq 12, 3, 15, 0, 0, []),
  (18, .aload_n 0, 1, 0, 0, 0, []),
  (19, .getfield 78, 3, 12, 27, 27, []),
  (22, .iload_n 1, 1, 0, 0, 0, []),
  (23, .iaload, 1, 0, 0, 0, []),
  (24, .goto 5, 3, 16, 0, 0, []),
  (27, .bipush (-9), 2, 0, 0, 0, []),
  (29, .ireturn, 1, 0, 0, 0, [])]
/-- 184 FallRowsModel.laid(II)I -/
def k184 : List fr_E := [(0, .aload_n 0, 1, 0, 0, 0, []),
  (1, .iload_n 1, 1, 0, 0, 0, []),
  (2, .invokevirtual 168, 3, 142, 12, 0, [2, 0, 0, 1, 2]),
  (5, .ifCond .eq 12, 3, 9, 0, 0, []),
  (8, .iload_n 2, 1, 0, 0, 0, []),
  (9, .iconst 0, 1, 0, 0, 0, []),
  (10, .iconst 5, 1, 0, 0, 0, []),
  (11, .invokestatic 150, 3, 140, 12, 0, [3, 0, 0, 1, 3]),
  (14, .ifCond .ne 5, 3, 11, 0, 0, []),
  (17, .iconst (-1), 1, 0, 0, 0, []),
  (18, .ireturn, 1, 0, 0, 0, []),
  (19, .aload_n 0, 1, 0, 0, 0, []),
  (20, .invokevirtual 275, 3, 182, 12, 0, [1, 0, 0, 0, 3]),
  (23, .iconst 0, 1, 0, 0, 0, []),
  (24, .istore_n 3, 1, 0, 0, 0, []),
  (25, .iconst 0, 1, 0, 0, 0, []),
  (26, .istore 4, 2, 0, 0, 0, []),
  (28, .iconst 0, 1, 0, 0, 0, []),
  (29, .istore 5, 2, 0, 0, 0, []),
  (31, .iconst 2, 1, 0, 0, 0, []),
  (32, .iload_n 1, 1, 0, 0, 0, []),
  (33, .imul, 1, 0, 0, 0, []),
  (34, .istore 6, 2, 0, 0, 0, []),
  (36, .iload 6, 2, 0, 0, 0, []),
  (38, .iconst 2, 1, 0, 0, 0, []),
  (39, .iload_n 1, 1, 0, 0, 0, []),
  (40, .imul, 1, 0, 0, 0, []),
  (41, .iconst 2, 1, 0, 0, 0, []),
  (42, .iadd, 1, 0, 0, 0, []),
  (43, .if_icmp .ge 75, 3, 68, 0, 0, []),
  (46, .iload_n 3, 1, 0, 0, 0, []),
  (47, .aload_n 0, 1, 0, 0, 0, []),
  (48, .getfield 93, 3, 12, 33, 33, []),
  (51, .iload 6, 2, 0, 0, 0, []),
  (53, .iaload, 1, 0, 0, 0, []),
  (54, .bipush (-9), 2, 0, 0, 0, []),
  (56, .if_icmp .eq 7, 3, 39, 0, 0, []),
  (59, .iconst 1, 1, 0, 0, 0, []),
  (60, .goto 4, 3, 40, 0, 0, []),
  (63, .iconst 0, 1, 0, 0, 0, []),
  (64, .iadd, 1, 0, 0, 0, []),
  (65, .istore_n 3, 1, 0, 0, 0, []),
  (66, .iload 4, 2, 0, 0, 0, []),
  (68, .aload_n 0, 1, 0, 0, 0, []),
  (69, .getfield 96, 3, 12, 34, 34, []),
  (72, .iload 6, 2, 0, 0, 0, []),
  (74, .baload, 1, 0, 0, 0, []),
  (75, .ifCond .eq 7, 3, 50, 0, 0, []),
  (78, .iconst 1, 1, 0, 0, 0, []),
  (79, .goto 4, 3, 51, 0, 0, []),
  (82, .iconst 0, 1, 0, 0, 0, []),
  (83, .iadd, 1, 0, 0, 0, []),
  (84, .istore 4, 2, 0, 0, 0, []),
  (86, .aload_n 0, 1, 0, 0, 0, []),
  (87, .getfield 99, 3, 12, 35, 35, []),
  (90, .iload 6, 2, 0, 0, 0, []),
  (92, .iaload, 1, 0, 0, 0, []),
  (93, .iload 5, 2, 0, 0, 0, []),
  (95, .if_icmp .le 13, 3, 64, 0, 0, []),
  (98, .aload_n 0, 1, 0, 0, 0, []),
  (99, .getfield 99, 3, 12, 35, 35, []),
  (102, .iload 6, 2, 0, 0, 0, []),
  (104, .iaload, 1, 0, 0, 0, []),
  (105, .goto 5, 3, 65, 0, 0, []),
  (108, .iload 5, 2, 0, 0, 0, []),
  (110, .istore 5, 2, 0, 0, 0, []),
  (112, .iinc 6 1, 3, 0, 0, 0, []),
  (115, .goto (-79), 3, 23, 0, 0, []),
  (118, .iload_n 2, 1, 0, 0, 0, []),
  (119, .tableswitch 66 0 4 #[33, 40, 47, 61, 64], 33, 94, 0, 0, [70, 75, 80, 90, 92]),
  (152, .aload_n 0, 1, 0, 0, 0, []),
  (153, .getfield 84, 3, 12, 30, 30, []),
  (156, .iload_n 1, 1, 0, 0, 0, []),
  (157, .iaload, 1, 0, 0, 0, []),
  (158, .ireturn, 1, 0, 0, 0, []),
  (159, .aload_n 0, 1, 0, 0, 0, []),
  (160, .getfield 90, 3, 12, 32, 32, []),
  (163, .iload_n 1, 1, 0, 0, 0, []),
  (164, .iaload, 1, 0, 0, 0, []),
  (165, .ireturn, 1, 0, 0, 0, []),
  (166, .aload_n 0, 1, 0, 0, 0, []),
  (167, .getfield 90, 3, 12, 32, 32, []),
  (170, .iload_n 1, 1, 0, 0, 0, []),
  (171, .iaload, 1, 0, 0, 0, []),
  (172, .aload_n 0, 1, 0, 0, 0, []),
  (173, .getfield 87, 3, 12, 31, 31, []),
  (176, .iload_n 1, 1, 0, 0, 0, []),
  (177, .iaload, 1, 0, 0, 0, []),
  (178, .isub, 1, 0, 0, 0, []),
  (179, .ireturn, 1, 0, 0, 0, []),
  (180, .iload 4, 2, 0, 0, 0, []),
  (182, .ireturn, 1, 0, 0, 0, []),
  (183, .iload_n 3, 1, 0, 0, 0, []),
  (184, .ireturn, 1, 0, 0, 0, []),
  (185, .iload 5, 2, 0, 0, 0, []),
  (187, .ireturn, 1, 0, 0, 0, [])]
/-- 185 FallRowsModel.byteOf(II)I -/
def k185 : List fr_E := [(0, .iload_n 0, 1, 0, 0, 0, []),
  (1, .bipush 8, 2, 0, 0, 0, []),
  (3, .iload_n 1, 1, 0, 0, 0, []),
  (4, .imul, 1, 0, 0, 0, []),
  (5, .ishr, 1, 0, 0, 0, []),
  (6, .sipush 255, 3, 0, 0, 0, []),
  (9, .iand, 1, 0, 0, 0, []),
  (10, .ireturn, 1, 0, 0, 0, [])]
/-- 186 FallRowsModel.jumpByte(IIIII)I -/
def k186 : List fr_E := [(0, .aload_n 0, 1, 0, 0, 0, []),
  (1, .getfield 84, 3, 12, 30, 30, []),
  (4, .aload_n 0, 1, 0, 0, 0, []),
  (5, .getfield 93, 3, 12, 33, 33, []),
  (8, .iload_n 1, 1, 0, 0, 0, []),
  (9, .iaload, 1, 0, 0, 0, []),
  (10, .iaload, 1, 0, 0, 0, []),
  (11, .aload_n 0, 1, 0, 0, 0, []),
  (12, .getfield 102, 3, 12, 36, 36, []),
  (15, .iload_n 1, 1, 0, 0, 0, []),
  (16, .iaload, 1, 0, 0, 0, []),
  (17, .isub, 1, 0, 0, 0, []),
  (18, .istore 6, 2, 0, 0, 0, []),
  (20, .iload_n 2, 1, 0, 0, 0, []),
  (21, .ifCond .ne 7, 3, 17, 0, 0, []),
  (24, .iload_n 3, 1, 0, 0, 0, []),
  (25, .goto 23, 3, 27, 0, 0, []),
  (28, .iload_n 2, 1, 0, 0, 0, []),
  (29, .iload 5, 2, 0, 0, 0, []),
  (31, .if_icmp .ge 8, 3, 22, 0, 0, []),
  (34, .iload 4, 2, 0, 0, 0, []),
  (36, .goto 12, 3, 27, 0, 0, []),
  (39, .iload 6, 2, 0, 0, 0, []),
  (41, .iload_n 2, 1, 0, 0, 0, []),
  (42, .iload 5, 2, 0, 0, 0, []),
  (44, .isub, 1, 0, 0, 0, []),
  (45, .invokestatic 278, 3, 185, 12, 0, [2, 0, 0, 1, 2]),
  (48, .ireturn, 1, 0, 0, 0, [])]
/-- 187 FallRowsModel.endByte(II)I -/
def k187 : List fr_E := [(0, .aload_n 0, 1, 0, 0, 0, []),
  (1, .getfield 29, 3, 12, 8, 8, []),
  (4, .iload_n 1, 1, 0, 0, 0, []),
  (5, .iaload, 1, 0, 0, 0, []),
  (6, .istore_n 3, 1, 0, 0, 0, []),
  (7, .iload_n 3, 1, 0, 0, 0, []),
  (8, .iconst 2, 1, 0, 0, 0, []),
  (9, .if_icmp .ge 17, 3, 14, 0, 0, []),
  (12, .iload_n 3, 1, 0, 0, 0, []),
  (13, .ifCond .ne 9, 3, 12, 0, 0, []),
  (16, .sipush 195, 3, 0, 0, 0, []),
  (19, .goto 6, 3, 13, 0, 0, []),
  (22, .sipush 204, 3, 0, 0, 0, []),
  (25, .ireturn, 1, 0, 0, 0, []),
  (26, .iload_n 3, 1, 0, 0, 0, []),
  (27, .iconst 4, 1, 0, 0, 0, []),
  (28, .if_icmp .ne 87, 3, 70, 0, 0, []),
  (31, .aload_n 0, 1, 0, 0, 0, []),
  (32, .getfield 90, 3, 12, 32, 32, []),
  (35, .iload_n 1, 1, 0, 0, 0, []),
  (36, .iaload, 1, 0, 0, 0, []),
  (37, .iconst 4, 1, 0, 0, 0, []),
  (38, .aload_n 0, 1, 0, 0, 0, []),
  (39, .getfield 32, 3, 12, 9, 9, []),
  (42, .iload_n 1, 1, 0, 0, 0, []),
  (43, .iaload, 1, 0, 0, 0, []),
  (44, .imul, 1, 0, 0, 0, []),
  (45, .isub, 1, 0, 0, 0, []),
  (46, .aload_n 0, 1, 0, 0, 0, []),
  (47, .getfield 87, 3, 12, 31, 31, []),
  (50, .iload_n 1, 1, 0, 0, 0, []),
  (51, .iaload, 1, 0, 0, 0, []),
  (52, .isub, 1, 0, 0, 0, []),
  (53, .istore 4, 2, 0, 0, 0, []),
  (55, .iload_n 2, 1, 0, 0, 0, []),
  (56, .ifCond .ne 9, 3, 38, 0, 0, []),
  (59, .sipush 255, 3, 0, 0, 0, []),
  (62, .goto 52, 3, 69, 0, 0, []),
  (65, .iload_n 2, 1, 0, 0, 0, []),
  (66, .iconst 1, 1, 0, 0, 0, []),
  (67, .if_icmp .ne 8, 3, 43, 0, 0, []),
  (70, .bipush 36, 2, 0, 0, 0, []),
  (72, .goto 42, 3, 69, 0, 0, []),
  (75, .iload_n 2, 1, 0, 0, 0, []),
  (76, .iload 4, 2, 0, 0, 0, []),
  (78, .if_icmp .ge 7, 3, 48, 0, 0, []),
  (81, .iconst 0, 1, 0, 0, 0, []),
  (82, .goto 32, 3, 69, 0, 0, []),
  (85, .aload_n 0, 1, 0, 0, 0, []),
  (86, .getfield 84, 3, 12, 30, 30, []),
  (89, .aload_n 0, 1, 0, 0, 0, []),
  (90, .getfield 35, 3, 12, 10, 10, []),
  (93, .iconst 4, 1, 0, 0, 0, []),
  (94, .iload_n 1, 1, 0, 0, 0, []),
  (95, .imul, 1, 0, 0, 0, []),
  (96, .iload_n 2, 1, 0, 0, 0, []),
  (97, .iload 4, 2, 0, 0, 0, []),
  (99, .isub, 1, 0, 0, 0, []),
  (100, .iconst 4, 1, 0, 0, 0, []),
  (101, .idiv, 1, 0, 0, 0, []),
  (102, .iadd, 1, 0, 0, 0, []),
  (103, .iaload, 1, 0, 0, 0, []),
  (104, .iaload, 1, 0, 0, 0, []),
  (105, .iload_n 2, 1, 0, 0, 0, []),
  (106, .iload 4, 2, 0, 0, 0, []),
  (108, .isub, 1, 0, 0, 0, []),
  (109, .iconst 4, 1, 0, 0, 0, []),
  (110, .irem, 1, 0, 0, 0, []),
  (111, .invokestatic 278, 3, 185, 12, 0, [2, 0, 0, 1, 2]),
  (114, .ireturn, 1, 0, 0, 0, []),
  (115, .aload_n 0, 1, 0, 0, 0, []),
  (116, .getfield 87, 3, 12, 31, 31, []),
  (119, .iload_n 1, 1, 0, 0, 0, []),
  (120, .iaload, 1, 0, 0, 0, []),
  (121, .iload_n 2, 1, 0, 0, 0, []),
  (122, .iadd, 1, 0, 0, 0, []),
  (123, .istore 4, 2, 0, 0, 0, []),
  (125, .iload_n 3, 1, 0, 0, 0, []),
  (126, .iconst 5, 1, 0, 0, 0, []),
  (127, .if_icmp .ne 57, 3, 113, 0, 0, []),
  (130, .iload_n 2, 1, 0, 0, 0, []),
  (131, .iconst 5, 1, 0, 0, 0, []),
  (132, .if_icmp .ge 52, 3, 113, 0, 0, []),
  (135, .aload_n 0, 1, 0, 0, 0, []),
  (136, .getfield 84, 3, 12, 30, 30, []),
  (139, .aload_n 0, 1, 0, 0, 0, []),
  (140, .getfield 13, 3, 12, 2, 2, []),
  (143, .bipush 9, 2, 0, 0, 0, []),
  (145, .aload_n 0, 1, 0, 0, 0, []),
  (146, .getfield 41, 3, 12, 12, 12, []),
  (149, .iload_n 1, 1, 0, 0, 0, []),
  (150, .iaload, 1, 0, 0, 0, []),
  (151, .imul, 1, 0, 0, 0, []),
  (152, .iaload, 1, 0, 0, 0, []),
  (153, .iaload, 1, 0, 0, 0, []),
  (154, .aload_n 0, 1, 0, 0, 0, []),
  (155, .getfield 87, 3, 12, 31, 31, []),
  (158, .iload_n 1, 1, 0, 0, 0, []),
  (159, .iaload, 1, 0, 0, 0, []),
  (160, .isub, 1, 0, 0, 0, []),
  (161, .iconst 5, 1, 0, 0, 0, []),
  (162, .isub, 1, 0, 0, 0, []),
  (163, .istore 5, 2, 0, 0, 0, []),
  (165, .iload_n 2, 1, 0, 0, 0, []),
  (166, .ifCond .ne 9, 3, 107, 0, 0, []),
  (169, .sipush 232, 3, 0, 0, 0, []),
  (172, .goto 11, 3, 112, 0, 0, []),
  (175, .iload 5, 2, 0, 0, 0, []),
  (177, .iload_n 2, 1, 0, 0, 0, []),
  (178, .iconst 1, 1, 0, 0, 0, []),
  (179, .isub, 1, 0, 0, 0, []),
  (180, .invokestatic 278, 3, 185, 12, 0, [2, 0, 0, 1, 2]),
  (183, .ireturn, 1, 0, 0, 0, []),
  (184, .iconst 2, 1, 0, 0, 0, []),
  (185, .iload_n 1, 1, 0, 0, 0, []),
  (186, .imul, 1, 0, 0, 0, []),
  (187, .istore 5, 2, 0, 0, 0, []),
  (189, .aload_n 0, 1, 0, 0, 0, []),
  (190, .getfield 93, 3, 12, 33, 33, []),
  (193, .iload 5, 2, 0, 0, 0, []),
  (195, .iaload, 1, 0, 0, 0, []),
  (196, .bipush (-9), 2, 0, 0, 0, []),
  (198, .if_icmp .eq 74, 3, 162, 0, 0, []),
  (201, .iload 4, 2, 0, 0, 0, []),
  (203, .aload_n 0, 1, 0, 0, 0, []),
  (204, .getfield 102, 3, 12, 36, 36, []),
  (207, .iload 5, 2, 0, 0, 0, []),
  (209, .iaload, 1, 0, 0, 0, []),
  (210, .if_icmp .ge 62, 3, 162, 0, 0, []),
  (213, .aload_n 0, 1, 0, 0, 0, []),
  (214, .iload_n 1, 1, 0, 0, 0, []),
  (215, .invokevirtual 250, 3, 178, 12, 0, [2, 0, 0, 1, 2]),
  (218, .ifCond .eq 7, 3, 135, 0, 0, []),
  (221, .iconst 1, 1, 0, 0, 0, []),
  (222, .goto 4, 3, 136, 0, 0, []),
  (225, .iconst 0, 1, 0, 0, 0, []),
  (226, .istore 6, 2, 0, 0, 0, []),
  (228, .aload_n 0, 1, 0, 0, 0, []),
  (229, .getfield 96, 3, 12, 34, 34, []),
  (232, .iload 5, 2, 0, 0, 0, []),
  (234, .baload, 1, 0, 0, 0, []),
  (235, .ifCond .eq 22, 3, 152, 0, 0, []),
  (238, .aload_n 0, 1, 0, 0, 0, []),
  (239, .iload 5, 2, 0, 0, 0, []),
  (241, .iload_n 2, 1, 0, 0, 0, []),
  (242, .bipush 15, 2, 0, 0, 0, []),
  (244, .sipush 128, 3, 0, 0, 0, []),
  (247, .iload 6, 2, 0, 0, 0, []),
  (249, .iadd, 1, 0, 0, 0, []),
  (250, .iconst 2, 1, 0, 0, 0, []),
  (251, .invokevirtual 281, 3, 186, 12, 0, [6, 0, 0, 1, 7]),
  (254, .goto 17, 3, 161, 0, 0, []),
  (257, .aload_n 0, 1, 0, 0, 0, []),
  (258, .iload 5, 2, 0, 0, 0, []),
  (260, .iload_n 2, 1, 0, 0, 0, []),
  (261, .bipush 112, 2, 0, 0, 0, []),
  (263, .iload 6, 2, 0, 0, 0, []),
  (265, .iadd, 1, 0, 0, 0, []),
  (266, .iconst 0, 1, 0, 0, 0, []),
  (267, .iconst 1, 1, 0, 0, 0, []),
  (268, .invokevirtual 281, 3, 186, 12, 0, [6, 0, 0, 1, 7]),
  (271, .ireturn, 1, 0, 0, 0, []),
  (272, .aload_n 0, 1, 0, 0, 0, []),
  (273, .getfield 102, 3, 12, 36, 36, []),
  (276, .iload 5, 2, 0, 0, 0, []),
  (278, .iconst 1, 1, 0, 0, 0, []),
  (279, .iadd, 1, 0, 0, 0, []),
  (280, .iaload, 1, 0, 0, 0, []),
  (281, .aload_n 0, 1, 0, 0, 0, []),
  (282, .getfield 96, 3, 12, 34, 34, []),
  (285, .iload 5, 2, 0, 0, 0, []),
  (287, .iconst 1, 1, 0, 0, 0, []),
  (288, .iadd, 1, 0, 0, 0, []),
  (289, .baload, 1, 0, 0, 0, []),
  (290, .ifCond .eq 7, 3, 177, 0, 0, []),
  (293, .iconst 5, 1, 0, 0, 0, []),
  (294, .goto 4, 3, 178, 0, 0, []),
  (297, .iconst 2, 1, 0, 0, 0, []),
  (298, .isub, 1, 0, 0, 0, []),
  (299, .istore 6, 2, 0, 0, 0, []),
  (301, .aload_n 0, 1, 0, 0, 0, []),
  (302, .iload 5, 2, 0, 0, 0, []),
  (304, .iconst 1, 1, 0, 0, 0, []),
  (305, .iadd, 1, 0, 0, 0, []),
  (306, .iload 4, 2, 0, 0, 0, []),
  (308, .iload 6, 2, 0, 0, 0, []),
  (310, .isub, 1, 0, 0, 0, []),
  (311, .aload_n 0, 1, 0, 0, 0, []),
  (312, .getfield 96, 3, 12, 34, 34, []),
  (315, .iload 5, 2, 0, 0, 0, []),
  (317, .iconst 1, 1, 0, 0, 0, []),
  (318, .iadd, 1, 0, 0, 0, []),
  (319, .baload, 1, 0, 0, 0, []),
  (320, .ifCond .eq 9, 3, 196, 0, 0, []),
  (323, .sipush 233, 3, 0, 0, 0, []),
  (326, .goto 6, 3, 197, 0, 0, []),
  (329, .sipush 235, 3, 0, 0, 0, []),
  (332, .iconst 0, 1, 0, 0, 0, []),
  (333, .iconst 1, 1, 0, 0, 0, []),
  (334, .invokevirtual 281, 3, 186, 12, 0, [6, 0, 0, 1, 7]),
  (337, .ireturn, 1, 0, 0, 0, [])]
/-- 188 FallRowsModel.image(I)I -/
def k188 : List fr_E := [(0, .aload_n 0, 1, 0, 0, 0, []),
  (1, .invokevirtual 275, 3, 182, 12, 0, [1, 0, 0, 0, 3]),
  (4, .iload_n 1, 1, 0, 0, 0, []),
  (5, .iconst 0, 1, 0, 0, 0, []),
  (6, .aload_n 0, 1, 0, 0, 0, []),
  (7, .getfield 272, 3, 12, 39, 39, []),
  (10, .iconst 1, 1, 0, 0, 0, []),
  (11, .isub, 1, 0, 0, 0, []),
  (12, .invokestatic 150, 3, 140, 12, 0, [3, 0, 0, 1, 3]),
  (15, .ifCond .ne 6, 3, 12, 0, 0, []),
  (18, .bipush (-9), 2, 0, 0, 0, []),
  (20, .ireturn, 1, 0, 0, 0, []),
  (21, .iload_n 1, 1, 0, 0, 0, []),
  (22, .aload_n 0, 1, 0, 0, 0, []),
  (23, .getfield 253, 3, 12, 38, 38, []),
  (26, .if_icmp .lt 107, 3, 76, 0, 0, []),
  (29, .iload_n 1, 1, 0, 0, 0, []),
  (30, .aload_n 0, 1, 0, 0, 0, []),
  (31, .getfield 253, 3, 12, 38, 38, []),
  (34, .isub, 1, 0, 0, 0, []),
  (35, .bipush 8, 2, 0, 0, 0, []),
  (37, .idiv, 1, 0, 0, 0, []),
  (38, .istore_n 2, 1, 0, 0, 0, []),
  (39, .iconst 0, 1, 0, 0, 0, []),
  (40, .istore_n 3, 1, 0, 0, 0, []),
  (41, .iload_n 3, 1, 0, 0, 0, []),
  (42, .aload_n 0, 1, 0, 0, 0, []),
  (43, .getfield 247, 3, 12, 28, 28, []),
  (46, .if_icmp .ge 87, 3, 76, 0, 0, []),
  (49, .aload_n 0, 1, 0, 0, 0, []),
  (50, .getfield 78, 3, 12, 27, 27, []),
  (53, .iload_n 3, 1, 0, 0, 0, []),
  (54, .iaload, 1, 0, 0, 0, []),
  (55, .istore 4, 2, 0, 0, 0, []),
  (57, .aload_n 0, 1, 0, 0, 0, []),
  (58, .getfield 29, 3, 12, 8, 8, []),
  (61, .iload 4, 2, 0, 0, 0, []),
  (63, .iaload, 1, 0, 0, 0, []),
  (64, .bipush 6, 2, 0, 0, 0, []),
  (66, .if_icmp .ne 61, 3, 74, 0, 0, []),
  (69, .iload_n 2, 1, 0, 0, 0, []),
  (70, .ifCond .ne 54, 3, 73, 0, 0, []),
  (73, .iload_n 1, 1, 0, 0, 0, []),
  (74, .aload_n 0, 1, 0, 0, 0, []),
  (75, .getfield 253, 3, 12, 38, 38, []),
  (78, .isub, 1, 0, 0, 0, []),
  (79, .bipush 8, 2, 0, 0, 0, []),
  (81, .irem, 1, 0, 0, 0, []),
  (82, .istore 5, 2, 0, 0, 0, []),
  (84, .iload 5, 2, 0, 0, 0, []),
  (86, .iconst 4, 1, 0, 0, 0, []),
  (87, .if_icmp .ge 13, 3, 57, 0, 0, []),
  (90, .aload_n 0, 1, 0, 0, 0, []),
  (91, .getfield 84, 3, 12, 30, 30, []),
  (94, .iload 4, 2, 0, 0, 0, []),
  (96, .iaload, 1, 0, 0, 0, []),
  (97, .goto 19, 3, 68, 0, 0, []),
  (100, .aload_n 0, 1, 0, 0, 0, []),
  (101, .getfield 84, 3, 12, 30, 30, []),
  (104, .aload_n 0, 1, 0, 0, 0, []),
  (105, .getfield 35, 3, 12, 10, 10, []),
  (108, .iconst 4, 1, 0, 0, 0, []),
  (109, .iload 4, 2, 0, 0, 0, []),
  (111, .imul, 1, 0, 0, 0, []),
  (112, .iconst 1, 1, 0, 0, 0, []),
  (113, .iadd, 1, 0, 0, 0, []),
  (114, .iaload, 1, 0, 0, 0, []),
  (115, .iaload, 1, 0, 0, 0, []),
  (116, .iload 5, 2, 0, 0, 0, []),
  (118, .iconst 4, 1, 0, 0, 0, []),
  (119, .irem, 1, 0, 0, 0, []),
  (120, .invokestatic 278, 3, 185, 12, 0, [2, 0, 0, 1, 2]),
  (123, .ireturn, 1, 0, 0, 0, []),
  (124, .iinc 2 (-1), 3, 0, 0, 0, []),
  (127, .iinc 3 1, 3, 0, 0, 0, []),
  (130, .goto (-89), 3, 25, 0, 0, []),
  (133, .iconst 0, 1, 0, 0, 0, []),
  (134, .istore_n 2, 1, 0, 0, 0, []),
  (135, .iload_n 2, 1, 0, 0, 0, []),
  (136, .aload_n 0, 1, 0, 0, 0, []),
  (137, .getfield 247, 3, 12, 28, 28, []),
  (140, .if_icmp .ge 64, 3, 119, 0, 0, []),
  (143, .aload_n 0, 1, 0, 0, 0, []),
  (144, .getfield 78, 3, 12, 27, 27, []),
  (147, .iload_n 2, 1, 0, 0, 0, []),
  (148, .iaload, 1, 0, 0, 0, []),
  (149, .istore_n 3, 1, 0, 0, 0, []),
  (150, .iload_n 1, 1, 0, 0, 0, []),
  (151, .aload_n 0, 1, 0, 0, 0, []),
  (152, .getfield 84, 3, 12, 30, 30, []),
  (155, .iload_n 3, 1, 0, 0, 0, []),
  (156, .iaload, 1, 0, 0, 0, []),
  (157, .if_icmp .lt 41, 3, 117, 0, 0, []),
  (160, .iload_n 1, 1, 0, 0, 0, []),
  (161, .aload_n 0, 1, 0, 0, 0, []),
  (162, .getfield 90, 3, 12, 32, 32, []),
  (165, .iload_n 3, 1, 0, 0, 0, []),
  (166, .iaload, 1, 0, 0, 0, []),
  (167, .if_icmp .ge 31, 3, 117, 0, 0, []),
  (170, .iload_n 1, 1, 0, 0, 0, []),
  (171, .aload_n 0, 1, 0, 0, 0, []),
  (172, .getfield 87, 3, 12, 31, 31, []),
  (175, .iload_n 3, 1, 0, 0, 0, []),
  (176, .iaload, 1, 0, 0, 0, []),
  (177, .if_icmp .ge 7, 3, 107, 0, 0, []),
  (180, .iload_n 3, 1, 0, 0, 0, []),
  (181, .goto 16, 3, 116, 0, 0, []),
  (184, .aload_n 0, 1, 0, 0, 0, []),
  (185, .iload_n 3, 1, 0, 0, 0, []),
  (186, .iload_n 1, 1, 0, 0, 0, []),
  (187, .aload_n 0, 1, 0, 0, 0, []),
  (188, .getfield 87, 3, 12, 31, 31, []),
  (191, .iload_n 3, 1, 0, 0, 0, []),
  (192, .iaload, 1, 0, 0, 0, []),
  (193, .isub, 1, 0, 0, 0, []),
  (194, .invokevirtual 285, 3, 187, 12, 0, [3, 0, 0, 1, 7]),
  (197, .ireturn, 1, 0, 0, 0, []),
  (198, .iinc 2 1, 3, 0, 0, 0, []),
  (201, .goto (-66), 3, 78, 0, 0, []),
  (204, .sipush 144, 3, 0, 0, 0, []),
  (207, .ireturn, 1, 0, 0, 0, [])]
/-- 189 FallRowsModel.told(I)I -/
def k189 : List fr_E := [(0, .iload_n 1, 1, 0, 0, 0, []),
  (1, .iconst 0, 1, 0, 0, 0, []),
  (2, .iconst 5, 1, 0, 0, 0, []),
  (3, .invokestatic 150, 3, 140, 12, 0, [3, 0, 0, 1, 3]),
  (6, .ifCond .ne 5, 3, 7, 0, 0, []),
  (9, .iconst (-1), 1, 0, 0, 0, []),
  (10, .ireturn, 1, 0, 0, 0, []),
  (11, .aload_n 0, 1, 0, 0, 0, []),
  (12, .invokevirtual 275, 3, 182, 12, 0, [1, 0, 0, 0, 3]),
  (15, .aload_n 0, 1, 0, 0, 0, []),
  (16, .getfield 253, 3, 12, 38, 38, []),
  (19, .istore_n 2, 1, 0, 0, 0, []),
  (20, .iconst 0, 1, 0, 0, 0, []),
  (21, .istore_n 3, 1, 0, 0, 0, []),
  (22, .iconst 0, 1, 0, 0, 0, []),
  (23, .istore 4, 2, 0, 0, 0, []),
  (25, .iconst 0, 1, 0, 0, 0, []),
  (26, .istore 5, 2, 0, 0, 0, []),
  (28, .iload 5, 2, 0, 0, 0, []),
  (30, .aload_n 0, 1, 0, 0, 0, []),
  (31, .getfield 154, 3, 12, 4, 4, []),
  (34, .if_icmp .ge 100, 3, 77, 0, 0, []),
  (37, .iload_n 2, 1, 0, 0, 0, []),
  (38, .aload_n 0, 1, 0, 0, 0, []),
  (39, .getfield 90, 3, 12, 32, 32, []),
  (42, .iload 5, 2, 0, 0, 0, []),
  (44, .iaload, 1, 0, 0, 0, []),
  (45, .aload_n 0, 1, 0, 0, 0, []),
  (46, .getfield 84, 3, 12, 30, 30, []),
  (49, .iload 5, 2, 0, 0, 0, []),
  (51, .iaload, 1, 0, 0, 0, []),
  (52, .isub, 1, 0, 0, 0, []),
  (53, .isub, 1, 0, 0, 0, []),
  (54, .istore_n 2, 1, 0, 0, 0, []),
  (55, .iconst 2, 1, 0, 0, 0, []),
  (56, .iload 5, 2, 0, 0, 0, []),
  (58, .imul, 1, 0, 0, 0, []),
  (59, .istore 6, 2, 0, 0, 0, []),
  (61, .iload 6, 2, 0, 0, 0, []),
  (63, .iconst 2, 1, 0, 0, 0, []),
  (64, .iload 5, 2, 0, 0, 0, []),
  (66, .imul, 1, 0, 0, 0, []),
  (67, .iconst 2, 1, 0, 0, 0, []),
  (68, .iadd, 1, 0, 0, 0, []),
  (69, .if_icmp .ge 59, 3, 75, 0, 0, []),
  (72, .iload_n 3, 1, 0, 0, 0, []),
  (73, .aload_n 0, 1, 0, 0, 0, []),
  (74, .getfield 93, 3, 12, 33, 33, []),
  (77, .iload 6, 2, 0, 0, 0, []),
  (79, .iaload, 1, 0, 0, 0, []),
  (80, .bipush (-9), 2, 0, 0, 0, []),
  (82, .if_icmp .eq 17, 3, 59, 0, 0, []),
  (85, .aload_n 0, 1, 0, 0, 0, []),
  (86, .getfield 96, 3, 12, 34, 34, []),
  (89, .iload 6, 2, 0, 0, 0, []),
  (91, .baload, 1, 0, 0, 0, []),
  (92, .ifCond .ne 7, 3, 59, 0, 0, []),
  (95, .iconst 1, 1, 0, 0, 0, []),
  (96, .goto 4, 3, 60, 0, 0, []),
  (99, .iconst 0, 1, 0, 0, 0, []),
  (100, .iadd, 1, 0, 0, 0, []),
  (101, .istore_n 3, 1, 0, 0, 0, []),
  (102, .iload 4, 2, 0, 0, 0, []),
  (104, .aload_n 0, 1, 0, 0, 0, []),
  (105, .getfield 96, 3, 12, 34, 34, []),
  (108, .iload 6, 2, 0, 0, 0, []),
  (110, .baload, 1, 0, 0, 0, []),
  (111, .ifCond .eq 7, 3, 70, 0, 0, []),
  (114, .iconst 1, 1, 0, 0, 0, []),
  (115, .goto 4, 3, 71, 0, 0, []),
  (118, .iconst 0, 1, 0, 0, 0, []),
  (119, .iadd, 1, 0, 0, 0, []),
  (120, .istore 4, 2, 0, 0, 0, []),
  (122, .iinc 6 1, 3, 0, 0, 0, []),
  (125, .goto (-64), 3, 38, 0, 0, []),
  (128, .iinc 5 1, 3, 0, 0, 0, []),
  (131, .goto (-103), 3, 18, 0, 0, []),
  (134, .iload_n 1, 1, 0, 0, 0, []),
  (135, .tableswitch 50 0 4 #[33, 38, 40, 42, 45], 33, 91, 0, 0, [79, 82, 84, 86, 88]),
  (168, .aload_n 0, 1, 0, 0, 0, []),
  (169, .getfield 272, 3, 12, 39, 39, []),
  (172, .ireturn, 1, 0, 0, 0, []),
  (173, .iload_n 2, 1, 0, 0, 0, []),
  (174, .ireturn, 1, 0, 0, 0, []),
  (175, .iload_n 3, 1, 0, 0, 0, []),
  (176, .ireturn, 1, 0, 0, 0, []),
  (177, .iload 4, 2, 0, 0, 0, []),
  (179, .ireturn, 1, 0, 0, 0, []),
  (180, .aload_n 0, 1, 0, 0, 0, []),
  (181, .getfield 256, 3, 12, 37, 37, []),
  (184, .ireturn, 1, 0, 0, 0, []),
  (185, .aload_n 0, 1, 0, 0, 0, []),
  (186, .getfield 272, 3, 12, 39, 39, []),
  (189, .aload_n 0, 1, 0, 0, 0, []),
  (190, .getfield 253, 3, 12, 38, 38, []),
  (193, .isub, 1, 0, 0, 0, []),
  (194, .ireturn, 1, 0, 0, 0, [])]
/-- 190 FallRowsModel.say(JI)I -/
def k190 : List fr_E := [(0, .iload_n 3, 1, 0, 0, 0, []),
  (1, .iconst 1, 1, 0, 0, 0, []),
  (2, .bipush 8, 2, 0, 0, 0, []),
  (4, .invokestatic 150, 3, 140, 12, 0, [3, 0, 0, 1, 3]),
  (7, .ifCond .ne 5, 3, 7, 0, 0, []),
  (10, .iconst (-1), 1, 0, 0, 0, []),
  (11, .ireturn, 1, 0, 0, 0, []),
  (12, .aload_n 0, 1, 0, 0, 0, []),
  (13, .getfield 288, 3, 12, 17, 17, []),
  (16, .iload_n 3, 1, 0, 0, 0, []),
  (17, .iadd, 1, 0, 0, 0, []),
  (18, .sipush 200, 3, 0, 0, 0, []),
  (21, .if_icmp .le 6, 3, 15, 0, 0, []),
  (24, .bipush (-3), 2, 0, 0, 0, []),
  (26, .ireturn, 1, 0, 0, 0, []),
  (27, .iload_n 3, 1, 0, 0, 0, []),
  (28, .iconst 1, 1, 0, 0, 0, []),
  (29, .isub, 1, 0, 0, 0, []),
  (30, .istore 4, 2, 0, 0, 0, []),
  (32, .iload 4, 2, 0, 0, 0, []),
  (34, .ifCond .lt 40, 3, 42, 0, 0, []),
  (37, .aload_n 0, 1, 0, 0, 0, []),
  (38, .getfield 51, 3, 12, 16, 16, []),
  (41, .aload_n 0, 1, 0, 0, 0, []),
  (42, .getfield 288, 3, 12, 17, 17, []),
  (45, .lload_n 1, 1, 0, 0, 0, []),
  (46, .bipush 8, 2, 0, 0, 0, []),
  (48, .iload 4, 2, 0, 0, 0, []),
  (50, .imul, 1, 0, 0, 0, []),
  (51, .lshr, 1, 0, 0, 0, []),
  (52, .l2i, 1, 0, 0, 0, []),
  (53, .sipush 255, 3, 0, 0, 0, []),
  (56, .iand, 1, 0, 0, 0, []),
  (57, .iastore, 1, 0, 0, 0, []),
  (58, .aload_n 0, 1, 0, 0, 0, []),
  (59, .dup, 1, 0, 0, 0, []),
  (60, .getfield 288, 3, 12, 17, 17, []),
  (63, .iconst 1, 1, 0, 0, 0, []),
  (64, .iadd, 1, 0, 0, 0, []),
  (65, .putfield 288, 3, 12, 17, 17, []),
  (68, .iinc 4 (-1), 3, 0, 0, 0, []),
  (71, .goto (-39), 3, 19, 0, 0, []),
  (74, .aload_n 0, 1, 0, 0, 0, []),
  (75, .getfield 288, 3, 12, 17, 17, []),
  (78, .ireturn, 1, 0, 0, 0, [])]
/-- 191 FallRowsModel.tear()I -/
def k191 : List fr_E := [(0, .aload_n 0, 1, 0, 0, 0, []),
  (1, .getfield 288, 3, 12, 17, 17, []),
  (4, .istore_n 1, 1, 0, 0, 0, []),
  (5, .aload_n 0, 1, 0, 0, 0, []),
  (6, .iconst 0, 1, 0, 0, 0, []),
  (7, .putfield 288, 3, 12, 17, 17, []),
  (10, .iload_n 1, 1, 0, 0, 0, []),
  (11, .ireturn, 1, 0, 0, 0, [])]
/-- 192 FallRowsModel.choice()I -/
def k192 : List fr_E := [(0, .aload_n 0, 1, 0, 0, 0, []),
  (1, .getfield 123, 3, 12, 47, 47, []),
  (4, .iconst 2, 1, 0, 0, 0, []),
  (5, .iaload, 1, 0, 0, 0, []),
  (6, .aload_n 0, 1, 0, 0, 0, []),
  (7, .getfield 288, 3, 12, 17, 17, []),
  (10, .if_icmp .ge 17, 3, 15, 0, 0, []),
  (13, .aload_n 0, 1, 0, 0, 0, []),
  (14, .getfield 51, 3, 12, 16, 16, []),
  (17, .aload_n 0, 1, 0, 0, 0, []),
  (18, .getfield 123, 3, 12, 47, 47, []),
  (21, .iconst 2, 1, 0, 0, 0, []),
  (22, .iaload, 1, 0, 0, 0, []),
  (23, .iaload, 1, 0, 0, 0, []),
  (24, .goto 4, 3, 16, 0, 0, []),
  (27, .iconst 0, 1, 0, 0, 0, []),
  (28, .istore_n 1, 1, 0, 0, 0, []),
  (29, .aload_n 0, 1, 0, 0, 0, []),
  (30, .getfield 123, 3, 12, 47, 47, []),
  (33, .iconst 2, 1, 0, 0, 0, []),
  (34, .dup2, 1, 0, 0, 0, []),
  (35, .iaload, 1, 0, 0, 0, []),
  (36, .iconst 1, 1, 0, 0, 0, []),
  (37, .iadd, 1, 0, 0, 0, []),
  (38, .iastore, 1, 0, 0, 0, []),
  (39, .iload_n 1, 1, 0, 0, 0, []),
  (40, .ireturn, 1, 0, 0, 0, [])]
/-- 193 FallRowsModel.misses(II)Z -/
def k193 : List fr_E := [(0, .iconst 0, 1, 0, 0, 0, []),
  (1, .istore_n 3, 1, 0, 0, 0, []),
  (2, .iload_n 3, 1, 0, 0, 0, []),
  (3, .aload_n 0, 1, 0, 0, 0, []),
  (4, .getfield 291, 3, 12, 52, 52, []),
  (7, .if_icmp .ge 19, 3, 14, 0, 0, []),
  (10, .aload_n 0, 1, 0, 0, 0, []),
  (11, .getfield 132, 3, 12, 51, 51, []),
  (14, .iload_n 3, 1, 0, 0, 0, []),
  (15, .iaload, 1, 0, 0, 0, []),
  (16, .iload_n 1, 1, 0, 0, 0, []),
  (17, .if_icmp .eq 9, 3, 14, 0, 0, []),
  (20, .iinc 3 1, 3, 0, 0, 0, []),
  (23, .goto (-21), 3, 2, 0, 0, []),
  (26, .iload_n 3, 1, 0, 0, 0, []),
  (27, .aload_n 0, 1, 0, 0, 0, []),
  (28, .getfield 291, 3, 12, 52, 52, []),
  (31, .if_icmp .ne 7, 3, 20, 0, 0, []),
  (34, .iconst 1, 1, 0, 0, 0, []),
  (35, .goto 4, 3, 21, 0, 0, []),
  (38, .iconst 0, 1, 0, 0, 0, []),
  (39, .istore 4, 2, 0, 0, 0, []),
  (41, .iload 4, 2, 0, 0, 0, []),
  (43, .ifCond .eq 35, 3, 42, 0, 0, []),
  (46, .aload_n 0, 1, 0, 0, 0, []),
  (47, .aload_n 0, 1, 0, 0, 0, []),
  (48, .getfield 291, 3, 12, 52, 52, []),
  (51, .iload_n 2, 1, 0, 0, 0, []),
  (52, .if_icmp .ge 12, 3, 34, 0, 0, []),
  (55, .aload_n 0, 1, 0, 0, 0, []),
  (56, .getfield 291, 3, 12, 52, 52, []),
  (59, .iconst 1, 1, 0, 0, 0, []),
  (60, .iadd, 1, 0, 0, 0, []),
  (61, .goto 7, 3, 36, 0, 0, []),
  (64, .aload_n 0, 1, 0, 0, 0, []),
  (65, .getfield 291, 3, 12, 52, 52, []),
  (68, .putfield 291, 3, 12, 52, 52, []),
  (71, .aload_n 0, 1, 0, 0, 0, []),
  (72, .getfield 291, 3, 12, 52, 52, []),
  (75, .iconst 1, 1, 0, 0, 0, []),
  (76, .isub, 1, 0, 0, 0, []),
  (77, .istore_n 3, 1, 0, 0, 0, []),
  (78, .iload_n 3, 1, 0, 0, 0, []),
  (79, .istore 5, 2, 0, 0, 0, []),
  (81, .iload 5, 2, 0, 0, 0, []),
  (83, .ifCond .le 25, 3, 58, 0, 0, []),
  (86, .aload_n 0, 1, 0, 0, 0, []),
  (87, .getfield 132, 3, 12, 51, 51, []),
  (90, .iload 5, 2, 0, 0, 0, []),
  (92, .aload_n 0, 1, 0, 0, 0, []),
  (93, .getfield 132, 3, 12, 51, 51, []),
  (96, .iload 5, 2, 0, 0, 0, []),
  (98, .iconst 1, 1, 0, 0, 0, []),
  (99, .isub, 1, 0, 0, 0, []),
  (100, .iaload, 1, 0, 0, 0, []),
  (101, .iastore, 1, 0, 0, 0, []),
  (102, .iinc 5 (-1), 3, 0, 0, 0, []),
  (105, .goto (-24), 3, 44, 0, 0, []),
  (108, .iload_n 2, 1, 0, 0, 0, []),
  (109, .ifCond .le 10, 3, 65, 0, 0, []),
  (112, .aload_n 0, 1, 0, 0, 0, []),
  (113, .getfield 132, 3, 12, 51, 51, []),
  (116, .iconst 0, 1, 0, 0, 0, []),
  (117, .iload_n 1, 1, 0, 0, 0, []),
  (118, .iastore, 1, 0, 0, 0, []),
  (119, .iload 4, 2, 0, 0, 0, []),
  (121, .ireturn, 1, 1, 0, 0, [])]
/-- 194 FallRowsModel.jumps(II)V -/
def k194 : List fr_E := [(0, .aload_n 0, 1, 0, 0, 0, []),
  (1, .getfield 93, 3, 12, 33, 33, []),
  (4, .iconst 2, 1, 0, 0, 0, []),
  (5, .iload_n 1, 1, 0, 0, 0, []),
  (6, .imul, 1, 0, 0, 0, []),
  (7, .iload_n 2, 1, 0, 0, 0, []),
  (8, .iadd, 1, 0, 0, 0, []),
  (9, .iaload, 1, 0, 0, 0, []),
  (10, .bipush (-9), 2, 0, 0, 0, []),
  (12, .if_icmp .eq 28, 3, 29, 0, 0, []),
  (15, .iload_n 2, 1, 0, 0, 0, []),
  (16, .iconst 1, 1, 0, 0, 0, []),
  (17, .if_icmp .ne 23, 3, 29, 0, 0, []),
  (20, .aload_n 0, 1, 0, 0, 0, []),
  (21, .getfield 123, 3, 12, 47, 47, []),
  (24, .iconst 5, 1, 0, 0, 0, []),
  (25, .dup2, 1, 0, 0, 0, []),
  (26, .iaload, 1, 0, 0, 0, []),
  (27, .iconst 1, 1, 0, 0, 0, []),
  (28, .iadd, 1, 0, 0, 0, []),
  (29, .iastore, 1, 0, 0, 0, []),
  (30, .aload_n 0, 1, 0, 0, 0, []),
  (31, .getfield 123, 3, 12, 47, 47, []),
  (34, .iconst 4, 1, 0, 0, 0, []),
  (35, .dup2, 1, 0, 0, 0, []),
  (36, .iaload, 1, 0, 0, 0, []),
  (37, .iconst 2, 1, 0, 0, 0, []),
  (38, .iadd, 1, 0, 0, 0, []),
  (39, .iastore, 1, 0, 0, 0, []),
  (40, .return_, 1, 0, 0, 0, [])]
/-- 195 FallRowsModel.tests(II)V -/
def k195 : List fr_E := [(0, .aload_n 0, 1, 0, 0, 0, []),
  (1, .getfield 93, 3, 12, 33, 33, []),
  (4, .iconst 2, 1, 0, 0, 0, []),
  (5, .iload_n 1, 1, 0, 0, 0, []),
  (6, .imul, 1, 0, 0, 0, []),
  (7, .iaload, 1, 0, 0, 0, []),
  (8, .istore_n 3, 1, 0, 0, 0, []),
  (9, .aload_n 0, 1, 0, 0, 0, []),
  (10, .iload_n 1, 1, 0, 0, 0, []),
  (11, .invokevirtual 250, 3, 178, 12, 0, [2, 0, 0, 1, 2]),
  (14, .istore 4, 2, 0, 0, 0, []),
  (16, .iload 4, 2, 0, 0, 0, []),
  (18, .ifCond .eq 16, 3, 20, 0, 0, []),
  (21, .iload_n 2, 1, 0, 0, 0, []),
  (22, .iconst 1, 1, 0, 0, 0, []),
  (23, .if_icmp .ne 7, 3, 18, 0, 0, []),
  (26, .iconst 1, 1, 0, 0, 0, []),
  (27, .goto 16, 3, 25, 0, 0, []),
  (30, .iconst 0, 1, 0, 0, 0, []),
  (31, .goto 12, 3, 25, 0, 0, []),
  (34, .iload_n 2, 1, 0, 0, 0, []),
  (35, .ifCond .ne 7, 3, 24, 0, 0, []),
  (38, .iconst 1, 1, 0, 0, 0, []),
  (39, .goto 4, 3, 25, 0, 0, []),
  (42, .iconst 0, 1, 0, 0, 0, []),
  (43, .istore 5, 2, 0, 0, 0, []),
  (45, .aload_n 0, 1, 0, 0, 0, []),
  (46, .getfield 123, 3, 12, 47, 47, []),
  (49, .iload 5, 2, 0, 0, 0, []),
  (51, .ifCond .eq 8, 3, 32, 0, 0, []),
  (54, .bipush 6, 2, 0, 0, 0, []),
  (56, .goto 5, 3, 33, 0, 0, []),
  (59, .bipush 7, 2, 0, 0, 0, []),
  (61, .dup2, 1, 0, 0, 0, []),
  (62, .iaload, 1, 0, 0, 0, []),
  (63, .iconst 1, 1, 0, 0, 0, []),
  (64, .iadd, 1, 0, 0, 0, []),
  (65, .iastore, 1, 0, 0, 0, []),
  (66, .aload_n 0, 1, 0, 0, 0, []),
  (67, .getfield 123, 3, 12, 47, 47, []),
  (70, .iconst 4, 1, 0, 0, 0, []),
  (71, .dup2, 1, 0, 0, 0, []),
  (72, .iaload, 1, 0, 0, 0, []),
  (73, .iload 5, 2, 0, 0, 0, []),
  (75, .ifCond .eq 7, 3, 47, 0, 0, []),
  (78, .iconst 3, 1, 0, 0, 0, []),
  (79, .goto 4, 3, 48, 0, 0, []),
  (82, .iconst 1, 1, 0, 0, 0, []),
  (83, .iadd, 1, 0, 0, 0, []),
  (84, .iastore, 1, 0, 0, 0, []),
  (85, .iload 5, 2, 0, 0, 0, []),
  (87, .ifCond .ne 9, 3, 56, 0, 0, []),
  (90, .aload_n 0, 1, 0, 0, 0, []),
  (91, .iload_n 1, 1, 0, 0, 0, []),
  (92, .iconst 1, 1, 0, 0, 0, []),
  (93, .invokevirtual 294, 3, 194, 12, 0, [3, 0, 0, 0, 3]),
  (96, .return_, 1, 0, 0, 0, [])]
/-- 196 FallRowsModel.wayFor(I)I -/
def k196 : List fr_E := [(0, .aload_n 0, 1, 0, 0, 0, []),
  (1, .getfield 29, 3, 12, 8, 8, []),
  (4, .iload_n 1, 1, 0, 0, 0, []),
  (5, .iaload, 1, 0, 0, 0, []),
  (6, .tableswitch 65 3 6 #[30, 37, 65, 49], 30, 26, 0, 0, [5, 10, 26, 18]),
  (36, .aload_n 0, 1, 0, 0, 0, []),
  (37, .invokevirtual 298, 3, 192, 12, 0, [1, 0, 0, 1, 2]),
  (40, .iconst 2, 1, 0, 0, 0, []),
  (41, .irem, 1, 0, 0, 0, []),
  (42, .ireturn, 1, 0, 0, 0, []),
  (43, .aload_n 0, 1, 0, 0, 0, []),
  (44, .invokevirtual 298, 3, 192, 12, 0, [1, 0, 0, 1, 2]),
  (47, .aload_n 0, 1, 0, 0, 0, []),
  (48, .getfield 32, 3, 12, 9, 9, []),
  (51, .iload_n 1, 1, 0, 0, 0, []),
  (52, .iaload, 1, 0, 0, 0, []),
  (53, .irem, 1, 0, 0, 0, []),
  (54, .ireturn, 1, 0, 0, 0, []),
  (55, .aload_n 0, 1, 0, 0, 0, []),
  (56, .invokevirtual 298, 3, 192, 12, 0, [1, 0, 0, 1, 2]),
  (59, .sipush 255, 3, 0, 0, 0, []),
  (62, .if_icmp .ne 7, 3, 24, 0, 0, []),
  (65, .iconst 1, 1, 0, 0, 0, []),
  (66, .goto 4, 3, 25, 0, 0, []),
  (69, .iconst 0, 1, 0, 0, 0, []),
  (70, .ireturn, 1, 0, 0, 0, []),
  (71, .iconst 0, 1, 0, 0, 0, []),
  (72, .ireturn, 1, 0, 0, 0, [])]
/-- 197 FallRowsModel.passes(IZ)I -/
def k197 : List fr_E := [(0, .aload_n 0, 1, 0, 0, 0, []),
  (1, .getfield 29, 3, 12, 8, 8, []),
  (4, .iload_n 1, 1, 0, 0, 0, []),
  (5, .iaload, 1, 0, 0, 0, []),
  (6, .istore_n 3, 1, 0, 0, 0, []),
  (7, .iload_n 3, 1, 0, 0, 0, []),
  (8, .iconst 1, 1, 0, 0, 0, []),
  (9, .if_icmp .ne 6, 3, 10, 0, 0, []),
  (12, .bipush (-2), 2, 0, 0, 0, []),
  (14, .ireturn, 1, 0, 0, 0, []),
  (15, .iload_n 3, 1, 0, 0, 0, []),
  (16, .iconst 5, 1, 0, 0, 0, []),
  (17, .if_icmp .ne 82, 3, 59, 0, 0, []),
  (20, .aload_n 0, 1, 0, 0, 0, []),
  (21, .getfield 302, 3, 12, 50, 50, []),
  (24, .bipush 8, 2, 0, 0, 0, []),
  (26, .if_icmp .ne 6, 3, 19, 0, 0, []),
  (29, .bipush (-3), 2, 0, 0, 0, []),
  (31, .ireturn, 1, 0, 0, 0, []),
  (32, .aload_n 0, 1, 0, 0, 0, []),
  (33, .getfield 129, 3, 12, 49, 49, []),
  (36, .aload_n 0, 1, 0, 0, 0, []),
  (37, .getfield 302, 3, 12, 50, 50, []),
  (40, .iload_n 1, 1, 0, 0, 0, []),
  (41, .iastore, 1, 0, 0, 0, []),
  (42, .aload_n 0, 1, 0, 0, 0, []),
  (43, .dup, 1, 0, 0, 0, []),
  (44, .getfield 302, 3, 12, 50, 50, []),
  (47, .iconst 1, 1, 0, 0, 0, []),
  (48, .iadd, 1, 0, 0, 0, []),
  (49, .putfield 302, 3, 12, 50, 50, []),
  (52, .aload_n 0, 1, 0, 0, 0, []),
  (53, .getfield 123, 3, 12, 47, 47, []),
  (56, .iconst 3, 1, 0, 0, 0, []),
  (57, .aload_n 0, 1, 0, 0, 0, []),
  (58, .getfield 302, 3, 12, 50, 50, []),
  (61, .aload_n 0, 1, 0, 0, 0, []),
  (62, .getfield 123, 3, 12, 47, 47, []),
  (65, .iconst 3, 1, 0, 0, 0, []),
  (66, .iaload, 1, 0, 0, 0, []),
  (67, .if_icmp .le 10, 3, 44, 0, 0, []),
  (70, .aload_n 0, 1, 0, 0, 0, []),
  (71, .getfield 302, 3, 12, 50, 50, []),
  (74, .goto 9, 3, 48, 0, 0, []),
  (77, .aload_n 0, 1, 0, 0, 0, []),
  (78, .getfield 123, 3, 12, 47, 47, []),
  (81, .iconst 3, 1, 0, 0, 0, []),
  (82, .iaload, 1, 0, 0, 0, []),
  (83, .iastore, 1, 0, 0, 0, []),
  (84, .aload_n 0, 1, 0, 0, 0, []),
  (85, .getfield 13, 3, 12, 2, 2, []),
  (88, .bipush 9, 2, 0, 0, 0, []),
  (90, .aload_n 0, 1, 0, 0, 0, []),
  (91, .getfield 41, 3, 12, 12, 12, []),
  (94, .iload_n 1, 1, 0, 0, 0, []),
  (95, .iaload, 1, 0, 0, 0, []),
  (96, .imul, 1, 0, 0, 0, []),
  (97, .iaload, 1, 0, 0, 0, []),
  (98, .ireturn, 1, 0, 0, 0, []),
  (99, .iload_n 1, 1, 0, 0, 0, []),
  (100, .istore 4, 2, 0, 0, 0, []),
  (102, .iload_n 3, 1, 0, 0, 0, []),
  (103, .ifCond .ne 33, 3, 80, 0, 0, []),
  (106, .aload_n 0, 1, 0, 0, 0, []),
  (107, .getfield 302, 3, 12, 50, 50, []),
  (110, .ifCond .ne 5, 3, 68, 0, 0, []),
  (113, .iconst (-1), 1, 0, 0, 0, []),
  (114, .ireturn, 1, 0, 0, 0, []),
  (115, .aload_n 0, 1, 0, 0, 0, []),
  (116, .dup, 1, 0, 0, 0, []),
  (117, .getfield 302, 3, 12, 50, 50, []),
  (120, .iconst 1, 1, 0, 0, 0, []),
  (121, .isub, 1, 0, 0, 0, []),
  (122, .putfield 302, 3, 12, 50, 50, []),
  (125, .aload_n 0, 1, 0, 0, 0, []),
  (126, .getfield 129, 3, 12, 49, 49, []),
  (129, .aload_n 0, 1, 0, 0, 0, []),
  (130, .getfield 302, 3, 12, 50, 50, []),
  (133, .iaload, 1, 0, 0, 0, []),
  (134, .istore 4, 2, 0, 0, 0, []),
  (136, .aload_n 0, 1, 0, 0, 0, []),
  (137, .iload 4, 2, 0, 0, 0, []),
  (139, .invokevirtual 305, 3, 196, 12, 0, [2, 0, 0, 1, 2]),
  (142, .istore 5, 2, 0, 0, 0, []),
  (144, .aload_n 0, 1, 0, 0, 0, []),
  (145, .getfield 135, 3, 12, 53, 53, []),
  (148, .iconst 4, 1, 0, 0, 0, []),
  (149, .iload 4, 2, 0, 0, 0, []),
  (151, .imul, 1, 0, 0, 0, []),
  (152, .iload 5, 2, 0, 0, 0, []),
  (154, .iadd, 1, 0, 0, 0, []),
  (155, .dup2, 1, 0, 0, 0, []),
  (156, .iaload, 1, 0, 0, 0, []),
  (157, .iconst 1, 1, 0, 0, 0, []),
  (158, .iadd, 1, 0, 0, 0, []),
  (159, .iastore, 1, 0, 0, 0, []),
  (160, .iload_n 2, 1, 0, 0, 0, []),
  (161, .ifCond .eq 48, 3, 121, 0, 0, []),
  (164, .aload_n 0, 1, 0, 0, 0, []),
  (165, .getfield 29, 3, 12, 8, 8, []),
  (168, .iload 4, 2, 0, 0, 0, []),
  (170, .iaload, 1, 0, 0, 0, []),
  (171, .iconst 3, 1, 0, 0, 0, []),
  (172, .if_icmp .ne 14, 3, 109, 0, 0, []),
  (175, .aload_n 0, 1, 0, 0, 0, []),
  (176, .iload 4, 2, 0, 0, 0, []),
  (178, .iload 5, 2, 0, 0, 0, []),
  (180, .invokevirtual 308, 3, 195, 12, 0, [3, 0, 0, 0, 6]),
  (183, .goto 26, 3, 121, 0, 0, []),
  (186, .aload_n 0, 1, 0, 0, 0, []),
  (187, .getfield 29, 3, 12, 8, 8, []),
  (190, .iload 4, 2, 0, 0, 0, []),
  (192, .iaload, 1, 0, 0, 0, []),
  (193, .iconst 4, 1, 0, 0, 0, []),
  (194, .if_icmp .eq 15, 3, 121, 0, 0, []),
  (197, .iload 5, 2, 0, 0, 0, []),
  (199, .ifCond .ne 10, 3, 121, 0, 0, []),
  (202, .aload_n 0, 1, 0, 0, 0, []),
  (203, .iload 4, 2, 0, 0, 0, []),
  (205, .iconst 1, 1, 0, 0, 0, []),
  (206, .invokevirtual 294, 3, 194, 12, 0, [3, 0, 0, 0, 3]),
  (209, .aload_n 0, 1, 0, 0, 0, []),
  (210, .getfield 35, 3, 12, 10, 10, []),
  (213, .iconst 4, 1, 0, 0, 0, []),
  (214, .iload 4, 2, 0, 0, 0, []),
  (216, .imul, 1, 0, 0, 0, []),
  (217, .iload 5, 2, 0, 0, 0, []),
  (219, .iadd, 1, 0, 0, 0, []),
  (220, .iaload, 1, 0, 0, 0, []),
  (221, .ireturn, 1, 0, 0, 0, [])]
/-- 198 FallRowsModel.goes(IZ)V -/
def k198 : List fr_E := [(0, .iconst 0, 1, 0, 0, 0, []),
  (1, .istore_n 3, 1, 0, 0, 0, []),
  (2, .iload_n 3, 1, 0, 0, 0, []),
  (3, .bipush 9, 2, 0, 0, 0, []),
  (5, .if_icmp .ge 16, 3, 12, 0, 0, []),
  (8, .aload_n 0, 1, 0, 0, 0, []),
  (9, .getfield 123, 3, 12, 47, 47, []),
  (12, .iload_n 3, 1, 0, 0, 0, []),
  (13, .iconst 0, 1, 0, 0, 0, []),
  (14, .iastore, 1, 0, 0, 0, []),
  (15, .iinc 3 1, 3, 0, 0, 0, []),
  (18, .goto (-16), 3, 2, 0, 0, []),
  (21, .iconst 0, 1, 0, 0, 0, []),
  (22, .istore_n 3, 1, 0, 0, 0, []),
  (23, .iload_n 3, 1, 0, 0, 0, []),
  (24, .sipush 160, 3, 0, 0, 0, []),
  (27, .if_icmp .ge 16, 3, 24, 0, 0, []),
  (30, .aload_n 0, 1, 0, 0, 0, []),
  (31, .getfield 135, 3, 12, 53, 53, []),
  (34, .iload_n 3, 1, 0, 0, 0, []),
  (35, .iconst 0, 1, 0, 0, 0, []),
  (36, .iastore, 1, 0, 0, 0, []),
  (37, .iinc 3 1, 3, 0, 0, 0, []),
  (40, .goto (-17), 3, 14, 0, 0, []),
  (43, .aload_n 0, 1, 0, 0, 0, []),
  (44, .iconst 0, 1, 0, 0, 0, []),
  (45, .putfield 302, 3, 12, 50, 50, []),
  (48, .aload_n 0, 1, 0, 0, 0, []),
  (49, .iconst 0, 1, 0, 0, 0, []),
  (50, .putfield 291, 3, 12, 52, 52, []),
  (53, .iload_n 2, 1, 0, 0, 0, []),
  (54, .ifCond .eq 7, 3, 34, 0, 0, []),
  (57, .aload_n 0, 1, 0, 0, 0, []),
  (58, .invokevirtual 275, 3, 182, 12, 0, [1, 0, 0, 0, 3]),
  (61, .iload_n 1, 1, 0, 0, 0, []),
  (62, .istore_n 3, 1, 0, 0, 0, []),
  (63, .iload_n 3, 1, 0, 0, 0, []),
  (64, .ifCond .lt 136, 3, 119, 0, 0, []),
  (67, .aload_n 0, 1, 0, 0, 0, []),
  (68, .getfield 123, 3, 12, 47, 47, []),
  (71, .iconst 1, 1, 0, 0, 0, []),
  (72, .iaload, 1, 0, 0, 0, []),
  (73, .sipush 200, 3, 0, 0, 0, []),
  (76, .if_icmp .ne 9, 3, 47, 0, 0, []),
  (79, .bipush (-4), 2, 0, 0, 0, []),
  (81, .istore_n 3, 1, 0, 0, 0, []),
  (82, .goto (-19), 3, 36, 0, 0, []),
  (85, .aload_n 0, 1, 0, 0, 0, []),
  (86, .getfield 126, 3, 12, 48, 48, []),
  (89, .aload_n 0, 1, 0, 0, 0, []),
  (90, .getfield 123, 3, 12, 47, 47, []),
  (93, .iconst 1, 1, 0, 0, 0, []),
  (94, .iaload, 1, 0, 0, 0, []),
  (95, .iload_n 3, 1, 0, 0, 0, []),
  (96, .iastore, 1, 0, 0, 0, []),
  (97, .iload_n 2, 1, 0, 0, 0, []),
  (98, .ifCond .eq 82, 3, 105, 0, 0, []),
  (101, .aload_n 0, 1, 0, 0, 0, []),
  (102, .getfield 138, 3, 12, 54, 54, []),
  (105, .aload_n 0, 1, 0, 0, 0, []),
  (106, .getfield 123, 3, 12, 47, 47, []),
  (109, .iconst 1, 1, 0, 0, 0, []),
  (110, .iaload, 1, 0, 0, 0, []),
  (111, .aload_n 0, 1, 0, 0, 0, []),
  (112, .getfield 84, 3, 12, 30, 30, []),
  (115, .iload_n 3, 1, 0, 0, 0, []),
  (116, .iaload, 1, 0, 0, 0, []),
  (117, .bipush 64, 2, 0, 0, 0, []),
  (119, .idiv, 1, 0, 0, 0, []),
  (120, .iastore, 1, 0, 0, 0, []),
  (121, .aload_n 0, 1, 0, 0, 0, []),
  (122, .aload_n 0, 1, 0, 0, 0, []),
  (123, .getfield 84, 3, 12, 30, 30, []),
  (126, .iload_n 3, 1, 0, 0, 0, []),
  (127, .iaload, 1, 0, 0, 0, []),
  (128, .bipush 64, 2, 0, 0, 0, []),
  (130, .idiv, 1, 0, 0, 0, []),
  (131, .aload_n 0, 1, 0, 0, 0, []),
  (132, .getfield 48, 3, 12, 15, 15, []),
  (135, .invokevirtual 311, 3, 193, 12, 0, [3, 0, 0, 1, 6]),
  (138, .istore 4, 2, 0, 0, 0, []),
  (140, .aload_n 0, 1, 0, 0, 0, []),
  (141, .getfield 123, 3, 12, 47, 47, []),
  (144, .bipush 8, 2, 0, 0, 0, []),
  (146, .dup2, 1, 0, 0, 0, []),
  (147, .iaload, 1, 0, 0, 0, []),
  (148, .iload 4, 2, 0, 0, 0, []),
  (150, .ifCond .eq 7, 3, 90, 0, 0, []),
  (153, .iconst 1, 1, 0, 0, 0, []),
  (154, .goto 4, 3, 91, 0, 0, []),
  (157, .iconst 0, 1, 0, 0, 0, []),
  (158, .iadd, 1, 0, 0, 0, []),
  (159, .iastore, 1, 0, 0, 0, []),
  (160, .aload_n 0, 1, 0, 0, 0, []),
  (161, .getfield 123, 3, 12, 47, 47, []),
  (164, .iconst 4, 1, 0, 0, 0, []),
  (165, .dup2, 1, 0, 0, 0, []),
  (166, .iaload, 1, 0, 0, 0, []),
  (167, .iload 4, 2, 0, 0, 0, []),
  (169, .ifCond .eq 8, 3, 102, 0, 0, []),
  (172, .bipush 50, 2, 0, 0, 0, []),
  (174, .goto 4, 3, 103, 0, 0, []),
  (177, .iconst 0, 1, 0, 0, 0, []),
  (178, .iadd, 1, 0, 0, 0, []),
  (179, .iastore, 1, 0, 0, 0, []),
  (180, .aload_n 0, 1, 0, 0, 0, []),
  (181, .getfield 123, 3, 12, 47, 47, []),
  (184, .iconst 1, 1, 0, 0, 0, []),
  (185, .dup2, 1, 0, 0, 0, []),
  (186, .iaload, 1, 0, 0, 0, []),
  (187, .iconst 1, 1, 0, 0, 0, []),
  (188, .iadd, 1, 0, 0, 0, []),
  (189, .iastore, 1, 0, 0, 0, []),
  (190, .aload_n 0, 1, 0, 0, 0, []),
  (191, .iload_n 3, 1, 0, 0, 0, []),
  (192, .iload_n 2, 1, 0, 0, 0, []),
  (193, .invokevirtual 314, 3, 197, 12, 0, [3, 0, 0, 1, 6]),
  (196, .istore_n 3, 1, 0, 0, 0, []),
  (197, .goto (-134), 3, 36, 0, 0, []),
  (200, .aload_n 0, 1, 0, 0, 0, []),
  (201, .getfield 123, 3, 12, 47, 47, []),
  (204, .iconst 0, 1, 0, 0, 0, []),
  (205, .iconst (-1), 1, 0, 0, 0, []),
  (206, .iload_n 3, 1, 0, 0, 0, []),
  (207, .isub, 1, 0, 0, 0, []),
  (208, .iastore, 1, 0, 0, 0, []),
  (209, .return_, 1, 0, 0, 0, [])]
/-- 199 FallRowsModel.run(II)I -/
def k199 : List fr_E := [(0, .aload_n 0, 1, 0, 0, 0, []),
  (1, .iload_n 1, 1, 0, 0, 0, []),
  (2, .invokevirtual 168, 3, 142, 12, 0, [2, 0, 0, 1, 2]),
  (5, .ifCond .eq 12, 3, 9, 0, 0, []),
  (8, .iload_n 2, 1, 0, 0, 0, []),
  (9, .iconst 0, 1, 0, 0, 0, []),
  (10, .iconst 1, 1, 0, 0, 0, []),
  (11, .invokestatic 150, 3, 140, 12, 0, [3, 0, 0, 1, 3]),
  (14, .ifCond .ne 5, 3, 11, 0, 0, []),
  (17, .iconst (-1), 1, 0, 0, 0, []),
  (18, .ireturn, 1, 0, 0, 0, []),
  (19, .aload_n 0, 1, 0, 0, 0, []),
  (20, .iload_n 1, 1, 0, 0, 0, []),
  (21, .iload_n 2, 1, 0, 0, 0, []),
  (22, .iconst 1, 1, 0, 0, 0, []),
  (23, .if_icmp .ne 7, 3, 18, 0, 0, []),
  (26, .iconst 1, 1, 0, 0, 0, []),
  (27, .goto 4, 3, 19, 0, 0, []),
  (30, .iconst 0, 1, 0, 0, 0, []),
  (31, .invokevirtual 318, 3, 198, 12, 0, [3, 0, 0, 0, 5]),
  (34, .aload_n 0, 1, 0, 0, 0, []),
  (35, .getfield 108, 3, 12, 42, 42, []),
  (38, .iload_n 2, 1, 0, 0, 0, []),
  (39, .iconst 1, 1, 0, 0, 0, []),
  (40, .bastore, 1, 0, 0, 0, []),
  (41, .iconst 0, 1, 0, 0, 0, []),
  (42, .istore_n 3, 1, 0, 0, 0, []),
  (43, .iload_n 3, 1, 0, 0, 0, []),
  (44, .bipush 9, 2, 0, 0, 0, []),
  (46, .if_icmp .ge 26, 3, 44, 0, 0, []),
  (49, .aload_n 0, 1, 0, 0, 0, []),
  (50, .getfield 111, 3, 12, 43, 43, []),
  (53, .bipush 9, 2, 0, 0, 0, []),
  (55, .iload_n 2, 1, 0, 0, 0, []),
  (56, .imul, 1, 0, 0, 0, []),
  (57, .iload_n 3, 1, 0, 0, 0, []),
  (58, .iadd, 1, 0, 0, 0, []),
  (59, .aload_n 0, 1, 0, 0, 0, []),
  (60, .getfield 123, 3, 12, 47, 47, []),
  (63, .iload_n 3, 1, 0, 0, 0, []),
  (64, .iaload, 1, 0, 0, 0, []),
  (65, .iastore, 1, 0, 0, 0, []),
  (66, .iinc 3 1, 3, 0, 0, 0, []),
  (69, .goto (-26), 3, 27, 0, 0, []),
  (72, .iconst 0, 1, 0, 0, 0, []),
  (73, .istore_n 3, 1, 0, 0, 0, []),
  (74, .iload_n 3, 1, 0, 0, 0, []),
  (75, .aload_n 0, 1, 0, 0, 0, []),
  (76, .getfield 123, 3, 12, 47, 47, []),
  (79, .iconst 1, 1, 0, 0, 0, []),
  (80, .iaload, 1, 0, 0, 0, []),
  (81, .if_icmp .ge 53, 3, 82, 0, 0, []),
  (84, .aload_n 0, 1, 0, 0, 0, []),
  (85, .getfield 114, 3, 12, 44, 44, []),
  (88, .sipush 200, 3, 0, 0, 0, []),
  (91, .iload_n 2, 1, 0, 0, 0, []),
  (92, .imul, 1, 0, 0, 0, []),
  (93, .iload_n 3, 1, 0, 0, 0, []),
  (94, .iadd, 1, 0, 0, 0, []),
  (95, .aload_n 0, 1, 0, 0, 0, []),
  (96, .getfield 126, 3, 12, 48, 48, []),
  (99, .iload_n 3, 1, 0, 0, 0, []),
  (100, .iaload, 1, 0, 0, 0, []),
  (101, .iastore, 1, 0, 0, 0, []),
  (102, .aload_n 0, 1, 0, 0, 0, []),
  (103, .getfield 120, 3, 12, 46, 46, []),
  (106, .iload_n 3, 1, 0, 0, 0, []),
  (107, .iload_n 2, 1, 0, 0, 0, []),
  (108, .iconst 1, 1, 0, 0, 0, []),
  (109, .if_icmp .ne 12, 3, 75, 0, 0, []),
  (112, .aload_n 0, 1, 0, 0, 0, []),
  (113, .getfield 138, 3, 12, 54, 54, []),
  (116, .iload_n 3, 1, 0, 0, 0, []),
  (117, .iaload, 1, 0, 0, 0, []),
  (118, .goto 9, 3, 79, 0, 0, []),
  (121, .aload_n 0, 1, 0, 0, 0, []),
  (122, .getfield 120, 3, 12, 46, 46, []),
  (125, .iload_n 3, 1, 0, 0, 0, []),
  (126, .iaload, 1, 0, 0, 0, []),
  (127, .iastore, 1, 0, 0, 0, []),
  (128, .iinc 3 1, 3, 0, 0, 0, []),
  (131, .goto (-57), 3, 46, 0, 0, []),
  (134, .iload_n 2, 1, 0, 0, 0, []),
  (135, .ifCond .ne 35, 3, 102, 0, 0, []),
  (138, .aload_n 0, 1, 0, 0, 0, []),
  (139, .iconst 1, 1, 0, 0, 0, []),
  (140, .putfield 164, 3, 12, 41, 41, [1]),
  (143, .iconst 0, 1, 0, 0, 0, []),
  (144, .istore_n 3, 1, 0, 0, 0, []),
  (145, .iload_n 3, 1, 0, 0, 0, []),
  (146, .sipush 160, 3, 0, 0, 0, []),
  (149, .if_icmp .ge 21, 3, 102, 0, 0, []),
  (152, .aload_n 0, 1, 0, 0, 0, []),
  (153, .getfield 117, 3, 12, 45, 45, []),
  (156, .iload_n 3, 1, 0, 0, 0, []),
  (157, .aload_n 0, 1, 0, 0, 0, []),
  (158, .getfield 135, 3, 12, 53, 53, []),
  (161, .iload_n 3, 1, 0, 0, 0, []),
  (162, .iaload, 1, 0, 0, 0, []),
  (163, .iastore, 1, 0, 0, 0, []),
  (164, .iinc 3 1, 3, 0, 0, 0, []),
  (167, .goto (-22), 3, 89, 0, 0, []),
  (170, .aload_n 0, 1, 0, 0, 0, []),
  (171, .getfield 123, 3, 12, 47, 47, []),
  (174, .iconst 0, 1, 0, 0, 0, []),
  (175, .iaload, 1, 0, 0, 0, []),
  (176, .ireturn, 1, 0, 0, 0, [])]
/-- 200 FallRowsModel.ran(II)I -/
def k200 : List fr_E := [(0, .iload_n 1, 1, 0, 0, 0, []),
  (1, .iconst 0, 1, 0, 0, 0, []),
  (2, .iconst 1, 1, 0, 0, 0, []),
  (3, .invokestatic 150, 3, 140, 12, 0, [3, 0, 0, 1, 3]),
  (6, .ifCond .eq 13, 3, 10, 0, 0, []),
  (9, .iload_n 2, 1, 0, 0, 0, []),
  (10, .iconst 0, 1, 0, 0, 0, []),
  (11, .bipush 8, 2, 0, 0, 0, []),
  (13, .invokestatic 150, 3, 140, 12, 0, [3, 0, 0, 1, 3]),
  (16, .ifCond .ne 5, 3, 12, 0, 0, []),
  (19, .iconst (-1), 1, 0, 0, 0, []),
  (20, .ireturn, 1, 0, 0, 0, []),
  (21, .aload_n 0, 1, 0, 0, 0, []),
  (22, .getfield 108, 3, 12, 42, 42, []),
  (25, .iload_n 1, 1, 0, 0, 0, []),
  (26, .baload, 1, 0, 0, 0, []),
  (27, .ifCond .eq 17, 3, 26, 0, 0, []),
  (30, .aload_n 0, 1, 0, 0, 0, []),
  (31, .getfield 111, 3, 12, 43, 43, []),
  (34, .bipush 9, 2, 0, 0, 0, []),
  (36, .iload_n 1, 1, 0, 0, 0, []),
  (37, .imul, 1, 0, 0, 0, []),
  (38, .iload_n 2, 1, 0, 0, 0, []),
  (39, .iadd, 1, 0, 0, 0, []),
  (40, .iaload, 1, 0, 0, 0, []),
  (41, .goto 5, 3, 27, 0, 0, []),
  (44, .bipush (-9), 2, 0, 0, 0, []),
  (46, .ireturn, 1, 0, 0, 0, [])]
/-- 201 FallRowsModel.passed(II)I -/
def k201 : List fr_E := [(0, .iload_n 1, 1, 0, 0, 0, []),
  (1, .iconst 0, 1, 0, 0, 0, []),
  (2, .iconst 1, 1, 0, 0, 0, []),
  (3, .invokestatic 150, 3, 140, 12, 0, [3, 0, 0, 1, 3]),
  (6, .ifCond .ne 5, 3, 7, 0, 0, []),
  (9, .iconst (-1), 1, 0, 0, 0, []),
  (10, .ireturn, 1, 0, 0, 0, []),
  (11, .aload_n 0, 1, 0, 0, 0, []),
  (12, .getfield 108, 3, 12, 42, 42, []),
  (15, .iload_n 1, 1, 0, 0, 0, []),
  (16, .baload, 1, 0, 0, 0, []),
  (17, .ifCond .eq 39, 3, 35, 0, 0, []),
  (20, .iload_n 2, 1, 0, 0, 0, []),
  (21, .iconst 0, 1, 0, 0, 0, []),
  (22, .aload_n 0, 1, 0, 0, 0, []),
  (23, .getfield 111, 3, 12, 43, 43, []),
  (26, .bipush 9, 2, 0, 0, 0, []),
  (28, .iload_n 1, 1, 0, 0, 0, []),
  (29, .imul, 1, 0, 0, 0, []),
  (30, .iconst 1, 1, 0, 0, 0, []),
  (31, .iadd, 1, 0, 0, 0, []),
  (32, .iaload, 1, 0, 0, 0, []),
  (33, .iconst 1, 1, 0, 0, 0, []),
  (34, .isub, 1, 0, 0, 0, []),
  (35, .invokestatic 150, 3, 140, 12, 0, [3, 0, 0, 1, 3]),
  (38, .ifCond .eq 18, 3, 35, 0, 0, []),
  (41, .aload_n 0, 1, 0, 0, 0, []),
  (42, .getfield 114, 3, 12, 44, 44, []),
  (45, .sipush 200, 3, 0, 0, 0, []),
  (48, .iload_n 1, 1, 0, 0, 0, []),
  (49, .imul, 1, 0, 0, 0, []),
  (50, .iload_n 2, 1, 0, 0, 0, []),
  (51, .iadd, 1, 0, 0, 0, []),
  (52, .iaload, 1, 0, 0, 0, []),
  (53, .goto 5, 3, 36, 0, 0, []),
  (56, .bipush (-9), 2, 0, 0, 0, []),
  (58, .ireturn, 1, 0, 0, 0, [])]
/-- 202 FallRowsModel.learn()I -/
def k202 : List fr_E := [(0, .aload_n 0, 1, 0, 0, 0, []),
  (1, .getfield 164, 3, 12, 41, 41, []),
  (4, .ifCond .ne 6, 3, 5, 0, 0, []),
  (7, .bipush (-2), 2, 0, 0, 0, []),
  (9, .ireturn, 1, 0, 0, 0, []),
  (10, .iconst 0, 1, 0, 0, 0, []),
  (11, .istore_n 1, 1, 0, 0, 0, []),
  (12, .iload_n 1, 1, 0, 0, 0, []),
  (13, .sipush 160, 3, 0, 0, 0, []),
  (16, .if_icmp .ge 21, 3, 20, 0, 0, []),
  (19, .aload_n 0, 1, 0, 0, 0, []),
  (20, .getfield 38, 3, 12, 11, 11, []),
  (23, .iload_n 1, 1, 0, 0, 0, []),
  (24, .aload_n 0, 1, 0, 0, 0, []),
  (25, .getfield 117, 3, 12, 45, 45, []),
  (28, .iload_n 1, 1, 0, 0, 0, []),
  (29, .iaload, 1, 0, 0, 0, []),
  (30, .iastore, 1, 0, 0, 0, []),
  (31, .iinc 1 1, 3, 0, 0, 0, []),
  (34, .goto (-22), 3, 7, 0, 0, []),
  (37, .aload_n 0, 1, 0, 0, 0, []),
  (38, .getfield 111, 3, 12, 43, 43, []),
  (41, .iconst 1, 1, 0, 0, 0, []),
  (42, .iaload, 1, 0, 0, 0, []),
  (43, .ireturn, 1, 0, 0, 0, [])]
/-- 203 FallRowsModel.pages(I)I -/
def k203 : List fr_E := [(0, .iload_n 1, 1, 0, 0, 0, []),
  (1, .iconst 0, 1, 0, 0, 0, []),
  (2, .bipush 8, 2, 0, 0, 0, []),
  (4, .invokestatic 150, 3, 140, 12, 0, [3, 0, 0, 1, 3]),
  (7, .ifCond .ne 5, 3, 7, 0, 0, []),
  (10, .iconst (-1), 1, 0, 0, 0, []),
  (11, .ireturn, 1, 0, 0, 0, []),
  (12, .aload_n 0, 1, 0, 0, 0, []),
  (13, .getfield 108, 3, 12, 42, 42, []),
  (16, .iconst 1, 1, 0, 0, 0, []),
  (17, .baload, 1, 0, 0, 0, []),
  (18, .ifCond .ne 6, 3, 14, 0, 0, []),
  (21, .bipush (-2), 2, 0, 0, 0, []),
  (23, .ireturn, 1, 0, 0, 0, []),
  (24, .aload_n 0, 1, 0, 0, 0, []),
  (25, .iconst 0, 1, 0, 0, 0, []),
  (26, .putfield 291, 3, 12, 52, 52, []),
  (29, .iconst 0, 1, 0, 0, 0, []),
  (30, .istore_n 2, 1, 0, 0, 0, []),
  (31, .iconst 0, 1, 0, 0, 0, []),
  (32, .istore_n 3, 1, 0, 0, 0, []),
  (33, .iload_n 3, 1, 0, 0, 0, []),
  (34, .aload_n 0, 1, 0, 0, 0, []),
  (35, .getfield 111, 3, 12, 43, 43, []),
  (38, .bipush 10, 2, 0, 0, 0, []),
  (40, .iaload, 1, 0, 0, 0, []),
  (41, .if_icmp .ge 31, 3, 43, 0, 0, []),
  (44, .iload_n 2, 1, 0, 0, 0, []),
  (45, .aload_n 0, 1, 0, 0, 0, []),
  (46, .aload_n 0, 1, 0, 0, 0, []),
  (47, .getfield 120, 3, 12, 46, 46, []),
  (50, .iload_n 3, 1, 0, 0, 0, []),
  (51, .iaload, 1, 0, 0, 0, []),
  (52, .iload_n 1, 1, 0, 0, 0, []),
  (53, .invokevirtual 311, 3, 193, 12, 0, [3, 0, 0, 1, 6]),
  (56, .ifCond .eq 7, 3, 38, 0, 0, []),
  (59, .iconst 1, 1, 0, 0, 0, []),
  (60, .goto 4, 3, 39, 0, 0, []),
  (63, .iconst 0, 1, 0, 0, 0, []),
  (64, .iadd, 1, 0, 0, 0, []),
  (65, .istore_n 2, 1, 0, 0, 0, []),
  (66, .iinc 3 1, 3, 0, 0, 0, []),
  (69, .goto (-36), 3, 21, 0, 0, []),
  (72, .iload_n 2, 1, 0, 0, 0, []),
  (73, .ireturn, 1, 0, 0, 0, [])]
/-- 204 FallRowsModel.differ()I -/
def k204 : List fr_E := [(0, .iconst 0, 1, 0, 0, 0, []),
  (1, .istore_n 1, 1, 0, 0, 0, []),
  (2, .iload_n 1, 1, 0, 0, 0, []),
  (3, .aload_n 0, 1, 0, 0, 0, []),
  (4, .getfield 154, 3, 12, 4, 4, []),
  (7, .if_icmp .ge 161, 3, 100, 0, 0, []),
  (10, .aload_n 0, 1, 0, 0, 0, []),
  (11, .iload_n 1, 1, 0, 0, 0, []),
  (12, .iconst 0, 1, 0, 0, 0, []),
  (13, .invokevirtual 318, 3, 198, 12, 0, [3, 0, 0, 0, 5]),
  (16, .iconst 0, 1, 0, 0, 0, []),
  (17, .istore_n 2, 1, 0, 0, 0, []),
  (18, .iload_n 2, 1, 0, 0, 0, []),
  (19, .iconst 4, 1, 0, 0, 0, []),
  (20, .if_icmp .ge 21, 3, 25, 0, 0, []),
  (23, .aload_n 0, 1, 0, 0, 0, []),
  (24, .getfield 144, 3, 12, 56, 56, []),
  (27, .iload_n 2, 1, 0, 0, 0, []),
  (28, .aload_n 0, 1, 0, 0, 0, []),
  (29, .getfield 123, 3, 12, 47, 47, []),
  (32, .iload_n 2, 1, 0, 0, 0, []),
  (33, .iaload, 1, 0, 0, 0, []),
  (34, .iastore, 1, 0, 0, 0, []),
  (35, .iinc 2 1, 3, 0, 0, 0, []),
  (38, .goto (-20), 3, 12, 0, 0, []),
  (41, .iconst 0, 1, 0, 0, 0, []),
  (42, .istore_n 2, 1, 0, 0, 0, []),
  (43, .iload_n 2, 1, 0, 0, 0, []),
  (44, .aload_n 0, 1, 0, 0, 0, []),
  (45, .getfield 123, 3, 12, 47, 47, []),
  (48, .iconst 1, 1, 0, 0, 0, []),
  (49, .iaload, 1, 0, 0, 0, []),
  (50, .if_icmp .ge 21, 3, 43, 0, 0, []),
  (53, .aload_n 0, 1, 0, 0, 0, []),
  (54, .getfield 141, 3, 12, 55, 55, []),
  (57, .iload_n 2, 1, 0, 0, 0, []),
  (58, .aload_n 0, 1, 0, 0, 0, []),
  (59, .getfield 126, 3, 12, 48, 48, []),
  (62, .iload_n 2, 1, 0, 0, 0, []),
  (63, .iaload, 1, 0, 0, 0, []),
  (64, .iastore, 1, 0, 0, 0, []),
  (65, .iinc 2 1, 3, 0, 0, 0, []),
  (68, .goto (-25), 3, 27, 0, 0, []),
  (71, .aload_n 0, 1, 0, 0, 0, []),
  (72, .iload_n 1, 1, 0, 0, 0, []),
  (73, .iconst 1, 1, 0, 0, 0, []),
  (74, .invokevirtual 318, 3, 198, 12, 0, [3, 0, 0, 0, 5]),
  (77, .aload_n 0, 1, 0, 0, 0, []),
  (78, .getfield 144, 3, 12, 56, 56, []),
  (81, .iconst 0, 1, 0, 0, 0, []),
  (82, .iaload, 1, 0, 0, 0, []),
  (83, .aload_n 0, 1, 0, 0, 0, []),
  (84, .getfield 123, 3, 12, 47, 47, []),
  (87, .iconst 0, 1, 0, 0, 0, []),
  (88, .iaload, 1, 0, 0, 0, []),
  (89, .if_icmp .ne 22, 3, 67, 0, 0, []),
  (92, .aload_n 0, 1, 0, 0, 0, []),
  (93, .getfield 144, 3, 12, 56, 56, []),
  (96, .iconst 1, 1, 0, 0, 0, []),
  (97, .iaload, 1, 0, 0, 0, []),
  (98, .aload_n 0, 1, 0, 0, 0, []),
  (99, .getfield 123, 3, 12, 47, 47, []),
  (102, .iconst 1, 1, 0, 0, 0, []),
  (103, .iaload, 1, 0, 0, 0, []),
  (104, .if_icmp .ne 7, 3, 67, 0, 0, []),
  (107, .iconst 1, 1, 0, 0, 0, []),
  (108, .goto 4, 3, 68, 0, 0, []),
  (111, .iconst 0, 1, 0, 0, 0, []),
  (112, .istore_n 2, 1, 0, 0, 0, []),
  (113, .iconst 0, 1, 0, 0, 0, []),
  (114, .istore_n 3, 1, 0, 0, 0, []),
  (115, .iload_n 3, 1, 0, 0, 0, []),
  (116, .aload_n 0, 1, 0, 0, 0, []),
  (117, .getfield 123, 3, 12, 47, 47, []),
  (120, .iconst 1, 1, 0, 0, 0, []),
  (121, .iaload, 1, 0, 0, 0, []),
  (122, .if_icmp .ge 34, 3, 94, 0, 0, []),
  (125, .iload_n 2, 1, 0, 0, 0, []),
  (126, .ifCond .eq 30, 3, 94, 0, 0, []),
  (129, .aload_n 0, 1, 0, 0, 0, []),
  (130, .getfield 141, 3, 12, 55, 55, []),
  (133, .iload_n 3, 1, 0, 0, 0, []),
  (134, .iaload, 1, 0, 0, 0, []),
  (135, .aload_n 0, 1, 0, 0, 0, []),
  (136, .getfield 126, 3, 12, 48, 48, []),
  (139, .iload_n 3, 1, 0, 0, 0, []),
  (140, .iaload, 1, 0, 0, 0, []),
  (141, .if_icmp .ne 7, 3, 90, 0, 0, []),
  (144, .iconst 1, 1, 0, 0, 0, []),
  (145, .goto 4, 3, 91, 0, 0, []),
  (148, .iconst 0, 1, 0, 0, 0, []),
  (149, .istore_n 2, 1, 0, 0, 0, []),
  (150, .iinc 3 1, 3, 0, 0, 0, []),
  (153, .goto (-38), 3, 71, 0, 0, []),
  (156, .iload_n 2, 1, 0, 0, 0, []),
  (157, .ifCond .ne 5, 3, 98, 0, 0, []),
  (160, .iload_n 1, 1, 0, 0, 0, []),
  (161, .ireturn, 1, 0, 0, 0, []),
  (162, .iinc 1 1, 3, 0, 0, 0, []),
  (165, .goto (-163), 3, 2, 0, 0, []),
  (168, .bipush (-9), 2, 0, 0, 0, []),
  (170, .ireturn, 1, 0, 0, 0, [])]
/-- 205 FallRowsModel.has(I)I -/
def k205 : List fr_E := [(0, .iload_n 1, 1, 0, 0, 0, []),
  (1, .tableswitch 86 0 6 #[43, 48, 53, 58, 71, 76, 81], 43, 27, 0, 0, [2, 5, 8, 11, 18, 21, 24]),
  (44, .aload_n 0, 1, 0, 0, 0, []),
  (45, .getfield 147, 3, 12, 0, 0, []),
  (48, .ireturn, 1, 0, 0, 0, []),
  (49, .aload_n 0, 1, 0, 0, 0, []),
  (50, .getfield 154, 3, 12, 4, 4, []),
  (53, .ireturn, 1, 0, 0, 0, []),
  (54, .aload_n 0, 1, 0, 0, 0, []),
  (55, .getfield 288, 3, 12, 17, 17, []),
  (58, .ireturn, 1, 0, 0, 0, []),
  (59, .aload_n 0, 1, 0, 0, 0, []),
  (60, .getfield 238, 3, 12, 13, 13, []),
  (63, .ifCond .eq 7, 3, 16, 0, 0, []),
  (66, .iconst 1, 1, 0, 0, 0, []),
  (67, .goto 4, 3, 17, 0, 0, []),
  (70, .iconst 0, 1, 0, 0, 0, []),
  (71, .ireturn, 1, 0, 0, 0, []),
  (72, .aload_n 0, 1, 0, 0, 0, []),
  (73, .getfield 44, 3, 12, 14, 14, []),
  (76, .ireturn, 1, 0, 0, 0, []),
  (77, .aload_n 0, 1, 0, 0, 0, []),
  (78, .getfield 48, 3, 12, 15, 15, []),
  (81, .ireturn, 1, 0, 0, 0, []),
  (82, .aload_n 0, 1, 0, 0, 0, []),
  (83, .getfield 161, 3, 12, 18, 18, []),
  (86, .ireturn, 1, 0, 0, 0, []),
  (87, .iconst (-1), 1, 0, 0, 0, []),
  (88, .ireturn, 1, 0, 0, 0, [])]
/-- 206 FallRowsLaw.law([I)Z -/
def k206 : List fr_E := [(0, .new 7, 3, 11, 18, 0, []),
  (3, .dup, 1, 0, 0, 0, []),
  (4, .invokespecial 9, 3, 106, 11, 0, [1, 74, 16282, 0, 1]),
  (7, .astore_n 1, 1, 0, 0, 0, []),
  (8, .new 10, 3, 12, 57, 0, []),
  (11, .dup, 1, 0, 0, 0, []),
  (12, .invokespecial 12, 3, 139, 12, 0, [1, 43, 8055, 0, 1]),
  (15, .astore_n 2, 1, 0, 0, 0, []),
  (16, .iconst 0, 1, 0, 0, 0, []),
  (17, .istore_n 3, 1, 0, 0, 0, []),
  (18, .iload_n 3, 1, 0, 0, 0, []),
  (19, .aload_n 0, 1, 0, 0, 0, []),
  (20, .arraylength, 1, 0, 0, 0, []),
  (21, .bipush 7, 2, 0, 0, 0, []),
  (23, .isub, 1, 0, 0, 0, []),
  (24, .if_icmp .gt 903, 3, 631, 0, 0, []),
  (27, .aload_n 0, 1, 0, 0, 0, []),
  (28, .iload_n 3, 1, 0, 0, 0, []),
  (29, .iaload, 1, 0, 0, 0, []),
  (30, .bipush 31, 2, 0, 0, 0, []),
  (32, .iand, 1, 0, 0, 0, []),
  (33, .tableswitch 888 0 24 #[115, 128, 161, 236, 279, 328, 361, 394, 427, 460, 473, 506, 539, 562, 595, 618, 641, 704, 717, 750, 783, 816, 829, 852, 865], 115, 629, 0, 0, [22, 29, 56, 123, 160, 195, 222, 249, 276, 303, 310, 337, 364, 381, 408, 425, 442, 493, 500, 527, 554, 581, 588, 605, 612]),
  (148, .aload_n 1, 1, 0, 0, 0, []),
  (149, .invokevirtual 13, 3, 107, 11, 0, [1, 0, 0, 1, 1]),
  (152, .aload_n 2, 1, 0, 0, 0, []),
  (153, .invokevirtual 17, 3, 144, 12, 0, [1, 0, 0, 1, 1]),
  (156, .if_icmp .eq 765, 3, 629, 0, 0, []),
  (159, .iconst 0, 1, 0, 0, 0, []),
  (160, .ireturn, 1, 1, 0, 0, []),
  (161, .aload_n 1, 1, 0, 0, 0, []),
  (162, .aload_n 0, 1, 0, 0, 0, []),
  (163, .iload_n 3, 1, 0, 0, 0, []),
  (164, .iconst 1, 1, 0, 0, 0, []),
  (165, .iadd, 1, 0, 0, 0, []),
  (166, .iaload, 1, 0, 0, 0, []),
  (167, .aload_n 0, 1, 0, 0, 0, []),
  (168, .iload_n 3, 1, 0, 0, 0, []),
  (169, .iconst 2, 1, 0, 0, 0, []),
  (170, .iadd, 1, 0, 0, 0, []),
  (171, .iaload, 1, 0, 0, 0, []),
  (172, .invokevirtual 18, 3, 108, 11, 0, [3, 0, 0, 1, 4]),
  (175, .aload_n 2, 1, 0, 0, 0, []),
  (176, .aload_n 0, 1, 0, 0, 0, []),
  (177, .iload_n 3, 1, 0, 0, 0, []),
  (178, .iconst 1, 1, 0, 0, 0, []),
  (179, .iadd, 1, 0, 0, 0, []),
  (180, .iaload, 1, 0, 0, 0, []),
  (181, .aload_n 0, 1, 0, 0, 0, []),
  (182, .iload_n 3, 1, 0, 0, 0, []),
  (183, .iconst 2, 1, 0, 0, 0, []),
  (184, .iadd, 1, 0, 0, 0, []),
  (185, .iaload, 1, 0, 0, 0, []),
  (186, .invokevirtual 22, 3, 145, 12, 0, [3, 0, 0, 1, 3]),
  (189, .if_icmp .eq 732, 3, 629, 0, 0, []),
  (192, .iconst 0, 1, 0, 0, 0, []),
  (193, .ireturn, 1, 1, 0, 0, []),
  (194, .aload_n 1, 1, 0, 0, 0, []),
  (195, .aload_n 0, 1, 0, 0, 0, []),
  (196, .iload_n 3, 1, 0, 0, 0, []),
  (197, .iconst 1, 1, 0, 0, 0, []),
  (198, .iadd, 1, 0, 0, 0, []),
  (199, .iaload, 1, 0, 0, 0, []),
  (200, .aload_n 0, 1, 0, 0, 0, []),
  (201, .iload_n 3, 1, 0, 0, 0, []),
  (202, .iconst 2, 1, 0, 0, 0, []),
  (203, .iadd, 1, 0, 0, 0, []),
  (204, .iaload, 1, 0, 0, 0, []),
  (205, .aload_n 0, 1, 0, 0, 0, []),
  (206, .iload_n 3, 1, 0, 0, 0, []),
  (207, .iconst 3, 1, 0, 0, 0, []),
  (208, .iadd, 1, 0, 0, 0, []),
  (209, .iaload, 1, 0, 0, 0, []),
  (210, .aload_n 0, 1, 0, 0, 0, []),
  (211, .iload_n 3, 1, 0, 0, 0, []),
  (212, .iconst 4, 1, 0, 0, 0, []),
  (213, .iadd, 1, 0, 0, 0, []),
  (214, .iaload, 1, 0, 0, 0, []),
  (215, .aload_n 0, 1, 0, 0, 0, []),
  (216, .iload_n 3, 1, 0, 0, 0, []),
  (217, .iconst 5, 1, 0, 0, 0, []),
  (218, .iadd, 1, 0, 0, 0, []),
  (219, .iaload, 1, 0, 0, 0, []),
  (220, .aload_n 0, 1, 0, 0, 0, []),
  (221, .iload_n 3, 1, 0, 0, 0, []),
  (222, .bipush 6, 2, 0, 0, 0, []),
  (224, .iadd, 1, 0, 0, 0, []),
  (225, .iaload, 1, 0, 0, 0, []),
  (226, .invokevirtual 23, 3, 110, 11, 0, [7, 0, 0, 1, 9]),
  (229, .aload_n 2, 1, 0, 0, 0, []),
  (230, .aload_n 0, 1, 0, 0, 0, []),
  (231, .iload_n 3, 1, 0, 0, 0, []),
  (232, .iconst 1, 1, 0, 0, 0, []),
  (233, .iadd, 1, 0, 0, 0, []),
  (234, .iaload, 1, 0, 0, 0, []),
  (235, .aload_n 0, 1, 0, 0, 0, []),
  (236, .iload_n 3, 1, 0, 0, 0, []),
  (237, .iconst 2, 1, 0, 0, 0, []),
  (238, .iadd, 1, 0, 0, 0, []),
  (239, .iaload, 1, 0, 0, 0, []),
  (240, .aload_n 0, 1, 0, 0, 0, []),
  (241, .iload_n 3, 1, 0, 0, 0, []),
  (242, .iconst 3, 1, 0, 0, 0, []),
  (243, .iadd, 1, 0, 0, 0, []),
  (244, .iaload, 1, 0, 0, 0, []),
  (245, .aload_n 0, 1, 0, 0, 0, []),
  (246, .iload_n 3, 1, 0, 0, 0, []),
  (247, .iconst 4, 1, 0, 0, 0, []),
  (248, .iadd, 1, 0, 0, 0, []),
  (249, .iaload, 1, 0, 0, 0, []),
  (250, .aload_n 0, 1, 0, 0, 0, []),
  (251, .iload_n 3, 1, 0, 0, 0, []),
  (252, .iconst 5, 1, 0, 0, 0, []),
  (253, .iadd, 1, 0, 0, 0, []),
  (254, .iaload, 1, 0, 0, 0, []),
  (255, .aload_n 0, 1, 0, 0, 0, []),
  (256, .iload_n 3, 1, 0, 0, 0, []),
  (257, .bipush 6, 2, 0, 0, 0, []),
  (259, .iadd, 1, 0, 0, 0, []),
  (260, .iaload, 1, 0, 0, 0, []),
  (261, .invokevirtual 27, 3, 148, 12, 0, [7, 0, 0, 1, 9]),
  (264, .if_icmp .eq 657, 3, 629, 0, 0, []),
  (267, .iconst 0, 1, 0, 0, 0, []),
  (268, .ireturn, 1, 1, 0, 0, []),
  (269, .aload_n 1, 1, 0, 0, 0, []),
  (270, .aload_n 0, 1, 0, 0, 0, []),
  (271, .iload_n 3, 1, 0, 0, 0, []),
  (272, .iconst 1, 1, 0, 0, 0, []),
  (273, .iadd, 1, 0, 0, 0, []),
  (274, .iaload, 1, 0, 0, 0, []),
  (275, .aload_n 0, 1, 0, 0, 0, []),
  (276, .iload_n 3, 1, 0, 0, 0, []),
  (277, .iconst 2, 1, 0, 0, 0, []),
  (278, .iadd, 1, 0, 0, 0, []),
  (279, .iaload, 1, 0, 0, 0, []),
  (280, .aload_n 0, 1, 0, 0, 0, []),
  (281, .iload_n 3, 1, 0, 0, 0, []),
  (282, .iconst 3, 1, 0, 0, 0, []),
  (283, .iadd, 1, 0, 0, 0, []),
  (284, .iaload, 1, 0, 0, 0, []),
  (285, .invokevirtual 28, 3, 111, 11, 0, [4, 0, 0, 1, 5]),
  (288, .aload_n 2, 1, 0, 0, 0, []),
  (289, .aload_n 0, 1, 0, 0, 0, []),
  (290, .iload_n 3, 1, 0, 0, 0, []),
  (291, .iconst 1, 1, 0, 0, 0, []),
  (292, .iadd, 1, 0, 0, 0, []),
  (293, .iaload, 1, 0, 0, 0, []),
  (294, .aload_n 0, 1, 0, 0, 0, []),
  (295, .iload_n 3, 1, 0, 0, 0, []),
  (296, .iconst 2, 1, 0, 0, 0, []),
  (297, .iadd, 1, 0, 0, 0, []),
  (298, .iaload, 1, 0, 0, 0, []),
  (299, .aload_n 0, 1, 0, 0, 0, []),
  (300, .iload_n 3, 1, 0, 0, 0, []),
  (301, .iconst 3, 1, 0, 0, 0, []),
  (302, .iadd, 1, 0, 0, 0, []),
  (303, .iaload, 1, 0, 0, 0, []),
  (304, .invokevirtual 32, 3, 149, 12, 0, [4, 0, 0, 1, 5]),
  (307, .if_icmp .eq 614, 3, 629, 0, 0, []),
  (310, .iconst 0, 1, 0, 0, 0, []),
  (311, .ireturn, 1, 1, 0, 0, []),
  (312, .aload_n 1, 1, 0, 0, 0, []),
  (313, .aload_n 0, 1, 0, 0, 0, []),
  (314, .iload_n 3, 1, 0, 0, 0, []),
  (315, .iconst 1, 1, 0, 0, 0, []),
  (316, .iadd, 1, 0, 0, 0, []),
  (317, .iaload, 1, 0, 0, 0, []),
  (318, .aload_n 0, 1, 0, 0, 0, []),
  (319, .iload_n 3, 1, 0, 0, 0, []),
  (320, .iconst 2, 1, 0, 0, 0, []),
  (321, .iadd, 1, 0, 0, 0, []),
  (322, .iaload, 1, 0, 0, 0, []),
  (323, .ifCond .eq 7, 3, 174, 0, 0, []),
  (326, .iconst 1, 1, 0, 0, 0, []),
  (327, .goto 4, 3, 175, 0, 0, []),
  (330, .iconst 0, 1, 0, 0, 0, []),
  (331, .invokevirtual 33, 3, 114, 11, 0, [3, 0, 0, 1, 4]),
  (334, .aload_n 2, 1, 0, 0, 0, []),
  (335, .aload_n 0, 1, 0, 0, 0, []),
  (336, .iload_n 3, 1, 0, 0, 0, []),
  (337, .iconst 1, 1, 0, 0, 0, []),
  (338, .iadd, 1, 0, 0, 0, []),
  (339, .iaload, 1, 0, 0, 0, []),
  (340, .aload_n 0, 1, 0, 0, 0, []),
  (341, .iload_n 3, 1, 0, 0, 0, []),
  (342, .iconst 2, 1, 0, 0, 0, []),
  (343, .iadd, 1, 0, 0, 0, []),
  (344, .iaload, 1, 0, 0, 0, []),
  (345, .ifCond .eq 7, 3, 190, 0, 0, []),
  (348, .iconst 1, 1, 0, 0, 0, []),
  (349, .goto 4, 3, 191, 0, 0, []),
  (352, .iconst 0, 1, 0, 0, 0, []),
  (353, .invokevirtual 37, 3, 150, 12, 0, [3, 0, 0, 1, 4]),
  (356, .if_icmp .eq 565, 3, 629, 0, 0, []),
  (359, .iconst 0, 1, 0, 0, 0, []),
  (360, .ireturn, 1, 1, 0, 0, []),
  (361, .aload_n 1, 1, 0, 0, 0, []),
  (362, .aload_n 0, 1, 0, 0, 0, []),
  (363, .iload_n 3, 1, 0, 0, 0, []),
  (364, .iconst 1, 1, 0, 0, 0, []),
  (365, .iadd, 1, 0, 0, 0, []),
  (366, .iaload, 1, 0, 0, 0, []),
  (367, .aload_n 0, 1, 0, 0, 0, []),
  (368, .iload_n 3, 1, 0, 0, 0, []),
  (369, .iconst 2, 1, 0, 0, 0, []),
  (370, .iadd, 1, 0, 0, 0, []),
  (371, .iaload, 1, 0, 0, 0, []),
  (372, .invokevirtual 38, 3, 116, 11, 0, [3, 0, 0, 1, 3]),
  (375, .aload_n 2, 1, 0, 0, 0, []),
  (376, .aload_n 0, 1, 0, 0, 0, []),
  (377, .iload_n 3, 1, 0, 0, 0, []),
  (378, .iconst 1, 1, 0, 0, 0, []),
  (379, .iadd, 1, 0, 0, 0, []),
  (380, .iaload, 1, 0, 0, 0, []),
  (381, .aload_n 0, 1, 0, 0, 0, []),
  (382, .iload_n 3, 1, 0, 0, 0, []),
  (383, .iconst 2, 1, 0, 0, 0, []),
  (384, .iadd, 1, 0, 0, 0, []),
  (385, .iaload, 1, 0, 0, 0, []),
  (386, .invokevirtual 41, 3, 152, 12, 0, [3, 0, 0, 1, 4]),
  (389, .if_icmp .eq 532, 3, 629, 0, 0, []),
  (392, .iconst 0, 1, 0, 0, 0, []),
  (393, .ireturn, 1, 1, 0, 0, []),
  (394, .aload_n 1, 1, 0, 0, 0, []),
  (395, .aload_n 0, 1, 0, 0, 0, []),
  (396, .iload_n 3, 1, 0, 0, 0, []),
  (397, .iconst 1, 1, 0, 0, 0, []),
  (398, .iadd, 1, 0, 0, 0, []),
  (399, .iaload, 1, 0, 0, 0, []),
  (400, .aload_n 0, 1, 0, 0, 0, []),
  (401, .iload_n 3, 1, 0, 0, 0, []),
  (402, .iconst 2, 1, 0, 0, 0, []),
  (403, .iadd, 1, 0, 0, 0, []),
  (404, .iaload, 1, 0, 0, 0, []),
  (405, .invokevirtual 42, 3, 117, 11, 0, [3, 0, 0, 1, 4]),
  (408, .aload_n 2, 1, 0, 0, 0, []),
  (409, .aload_n 0, 1, 0, 0, 0, []),
  (410, .iload_n 3, 1, 0, 0, 0, []),
  (411, .iconst 1, 1, 0, 0, 0, []),
  (412, .iadd, 1, 0, 0, 0, []),
  (413, .iaload, 1, 0, 0, 0, []),
  (414, .aload_n 0, 1, 0, 0, 0, []),
  (415, .iload_n 3, 1, 0, 0, 0, []),
  (416, .iconst 2, 1, 0, 0, 0, []),
  (417, .iadd, 1, 0, 0, 0, []),
  (418, .iaload, 1, 0, 0, 0, []),
  (419, .invokevirtual 45, 3, 157, 12, 0, [3, 0, 0, 1, 5]),
  (422, .if_icmp .eq 499, 3, 629, 0, 0, []),
  (425, .iconst 0, 1, 0, 0, 0, []),
  (426, .ireturn, 1, 1, 0, 0, []),
  (427, .aload_n 1, 1, 0, 0, 0, []),
  (428, .aload_n 0, 1, 0, 0, 0, []),
  (429, .iload_n 3, 1, 0, 0, 0, []),
  (430, .iconst 1, 1, 0, 0, 0, []),
  (431, .iadd, 1, 0, 0, 0, []),
  (432, .iaload, 1, 0, 0, 0, []),
  (433, .aload_n 0, 1, 0, 0, 0, []),
  (434, .iload_n 3, 1, 0, 0, 0, []),
  (435, .iconst 2, 1, 0, 0, 0, []),
  (436, .iadd, 1, 0, 0, 0, []),
  (437, .iaload, 1, 0, 0, 0, []),
  (438, .invokevirtual 46, 3, 118, 11, 0, [3, 0, 0, 1, 3]),
  (441, .aload_n 2, 1, 0, 0, 0, []),
  (442, .aload_n 0, 1, 0, 0, 0, []),
  (443, .iload_n 3, 1, 0, 0, 0, []),
  (444, .iconst 1, 1, 0, 0, 0, []),
  (445, .iadd, 1, 0, 0, 0, []),
  (446, .iaload, 1, 0, 0, 0, []),
  (447, .aload_n 0, 1, 0, 0, 0, []),
  (448, .iload_n 3, 1, 0, 0, 0, []),
  (449, .iconst 2, 1, 0, 0, 0, []),
  (450, .iadd, 1, 0, 0, 0, []),
  (451, .iaload, 1, 0, 0, 0, []),
  (452, .invokevirtual 49, 3, 158, 12, 0, [3, 0, 0, 1, 4]),
  (455, .if_icmp .eq 466, 3, 629, 0, 0, []),
  (458, .iconst 0, 1, 0, 0, 0, []),
  (459, .ireturn, 1, 1, 0, 0, []),
  (460, .aload_n 1, 1, 0, 0, 0, []),
  (461, .aload_n 0, 1, 0, 0, 0, []),
  (462, .iload_n 3, 1, 0, 0, 0, []),
  (463, .iconst 1, 1, 0, 0, 0, []),
  (464, .iadd, 1, 0, 0, 0, []),
  (465, .iaload, 1, 0, 0, 0, []),
  (466, .aload_n 0, 1, 0, 0, 0, []),
  (467, .iload_n 3, 1, 0, 0, 0, []),
  (468, .iconst 2, 1, 0, 0, 0, []),
  (469, .iadd, 1, 0, 0, 0, []),
  (470, .iaload, 1, 0, 0, 0, []),
  (471, .invokevirtual 50, 3, 119, 11, 0, [3, 0, 0, 1, 4]),
  (474, .aload_n 2, 1, 0, 0, 0, []),
  (475, .aload_n 0, 1, 0, 0, 0, []),
  (476, .iload_n 3, 1, 0, 0, 0, []),
  (477, .iconst 1, 1, 0, 0, 0, []),
  (478, .iadd, 1, 0, 0, 0, []),
  (479, .iaload, 1, 0, 0, 0, []),
  (480, .aload_n 0, 1, 0, 0, 0, []),
  (481, .iload_n 3, 1, 0, 0, 0, []),
  (482, .iconst 2, 1, 0, 0, 0, []),
  (483, .iadd, 1, 0, 0, 0, []),
  (484, .iaload, 1, 0, 0, 0, []),
  (485, .invokevirtual 53, 3, 172, 12, 0, [3, 0, 0, 1, 4]),
  (488, .if_icmp .eq 433, 3, 629, 0, 0, []),
  (491, .iconst 0, 1, 0, 0, 0, []),
  (492, .ireturn, 1, 1, 0, 0, []),
  (493, .aload_n 1, 1, 0, 0, 0, []),
  (494, .invokevirtual 54, 3, 120, 11, 0, [1, 0, 0, 1, 1]),
  (497, .aload_n 2, 1, 0, 0, 0, []),
  (498, .invokevirtual 57, 3, 154, 12, 0, [1, 0, 0, 1, 2]),
  (501, .if_icmp .eq 420, 3, 629, 0, 0, []),
  (504, .iconst 0, 1, 0, 0, 0, []),
  (505, .ireturn, 1, 1, 0, 0, []),
  (506, .aload_n 1, 1, 0, 0, 0, []),
  (507, .aload_n 0, 1, 0, 0, 0, []),
  (508, .iload_n 3, 1, 0, 0, 0, []),
  (509, .iconst 1, 1, 0, 0, 0, []),
  (510, .iadd, 1, 0, 0, 0, []),
  (511, .iaload, 1, 0, 0, 0, []),
  (512, .aload_n 0, 1, 0, 0, 0, []),
  (513, .iload_n 3, 1, 0, 0, 0, []),
  (514, .iconst 2, 1, 0, 0, 0, []),
  (515, .iadd, 1, 0, 0, 0, []),
  (516, .iaload, 1, 0, 0, 0, []),
  (517, .invokevirtual 58, 3, 122, 11, 0, [3, 0, 0, 1, 4]),
  (520, .aload_n 2, 1, 0, 0, 0, []),
  (521, .aload_n 0, 1, 0, 0, 0, []),
  (522, .iload_n 3, 1, 0, 0, 0, []),
  (523, .iconst 1, 1, 0, 0, 0, []),
  (524, .iadd, 1, 0, 0, 0, []),
  (525, .iaload, 1, 0, 0, 0, []),
  (526, .aload_n 0, 1, 0, 0, 0, []),
  (527, .iload_n 3, 1, 0, 0, 0, []),
  (528, .iconst 2, 1, 0, 0, 0, []),
  (529, .iadd, 1, 0, 0, 0, []),
  (530, .iaload, 1, 0, 0, 0, []),
  (531, .invokevirtual 61, 3, 173, 12, 0, [3, 0, 0, 1, 5]),
  (534, .if_icmp .eq 387, 3, 629, 0, 0, []),
  (537, .iconst 0, 1, 0, 0, 0, []),
  (538, .ireturn, 1, 1, 0, 0, []),
  (539, .aload_n 1, 1, 0, 0, 0, []),
  (540, .aload_n 0, 1, 0, 0, 0, []),
  (541, .iload_n 3, 1, 0, 0, 0, []),
  (542, .iconst 1, 1, 0, 0, 0, []),
  (543, .iadd, 1, 0, 0, 0, []),
  (544, .iaload, 1, 0, 0, 0, []),
  (545, .aload_n 0, 1, 0, 0, 0, []),
  (546, .iload_n 3, 1, 0, 0, 0, []),
  (547, .iconst 2, 1, 0, 0, 0, []),
  (548, .iadd, 1, 0, 0, 0, []),
  (549, .iaload, 1, 0, 0, 0, []),
  (550, .invokevirtual 62, 3, 123, 11, 0, [3, 0, 0, 1, 3]),
  (553, .aload_n 2, 1, 0, 0, 0, []),
  (554, .aload_n 0, 1, 0, 0, 0, []),
  (555, .iload_n 3, 1, 0, 0, 0, []),
  (556, .iconst 1, 1, 0, 0, 0, []),
  (557, .iadd, 1, 0, 0, 0, []),
  (558, .iaload, 1, 0, 0, 0, []),
  (559, .aload_n 0, 1, 0, 0, 0, []),
  (560, .iload_n 3, 1, 0, 0, 0, []),
  (561, .iconst 2, 1, 0, 0, 0, []),
  (562, .iadd, 1, 0, 0, 0, []),
  (563, .iaload, 1, 0, 0, 0, []),
  (564, .invokevirtual 65, 3, 176, 12, 0, [3, 0, 0, 1, 3]),
  (567, .if_icmp .eq 354, 3, 629, 0, 0, []),
  (570, .iconst 0, 1, 0, 0, 0, []),
  (571, .ireturn, 1, 1, 0, 0, []),
  (572, .aload_n 1, 1, 0, 0, 0, []),
  (573, .aload_n 0, 1, 0, 0, 0, []),
  (574, .iload_n 3, 1, 0, 0, 0, []),
  (575, .iconst 1, 1, 0, 0, 0, []),
  (576, .iadd, 1, 0, 0, 0, []),
  (577, .iaload, 1, 0, 0, 0, []),
  (578, .invokevirtual 66, 3, 124, 11, 0, [2, 0, 0, 1, 2]),
  (581, .aload_n 2, 1, 0, 0, 0, []),
  (582, .aload_n 0, 1, 0, 0, 0, []),
  (583, .iload_n 3, 1, 0, 0, 0, []),
  (584, .iconst 1, 1, 0, 0, 0, []),
  (585, .iadd, 1, 0, 0, 0, []),
  (586, .iaload, 1, 0, 0, 0, []),
  (587, .invokevirtual 70, 3, 183, 12, 0, [2, 0, 0, 1, 2]),
  (590, .if_icmp .eq 331, 3, 629, 0, 0, []),
  (593, .iconst 0, 1, 0, 0, 0, []),
  (594, .ireturn, 1, 1, 0, 0, []),
  (595, .aload_n 1, 1, 0, 0, 0, []),
  (596, .aload_n 0, 1, 0, 0, 0, []),
  (597, .iload_n 3, 1, 0, 0, 0, []),
  (598, .iconst 1, 1, 0, 0, 0, []),
  (599, .iadd, 1, 0, 0, 0, []),
  (600, .iaload, 1, 0, 0, 0, []),
  (601, .aload_n 0, 1, 0, 0, 0, []),
  (602, .iload_n 3, 1, 0, 0, 0, []),
  (603, .iconst 2, 1, 0, 0, 0, []),
  (604, .iadd, 1, 0, 0, 0, []),
  (605, .iaload, 1, 0, 0, 0, []),
  (606, .invokevirtual 71, 3, 125, 11, 0, [3, 0, 0, 1, 3]),
  (609, .aload_n 2, 1, 0, 0, 0, []),
  (610, .aload_n 0, 1, 0, 0, 0, []),
  (611, .iload_n 3, 1, 0, 0, 0, []),
  (612, .iconst 1, 1, 0, 0, 0, []),
  (613, .iadd, 1, 0, 0, 0, []),
  (614, .iaload, 1, 0, 0, 0, []),
  (615, .aload_n 0, 1, 0, 0, 0, []),
  (616, .iload_n 3, 1, 0, 0, 0, []),
  (617, .iconst 2, 1, 0, 0, 0, []),
  (618, .iadd, 1, 0, 0, 0, []),
  (619, .iaload, 1, 0, 0, 0, []),
  (620, .invokevirtual 74, 3, 184, 12, 0, [3, 0, 0, 1, 7]),
  (623, .if_icmp .eq 298, 3, 629, 0, 0, []),
  (626, .iconst 0, 1, 0, 0, 0, []),
  (627, .ireturn, 1, 1, 0, 0, []),
  (628, .aload_n 1, 1, 0, 0, 0, []),
  (629, .aload_n 0, 1, 0, 0, 0, []),
  (630, .iload_n 3, 1, 0, 0, 0, []),
  (631, .iconst 1, 1, 0, 0, 0, []),
  (632, .iadd, 1, 0, 0, 0, []),
  (633, .iaload, 1, 0, 0, 0, []),
  (634, .invokevirtual 75, 3, 126, 11, 0, [2, 0, 0, 1, 2]),
  (637, .aload_n 2, 1, 0, 0, 0, []),
  (638, .aload_n 0, 1, 0, 0, 0, []),
  (639, .iload_n 3, 1, 0, 0, 0, []),
  (640, .iconst 1, 1, 0, 0, 0, []),
  (641, .iadd, 1, 0, 0, 0, []),
  (642, .iaload, 1, 0, 0, 0, []),
  (643, .invokevirtual 78, 3, 188, 12, 0, [2, 0, 0, 1, 6]),
  (646, .if_icmp .eq 275, 3, 629, 0, 0, []),
  (649, .iconst 0, 1, 0, 0, 0, []),
  (650, .ireturn, 1, 1, 0, 0, []),
  (651, .aload_n 1, 1, 0, 0, 0, []),
  (652, .aload_n 0, 1, 0, 0, 0, []),
  (653, .iload_n 3, 1, 0, 0, 0, []),
  (654, .iconst 1, 1, 0, 0, 0, []),
  (655, .iadd, 1, 0, 0, 0, []),
  (656, .iaload, 1, 0, 0, 0, []),
  (657, .invokevirtual 79, 3, 127, 11, 0, [2, 0, 0, 1, 2]),
  (660, .aload_n 2, 1, 0, 0, 0, []),
  (661, .aload_n 0, 1, 0, 0, 0, []),
  (662, .iload_n 3, 1, 0, 0, 0, []),
  (663, .iconst 1, 1, 0, 0, 0, []),
  (664, .iadd, 1, 0, 0, 0, []),
  (665, .iaload, 1, 0, 0, 0, []),
  (666, .invokevirtual 82, 3, 189, 12, 0, [2, 0, 0, 1, 7]),
  (669, .if_icmp .eq 252, 3, 629, 0, 0, []),
  (672, .iconst 0, 1, 0, 0, 0, []),
  (673, .ireturn, 1, 1, 0, 0, []),
  (674, .aload_n 1, 1, 0, 0, 0, []),
  (675, .aload_n 0, 1, 0, 0, 0, []),
  (676, .iload_n 3, 1, 0, 0, 0, []),
  (677, .iconst 1, 1, 0, 0, 0, []),
  (678, .iadd, 1, 0, 0, 0, []),
  (679, .iaload, 1, 0, 0, 0, []),
  (680, .i2l, 1, 0, 0, 0, []),
  (681, .bipush 32, 2, 0, 0, 0, []),
  (683, .lshl, 1, 0, 0, 0, []),
  (684, .aload_n 0, 1, 0, 0, 0, []),
  (685, .iload_n 3, 1, 0, 0, 0, []),
  (686, .iconst 2, 1, 0, 0, 0, []),
  (687, .iadd, 1, 0, 0, 0, []),
  (688, .iaload, 1, 0, 0, 0, []),
  (689, .i2l, 1, 0, 0, 0, []),
  (690, .ldc2_w 83, 3, 0, 0, 4294967295, []),
  (693, .land, 1, 0, 0, 0, []),
  (694, .lor, 1, 0, 0, 0, []),
  (695, .aload_n 0, 1, 0, 0, 0, []),
  (696, .iload_n 3, 1, 0, 0, 0, []),
  (697, .iconst 3, 1, 0, 0, 0, []),
  (698, .iadd, 1, 0, 0, 0, []),
  (699, .iaload, 1, 0, 0, 0, []),
  (700, .invokevirtual 85, 3, 128, 11, 0, [3, 0, 0, 1, 5]),
  (703, .aload_n 2, 1, 0, 0, 0, []),
  (704, .aload_n 0, 1, 0, 0, 0, []),
  (705, .iload_n 3, 1, 0, 0, 0, []),
  (706, .iconst 1, 1, 0, 0, 0, []),
  (707, .iadd, 1, 0, 0, 0, []),
  (708, .iaload, 1, 0, 0, 0, []),
  (709, .i2l, 1, 0, 0, 0, []),
  (710, .bipush 32, 2, 0, 0, 0, []),
  (712, .lshl, 1, 0, 0, 0, []),
  (713, .aload_n 0, 1, 0, 0, 0, []),
  (714, .iload_n 3, 1, 0, 0, 0, []),
  (715, .iconst 2, 1, 0, 0, 0, []),
  (716, .iadd, 1, 0, 0, 0, []),
  (717, .iaload, 1, 0, 0, 0, []),
  (718, .i2l, 1, 0, 0, 0, []),
  (719, .ldc2_w 83, 3, 0, 0, 4294967295, []),
  (722, .land, 1, 0, 0, 0, []),
  (723, .lor, 1, 0, 0, 0, []),
  (724, .aload_n 0, 1, 0, 0, 0, []),
  (725, .iload_n 3, 1, 0, 0, 0, []),
  (726, .iconst 3, 1, 0, 0, 0, []),
  (727, .iadd, 1, 0, 0, 0, []),
  (728, .iaload, 1, 0, 0, 0, []),
  (729, .invokevirtual 89, 3, 190, 12, 0, [3, 0, 0, 1, 5]),
  (732, .if_icmp .eq 189, 3, 629, 0, 0, []),
  (735, .iconst 0, 1, 0, 0, 0, []),
  (736, .ireturn, 1, 1, 0, 0, []),
  (737, .aload_n 1, 1, 0, 0, 0, []),
  (738, .invokevirtual 90, 3, 129, 11, 0, [1, 0, 0, 1, 2]),
  (741, .aload_n 2, 1, 0, 0, 0, []),
  (742, .invokevirtual 93, 3, 191, 12, 0, [1, 0, 0, 1, 2]),
  (745, .if_icmp .eq 176, 3, 629, 0, 0, []),
  (748, .iconst 0, 1, 0, 0, 0, []),
  (749, .ireturn, 1, 1, 0, 0, []),
  (750, .aload_n 1, 1, 0, 0, 0, []),
  (751, .aload_n 0, 1, 0, 0, 0, []),
  (752, .iload_n 3, 1, 0, 0, 0, []),
  (753, .iconst 1, 1, 0, 0, 0, []),
  (754, .iadd, 1, 0, 0, 0, []),
  (755, .iaload, 1, 0, 0, 0, []),
  (756, .aload_n 0, 1, 0, 0, 0, []),
  (757, .iload_n 3, 1, 0, 0, 0, []),
  (758, .iconst 2, 1, 0, 0, 0, []),
  (759, .iadd, 1, 0, 0, 0, []),
  (760, .iaload, 1, 0, 0, 0, []),
  (761, .invokevirtual 94, 3, 131, 11, 0, [3, 0, 0, 1, 3]),
  (764, .aload_n 2, 1, 0, 0, 0, []),
  (765, .aload_n 0, 1, 0, 0, 0, []),
  (766, .iload_n 3, 1, 0, 0, 0, []),
  (767, .iconst 1, 1, 0, 0, 0, []),
  (768, .iadd, 1, 0, 0, 0, []),
  (769, .iaload, 1, 0, 0, 0, []),
  (770, .aload_n 0, 1, 0, 0, 0, []),
  (771, .iload_n 3, 1, 0, 0, 0, []),
  (772, .iconst 2, 1, 0, 0, 0, []),
  (773, .iadd, 1, 0, 0, 0, []),
  (774, .iaload, 1, 0, 0, 0, []),
  (775, .invokevirtual 97, 3, 199, 12, 0, [3, 0, 0, 1, 4]),
  (778, .if_icmp .eq 143, 3, 629, 0, 0, []),
  (781, .iconst 0, 1, 0, 0, 0, []),
  (782, .ireturn, 1, 1, 0, 0, []),
  (783, .aload_n 1, 1, 0, 0, 0, []),
  (784, .aload_n 0, 1, 0, 0, 0, []),
  (785, .iload_n 3, 1, 0, 0, 0, []),
  (786, .iconst 1, 1, 0, 0, 0, []),
  (787, .iadd, 1, 0, 0, 0, []),
  (788, .iaload, 1, 0, 0, 0, []),
  (789, .aload_n 0, 1, 0, 0, 0, []),
  (790, .iload_n 3, 1, 0, 0, 0, []),
  (791, .iconst 2, 1, 0, 0, 0, []),
  (792, .iadd, 1, 0, 0, 0, []),
  (793, .iaload, 1, 0, 0, 0, []),
  (794, .invokevirtual 98, 3, 133, 11, 0, [3, 0, 0, 1, 4]),
  (797, .aload_n 2, 1, 0, 0, 0, []),
  (798, .aload_n 0, 1, 0, 0, 0, []),
  (799, .iload_n 3, 1, 0, 0, 0, []),
  (800, .iconst 1, 1, 0, 0, 0, []),
  (801, .iadd, 1, 0, 0, 0, []),
  (802, .iaload, 1, 0, 0, 0, []),
  (803, .aload_n 0, 1, 0, 0, 0, []),
  (804, .iload_n 3, 1, 0, 0, 0, []),
  (805, .iconst 2, 1, 0, 0, 0, []),
  (806, .iadd, 1, 0, 0, 0, []),
  (807, .iaload, 1, 0, 0, 0, []),
  (808, .invokevirtual 101, 3, 200, 12, 0, [3, 0, 0, 1, 3]),
  (811, .if_icmp .eq 110, 3, 629, 0, 0, []),
  (814, .iconst 0, 1, 0, 0, 0, []),
  (815, .ireturn, 1, 1, 0, 0, []),
  (816, .aload_n 1, 1, 0, 0, 0, []),
  (817, .aload_n 0, 1, 0, 0, 0, []),
  (818, .iload_n 3, 1, 0, 0, 0, []),
  (819, .iconst 1, 1, 0, 0, 0, []),
  (820, .iadd, 1, 0, 0, 0, []),
  (821, .iaload, 1, 0, 0, 0, []),
  (822, .aload_n 0, 1, 0, 0, 0, []),
  (823, .iload_n 3, 1, 0, 0, 0, []),
  (824, .iconst 2, 1, 0, 0, 0, []),
  (825, .iadd, 1, 0, 0, 0, []),
  (826, .iaload, 1, 0, 0, 0, []),
  (827, .invokevirtual 102, 3, 134, 11, 0, [3, 0, 0, 1, 4]),
  (830, .aload_n 2, 1, 0, 0, 0, []),
  (831, .aload_n 0, 1, 0, 0, 0, []),
  (832, .iload_n 3, 1, 0, 0, 0, []),
  (833, .iconst 1, 1, 0, 0, 0, []),
  (834, .iadd, 1, 0, 0, 0, []),
  (835, .iaload, 1, 0, 0, 0, []),
  (836, .aload_n 0, 1, 0, 0, 0, []),
  (837, .iload_n 3, 1, 0, 0, 0, []),
  (838, .iconst 2, 1, 0, 0, 0, []),
  (839, .iadd, 1, 0, 0, 0, []),
  (840, .iaload, 1, 0, 0, 0, []),
  (841, .invokevirtual 105, 3, 201, 12, 0, [3, 0, 0, 1, 3]),
  (844, .if_icmp .eq 77, 3, 629, 0, 0, []),
  (847, .iconst 0, 1, 0, 0, 0, []),
  (848, .ireturn, 1, 1, 0, 0, []),
  (849, .aload_n 1, 1, 0, 0, 0, []),
  (850, .invokevirtual 106, 3, 135, 11, 0, [1, 0, 0, 1, 1]),
  (853, .aload_n 2, 1, 0, 0, 0, []),
  (854, .invokevirtual 109, 3, 202, 12, 0, [1, 0, 0, 1, 2]),
  (857, .if_icmp .eq 64, 3, 629, 0, 0, []),
  (860, .iconst 0, 1, 0, 0, 0, []),
  (861, .ireturn, 1, 1, 0, 0, []),
  (862, .aload_n 1, 1, 0, 0, 0, []),
  (863, .aload_n 0, 1, 0, 0, 0, []),
  (864, .iload_n 3, 1, 0, 0, 0, []),
  (865, .iconst 1, 1, 0, 0, 0, []),
  (866, .iadd, 1, 0, 0, 0, []),
  (867, .iaload, 1, 0, 0, 0, []),
  (868, .invokevirtual 110, 3, 136, 11, 0, [2, 0, 0, 1, 2]),
  (871, .aload_n 2, 1, 0, 0, 0, []),
  (872, .aload_n 0, 1, 0, 0, 0, []),
  (873, .iload_n 3, 1, 0, 0, 0, []),
  (874, .iconst 1, 1, 0, 0, 0, []),
  (875, .iadd, 1, 0, 0, 0, []),
  (876, .iaload, 1, 0, 0, 0, []),
  (877, .invokevirtual 113, 3, 203, 12, 0, [2, 0, 0, 1, 4]),
  (880, .if_icmp .eq 41, 3, 629, 0, 0, []),
  (883, .iconst 0, 1, 0, 0, 0, []),
  (884, .ireturn, 1, 1, 0, 0, []),
  (885, .aload_n 1, 1, 0, 0, 0, []),
  (886, .invokevirtual 114, 3, 137, 11, 0, [1, 0, 0, 1, 2]),
  (889, .aload_n 2, 1, 0, 0, 0, []),
  (890, .invokevirtual 117, 3, 204, 12, 0, [1, 0, 0, 1, 4]),
  (893, .if_icmp .eq 28, 3, 629, 0, 0, []),
  (896, .iconst 0, 1, 0, 0, 0, []),
  (897, .ireturn, 1, 1, 0, 0, []),
  (898, .aload_n 1, 1, 0, 0, 0, []),
  (899, .aload_n 0, 1, 0, 0, 0, []),
  (900, .iload_n 3, 1, 0, 0, 0, []),
  (901, .iconst 1, 1, 0, 0, 0, []),
  (902, .iadd, 1, 0, 0, 0, []),
  (903, .iaload, 1, 0, 0, 0, []),
  (904, .invokevirtual 118, 3, 138, 11, 0, [2, 0, 0, 1, 2]),
  (907, .aload_n 2, 1, 0, 0, 0, []),
  (908, .aload_n 0, 1, 0, 0, 0, []),
  (909, .iload_n 3, 1, 0, 0, 0, []),
  (910, .iconst 1, 1, 0, 0, 0, []),
  (911, .iadd, 1, 0, 0, 0, []),
  (912, .iaload, 1, 0, 0, 0, []),
  (913, .invokevirtual 121, 3, 205, 12, 0, [2, 0, 0, 1, 2]),
  (916, .if_icmp .eq 5, 3, 629, 0, 0, []),
  (919, .iconst 0, 1, 0, 0, 0, []),
  (920, .ireturn, 1, 1, 0, 0, []),
  (921, .iinc 3 7, 3, 0, 0, 0, []),
  (924, .goto (-906), 3, 10, 0, 0, []),
  (927, .iconst 1, 1, 0, 0, 0, []),
  (928, .ireturn, 1, 1, 0, 0, [])]
def fr_tab : List fr_T := [
  (0, ⟨"FallRows$BestSearch", "<init>", "(LFallRows$Costs;)V"⟩, prog_2_method_1_code, 2, none, k0, { frames := 1, cells := 1, slots := 2304, locals := 20 }, 2, 1),
  (0, ⟨"FallRows$BestSearch", "bitOf", "(I)I"⟩, prog_2_method_2_code, 1, (some .int), k1, { frames := 0, cells := 0, slots := 0, locals := 0 }, 0, 1),
  (2, ⟨"FallRows$Costs", "between", "(II)I"⟩, prog_4_method_4_code, 3, (some .int), k2, { frames := 0, cells := 0, slots := 0, locals := 0 }, 1, 2),
  (0, ⟨"FallRows$BestSearch", "through", "(III)I"⟩, prog_2_method_5_code, 4, (some .int), k3, { frames := 1, cells := 0, slots := 0, locals := 22 }, 1, 3),
  (0, ⟨"FallRows$BestSearch", "leastRest", "(III)I"⟩, prog_2_method_4_code, 7, (some .int), k4, { frames := 2, cells := 0, slots := 0, locals := 45 }, 1, 3),
  (0, ⟨"FallRows$BestSearch", "firstBest", "(II)I"⟩, prog_2_method_6_code, 4, (some .int), k5, { frames := 2, cells := 0, slots := 0, locals := 45 }, 1, 2),
  (0, ⟨"FallRows$BestSearch", "find", "([I)I"⟩, prog_2_method_3_code, 5, (some .int), k6, { frames := 3, cells := 0, slots := 0, locals := 71 }, 1, 1),
  (1, ⟨"FallRows$ChainSearch", "<init>", "(LFallRows$Program;)V"⟩, prog_3_method_1_code, 2, none, k7, { frames := 1, cells := 4, slots := 45, locals := 20 }, 2, 1),
  (7, ⟨"FallRows$Program", "ownBlock", "(II)I"⟩, prog_9_method_6_code, 3, (some .int), k8, { frames := 0, cells := 0, slots := 0, locals := 0 }, 1, 2),
  (7, ⟨"FallRows$Program", "goesOn", "(I)Z"⟩, prog_9_method_12_code, 2, (some .boolean), k9, { frames := 0, cells := 0, slots := 0, locals := 0 }, 1, 1),
  (7, ⟨"FallRows$Program", "countOf", "(II)I"⟩, prog_9_method_8_code, 3, (some .int), k10, { frames := 0, cells := 0, slots := 0, locals := 0 }, 1, 2),
  (1, ⟨"FallRows$ChainSearch", "pull", "(I)I"⟩, prog_3_method_5_code, 5, (some .int), k11, { frames := 1, cells := 0, slots := 0, locals := 22 }, 1, 1),
  (1, ⟨"FallRows$ChainSearch", "greatest", "()I"⟩, prog_3_method_4_code, 5, (some .int), k12, { frames := 2, cells := 0, slots := 0, locals := 46 }, 1, 0),
  (7, ⟨"FallRows$Program", "wayOf", "(II)I"⟩, prog_9_method_7_code, 3, (some .int), k13, { frames := 0, cells := 0, slots := 0, locals := 0 }, 1, 2),
  (1, ⟨"FallRows$ChainSearch", "join", "(II)V"⟩, prog_3_method_6_code, 4, none, k14, { frames := 0, cells := 0, slots := 0, locals := 0 }, 1, 2),
  (1, ⟨"FallRows$ChainSearch", "joinAll", "()V"⟩, prog_3_method_3_code, 4, none, k15, { frames := 3, cells := 0, slots := 0, locals := 70 }, 1, 0),
  (1, ⟨"FallRows$ChainSearch", "place", "(I[I)V"⟩, prog_3_method_7_code, 5, none, k16, { frames := 0, cells := 0, slots := 0, locals := 0 }, 1, 2),
  (1, ⟨"FallRows$ChainSearch", "leadTo", "(I[I)I"⟩, prog_3_method_9_code, 7, (some .int), k17, { frames := 1, cells := 0, slots := 0, locals := 22 }, 1, 2),
  (1, ⟨"FallRows$ChainSearch", "strongest", "([I)I"⟩, prog_3_method_8_code, 6, (some .int), k18, { frames := 2, cells := 0, slots := 0, locals := 48 }, 1, 1),
  (1, ⟨"FallRows$ChainSearch", "find", "(I[I)V"⟩, prog_3_method_2_code, 4, none, k19, { frames := 4, cells := 0, slots := 0, locals := 93 }, 1, 2),
  (2, ⟨"FallRows$Costs", "<init>", "(LFallRows$Program;)V"⟩, prog_4_method_1_code, 2, none, k20, { frames := 1, cells := 1, slots := 90, locals := 20 }, 2, 1),
  (2, ⟨"FallRows$Costs", "priceOf", "(II)I"⟩, prog_4_method_3_code, 5, (some .int), k21, { frames := 1, cells := 0, slots := 0, locals := 22 }, 1, 2),
  (2, ⟨"FallRows$Costs", "load", "(I)V"⟩, prog_4_method_2_code, 5, none, k22, { frames := 2, cells := 0, slots := 0, locals := 46 }, 1, 1),
  (2, ⟨"FallRows$Costs", "weigh", "([I)I"⟩, prog_4_method_5_code, 4, (some .int), k23, { frames := 1, cells := 0, slots := 0, locals := 22 }, 1, 1),
  (2, ⟨"FallRows$Costs", "bound", "()I"⟩, prog_4_method_6_code, 5, (some .int), k24, { frames := 1, cells := 0, slots := 0, locals := 30 }, 1, 0),
  (3, ⟨"FallRows$Layout", "<init>", "(LFallRows$Program;LFallRows$Orders;)V"⟩, prog_5_method_1_code, 3, none, k25, { frames := 1, cells := 9, slots := 480, locals := 20 }, 2, 2),
  (3, ⟨"FallRows$Layout", "disturb", "()V"⟩, prog_5_method_2_code, 1, none, k26, { frames := 0, cells := 0, slots := 0, locals := 0 }, 1, 0),
  (3, ⟨"FallRows$Layout", "lineUpThose", "(ZI)I"⟩, prog_5_method_5_code, 7, (some .int), k27, { frames := 0, cells := 0, slots := 0, locals := 0 }, 1, 2),
  (3, ⟨"FallRows$Layout", "lineUp", "()V"⟩, prog_5_method_4_code, 3, none, k28, { frames := 1, cells := 0, slots := 0, locals := 26 }, 1, 0),
  (3, ⟨"FallRows$Layout", "chooseJumps", "(I)V"⟩, prog_5_method_6_code, 7, none, k29, { frames := 1, cells := 0, slots := 0, locals := 22 }, 1, 1),
  (3, ⟨"FallRows$Layout", "wordsFrom", "(I)I"⟩, prog_5_method_9_code, 1, (some .int), k30, { frames := 0, cells := 0, slots := 0, locals := 0 }, 0, 1),
  (3, ⟨"FallRows$Layout", "slotBytes", "(II)I"⟩, prog_5_method_10_code, 3, (some .int), k31, { frames := 0, cells := 0, slots := 0, locals := 0 }, 1, 2),
  (3, ⟨"FallRows$Layout", "layEnd", "(II)I"⟩, prog_5_method_8_code, 5, (some .int), k32, { frames := 1, cells := 0, slots := 0, locals := 22 }, 1, 2),
  (3, ⟨"FallRows$Layout", "layAll", "()V"⟩, prog_5_method_7_code, 6, none, k33, { frames := 2, cells := 0, slots := 0, locals := 46 }, 1, 0),
  (3, ⟨"FallRows$Layout", "reach", "(I)I"⟩, prog_5_method_11_code, 2, (some .int), k34, { frames := 0, cells := 0, slots := 0, locals := 0 }, 1, 1),
  (3, ⟨"FallRows$Layout", "lengthen", "(I)Z"⟩, prog_5_method_12_code, 4, (some .boolean), k35, { frames := 1, cells := 0, slots := 0, locals := 21 }, 1, 1),
  (3, ⟨"FallRows$Layout", "settle", "()V"⟩, prog_5_method_3_code, 2, none, k36, { frames := 3, cells := 0, slots := 0, locals := 71 }, 1, 0),
  (3, ⟨"FallRows$Layout", "endAddress", "(I)I"⟩, prog_5_method_13_code, 2, (some .int), k37, { frames := 0, cells := 0, slots := 0, locals := 0 }, 1, 1),
  (3, ⟨"FallRows$Layout", "jumpsOf", "(IZ)I"⟩, prog_5_method_14_code, 5, (some .int), k38, { frames := 0, cells := 0, slots := 0, locals := 0 }, 1, 2),
  (3, ⟨"FallRows$Layout", "allJumps", "(Z)I"⟩, prog_5_method_15_code, 4, (some .int), k39, { frames := 1, cells := 0, slots := 0, locals := 24 }, 1, 1),
  (4, ⟨"FallRows$LocalSearch", "<init>", "(LFallRows$Costs;)V"⟩, prog_6_method_1_code, 2, none, k40, { frames := 1, cells := 1, slots := 9, locals := 20 }, 2, 1),
  (4, ⟨"FallRows$LocalSearch", "attempt", "([IIII)V"⟩, prog_6_method_4_code, 6, none, k41, { frames := 1, cells := 0, slots := 0, locals := 60 }, 1, 4),
  (4, ⟨"FallRows$LocalSearch", "improveOnce", "([I)Z"⟩, prog_6_method_3_code, 6, (some .boolean), k42, { frames := 2, cells := 0, slots := 0, locals := 85 }, 1, 1),
  (4, ⟨"FallRows$LocalSearch", "improve", "([I)V"⟩, prog_6_method_2_code, 3, none, k43, { frames := 3, cells := 0, slots := 0, locals := 110 }, 1, 1),
  (5, ⟨"FallRows$Orders", "<init>", "(LFallRows$Program;)V"⟩, prog_7_method_1_code, 2, none, k44, { frames := 1, cells := 4, slots := 214, locals := 20 }, 2, 1),
  (5, ⟨"FallRows$Orders", "put", "(III)V"⟩, prog_7_method_2_code, 4, none, k45, { frames := 0, cells := 0, slots := 0, locals := 0 }, 1, 3),
  (5, ⟨"FallRows$Orders", "append", "(I)V"⟩, prog_7_method_3_code, 2, none, k46, { frames := 1, cells := 0, slots := 0, locals := 23 }, 1, 1),
  (5, ⟨"FallRows$Orders", "nextOf", "(I)I"⟩, prog_7_method_4_code, 4, (some .int), k47, { frames := 0, cells := 0, slots := 0, locals := 0 }, 1, 1),
  (5, ⟨"FallRows$Orders", "shift", "(II)V"⟩, prog_7_method_5_code, 8, none, k48, { frames := 1, cells := 0, slots := 0, locals := 30 }, 1, 2),
  (5, ⟨"FallRows$Orders", "exchange", "(II)V"⟩, prog_7_method_6_code, 5, none, k49, { frames := 1, cells := 0, slots := 0, locals := 23 }, 1, 2),
  (5, ⟨"FallRows$Orders", "readRanks", "(I[I)V"⟩, prog_7_method_7_code, 4, none, k50, { frames := 0, cells := 0, slots := 0, locals := 0 }, 1, 2),
  (5, ⟨"FallRows$Orders", "writeRanks", "(I[I)V"⟩, prog_7_method_8_code, 4, none, k51, { frames := 1, cells := 0, slots := 0, locals := 23 }, 1, 2),
  (5, ⟨"FallRows$Orders", "fallsOn", "(I)Z"⟩, prog_7_method_10_code, 4, (some .boolean), k52, { frames := 1, cells := 0, slots := 0, locals := 23 }, 1, 1),
  (5, ⟨"FallRows$Orders", "falls", "(I)I"⟩, prog_7_method_9_code, 4, (some .int), k53, { frames := 2, cells := 0, slots := 0, locals := 46 }, 1, 1),
  (5, ⟨"FallRows$Orders", "keep", "(I)V"⟩, prog_7_method_11_code, 2, none, k54, { frames := 1, cells := 0, slots := 0, locals := 60 }, 1, 1),
  (5, ⟨"FallRows$Orders", "restore", "()V"⟩, prog_7_method_12_code, 3, none, k55, { frames := 1, cells := 0, slots := 0, locals := 23 }, 1, 0),
  (5, ⟨"FallRows$Orders", "forget", "()V"⟩, prog_7_method_13_code, 1, none, k56, { frames := 0, cells := 0, slots := 0, locals := 0 }, 1, 0),
  (6, ⟨"FallRows$Picture", "<init>", "(LFallRows$Program;LFallRows$Layout;)V"⟩, prog_8_method_1_code, 3, none, k57, { frames := 1, cells := 2, slots := 9800, locals := 20 }, 2, 2),
  (6, ⟨"FallRows$Picture", "byteAt", "(I)I"⟩, prog_8_method_2_code, 2, (some .int), k58, { frames := 0, cells := 0, slots := 0, locals := 0 }, 1, 1),
  (6, ⟨"FallRows$Picture", "signedAt", "(I)I"⟩, prog_8_method_3_code, 2, (some .int), k59, { frames := 1, cells := 0, slots := 0, locals := 21 }, 1, 1),
  (6, ⟨"FallRows$Picture", "wordAt", "(I)I"⟩, prog_8_method_4_code, 2, (some .int), k60, { frames := 1, cells := 0, slots := 0, locals := 21 }, 1, 1),
  (7, ⟨"FallRows$Program", "isBlock", "(I)Z"⟩, prog_9_method_4_code, 2, (some .boolean), k61, { frames := 0, cells := 0, slots := 0, locals := 0 }, 1, 1),
  (6, ⟨"FallRows$Picture", "blockAt", "(I)I"⟩, prog_8_method_5_code, 3, (some .int), k62, { frames := 1, cells := 0, slots := 0, locals := 21 }, 1, 1),
  (6, ⟨"FallRows$Picture", "put", "(I)V"⟩, prog_8_method_13_code, 2, none, k63, { frames := 0, cells := 0, slots := 0, locals := 0 }, 1, 1),
  (6, ⟨"FallRows$Picture", "fillTo", "(II)V"⟩, prog_8_method_12_code, 4, none, k64, { frames := 1, cells := 0, slots := 0, locals := 21 }, 1, 2),
  (6, ⟨"FallRows$Picture", "putWord", "(I)V"⟩, prog_8_method_14_code, 2, none, k65, { frames := 1, cells := 0, slots := 0, locals := 21 }, 1, 1),
  (6, ⟨"FallRows$Picture", "writeTable", "(I)V"⟩, prog_8_method_8_code, 4, none, k66, { frames := 2, cells := 0, slots := 0, locals := 44 }, 1, 1),
  (6, ⟨"FallRows$Picture", "writeJump", "(I)V"⟩, prog_8_method_10_code, 2, none, k67, { frames := 2, cells := 0, slots := 0, locals := 42 }, 1, 1),
  (6, ⟨"FallRows$Picture", "writeTest", "(I)V"⟩, prog_8_method_9_code, 3, none, k68, { frames := 2, cells := 0, slots := 0, locals := 42 }, 1, 1),
  (6, ⟨"FallRows$Picture", "writeBlock", "(I)V"⟩, prog_8_method_7_code, 2, none, k69, { frames := 3, cells := 0, slots := 0, locals := 67 }, 1, 1),
  (6, ⟨"FallRows$Picture", "writeGuard", "(I)V"⟩, prog_8_method_11_code, 2, none, k70, { frames := 2, cells := 0, slots := 0, locals := 42 }, 1, 1),
  (6, ⟨"FallRows$Picture", "refresh", "()V"⟩, prog_8_method_6_code, 2, none, k71, { frames := 4, cells := 0, slots := 0, locals := 92 }, 1, 0),
  (7, ⟨"FallRows$Program", "<init>", "()V"⟩, prog_9_method_1_code, 1, none, k72, { frames := 1, cells := 11, slots := 660, locals := 20 }, 2, 0),
  (7, ⟨"FallRows$Program", "isRoutine", "(I)Z"⟩, prog_9_method_2_code, 2, (some .boolean), k73, { frames := 0, cells := 0, slots := 0, locals := 0 }, 1, 1),
  (7, ⟨"FallRows$Program", "hasBlocks", "(I)Z"⟩, prog_9_method_3_code, 2, (some .boolean), k74, { frames := 1, cells := 0, slots := 0, locals := 21 }, 1, 1),
  (7, ⟨"FallRows$Program", "isBlockOf", "(II)Z"⟩, prog_9_method_5_code, 3, (some .boolean), k75, { frames := 1, cells := 0, slots := 0, locals := 21 }, 1, 2),
  (7, ⟨"FallRows$Program", "addRoutine", "()I"⟩, prog_9_method_9_code, 2, (some .int), k76, { frames := 0, cells := 0, slots := 0, locals := 0 }, 1, 0),
  (7, ⟨"FallRows$Program", "addBlock", "(II)I"⟩, prog_9_method_10_code, 4, (some .int), k77, { frames := 0, cells := 0, slots := 0, locals := 0 }, 1, 2),
  (7, ⟨"FallRows$Program", "tellEnd", "(II[II)V"⟩, prog_9_method_11_code, 6, none, k78, { frames := 0, cells := 0, slots := 0, locals := 0 }, 1, 4),
  (8, ⟨"FallRows$Runner", "<init>", "(LFallRows$Program;LFallRows$Layout;LFallRows$Picture;LFallRows$Tape;)V"⟩, prog_10_method_1_code, 5, none, k79, { frames := 1, cells := 0, slots := 0, locals := 20 }, 2, 4),
  (9, ⟨"FallRows$Tape", "choiceAt", "(I)I"⟩, prog_11_method_3_code, 2, (some .int), k80, { frames := 0, cells := 0, slots := 0, locals := 0 }, 1, 1),
  (8, ⟨"FallRows$Runner", "choose", "(LFallRows$Trace;)I"⟩, prog_10_method_2_code, 3, (some .int), k81, { frames := 1, cells := 0, slots := 0, locals := 21 }, 1, 1),
  (15, ⟨"java/util/Arrays", "fill", "([II)V"⟩, prog_18_method_103_code, 4, none, k82, { frames := 0, cells := 0, slots := 0, locals := 0 }, 0, 2),
  (10, ⟨"FallRows$Trace", "begin", "()V"⟩, prog_12_method_2_code, 1, none, k83, { frames := 1, cells := 0, slots := 0, locals := 23 }, 1, 0),
  (10, ⟨"FallRows$Trace", "pass", "(II)V"⟩, prog_12_method_3_code, 3, none, k84, { frames := 0, cells := 0, slots := 0, locals := 0 }, 1, 2),
  (8, ⟨"FallRows$Runner", "take", "(IILFallRows$Trace;)I"⟩, prog_10_method_6_code, 4, (some .int), k85, { frames := 1, cells := 0, slots := 0, locals := 22 }, 1, 3),
  (10, ⟨"FallRows$Trace", "openCall", "(II)Z"⟩, prog_12_method_5_code, 3, (some .boolean), k86, { frames := 1, cells := 0, slots := 0, locals := 30 }, 1, 2),
  (10, ⟨"FallRows$Trace", "stop", "(I)I"⟩, prog_12_method_4_code, 2, (some .int), k87, { frames := 0, cells := 0, slots := 0, locals := 0 }, 1, 1),
  (8, ⟨"FallRows$Runner", "goBack", "(LFallRows$Trace;)I"⟩, prog_10_method_5_code, 2, (some .int), k88, { frames := 2, cells := 0, slots := 0, locals := 45 }, 1, 1),
  (8, ⟨"FallRows$Runner", "afterBlock", "(ILFallRows$Trace;)I"⟩, prog_10_method_4_code, 3, (some .int), k89, { frames := 3, cells := 0, slots := 0, locals := 66 }, 1, 2),
  (8, ⟨"FallRows$Runner", "runBlocks", "(ILFallRows$Trace;)V"⟩, prog_10_method_3_code, 5, none, k90, { frames := 4, cells := 0, slots := 0, locals := 88 }, 1, 2),
  (8, ⟨"FallRows$Runner", "leave", "(I)Z"⟩, prog_10_method_10_code, 2, (some .boolean), k91, { frames := 0, cells := 0, slots := 0, locals := 0 }, 1, 1),
  (8, ⟨"FallRows$Runner", "readTest", "(LFallRows$Trace;ZII)Z"⟩, prog_10_method_11_code, 6, (some .boolean), k92, { frames := 2, cells := 0, slots := 0, locals := 43 }, 1, 4),
  (8, ⟨"FallRows$Runner", "readTable", "(LFallRows$Trace;)Z"⟩, prog_10_method_12_code, 4, (some .boolean), k93, { frames := 2, cells := 0, slots := 0, locals := 43 }, 1, 1),
  (8, ⟨"FallRows$Runner", "readBack", "(LFallRows$Trace;)Z"⟩, prog_10_method_13_code, 2, (some .boolean), k94, { frames := 1, cells := 0, slots := 0, locals := 21 }, 1, 1),
  (8, ⟨"FallRows$Runner", "readOne", "(LFallRows$Trace;)Z"⟩, prog_10_method_9_code, 3, (some .boolean), k95, { frames := 3, cells := 0, slots := 0, locals := 68 }, 1, 1),
  (8, ⟨"FallRows$Runner", "afterBytes", "(ILFallRows$Trace;)I"⟩, prog_10_method_8_code, 5, (some .int), k96, { frames := 4, cells := 0, slots := 0, locals := 90 }, 1, 2),
  (8, ⟨"FallRows$Runner", "runBytes", "(ILFallRows$Trace;)V"⟩, prog_10_method_7_code, 5, none, k97, { frames := 5, cells := 0, slots := 0, locals := 114 }, 1, 2),
  (9, ⟨"FallRows$Tape", "<init>", "()V"⟩, prog_11_method_1_code, 1, none, k98, { frames := 1, cells := 1, slots := 200, locals := 20 }, 2, 0),
  (9, ⟨"FallRows$Tape", "append", "(I)V"⟩, prog_11_method_2_code, 2, none, k99, { frames := 0, cells := 0, slots := 0, locals := 0 }, 1, 1),
  (10, ⟨"FallRows$Trace", "<init>", "()V"⟩, prog_12_method_1_code, 1, none, k100, { frames := 1, cells := 6, slots := 584, locals := 20 }, 2, 0),
  (10, ⟨"FallRows$Trace", "cost", "()I"⟩, prog_12_method_6_code, 1, (some .int), k101, { frames := 0, cells := 0, slots := 0, locals := 0 }, 1, 0),
  (10, ⟨"FallRows$Trace", "heldPlace", "(II)I"⟩, prog_12_method_8_code, 4, (some .int), k102, { frames := 0, cells := 0, slots := 0, locals := 0 }, 1, 2),
  (10, ⟨"FallRows$Trace", "holdFirst", "(II)V"⟩, prog_12_method_9_code, 4, none, k103, { frames := 0, cells := 0, slots := 0, locals := 0 }, 1, 2),
  (10, ⟨"FallRows$Trace", "missedWith", "(I)I"⟩, prog_12_method_7_code, 6, (some .int), k104, { frames := 1, cells := 0, slots := 0, locals := 30 }, 1, 1),
  (10, ⟨"FallRows$Trace", "agrees", "(LFallRows$Trace;)Z"⟩, prog_12_method_10_code, 3, (some .boolean), k105, { frames := 0, cells := 0, slots := 0, locals := 0 }, 1, 1),
  (11, ⟨"FallRows", "<init>", "()V"⟩, prog_1_method_1_code, 1, none, k106, { frames := 2, cells := 74, slots := 16282, locals := 44 }, 2, 0),
  (11, ⟨"FallRows", "routine", "()I"⟩, prog_1_method_2_code, 1, (some .int), k107, { frames := 1, cells := 0, slots := 0, locals := 21 }, 1, 0),
  (11, ⟨"FallRows", "block", "(II)I"⟩, prog_1_method_3_code, 4, (some .int), k108, { frames := 2, cells := 0, slots := 0, locals := 44 }, 1, 2),
  (11, ⟨"FallRows", "waysOffered", "(I)I"⟩, prog_1_method_9_code, 4, (some .int), k109, { frames := 0, cells := 0, slots := 0, locals := 0 }, 1, 1),
  (11, ⟨"FallRows", "end", "(IIIIII)I"⟩, prog_1_method_4_code, 9, (some .int), k110, { frames := 2, cells := 0, slots := 0, locals := 43 }, 1, 6),
  (11, ⟨"FallRows", "count", "(III)I"⟩, prog_1_method_5_code, 5, (some .int), k111, { frames := 1, cells := 0, slots := 0, locals := 21 }, 1, 3),
  (11, ⟨"FallRows", "isMovable", "(I)Z"⟩, prog_1_method_10_code, 2, (some .boolean), k112, { frames := 1, cells := 0, slots := 0, locals := 21 }, 1, 1),
  (11, ⟨"FallRows", "asNumber", "(Z)I"⟩, prog_1_method_11_code, 1, (some .int), k113, { frames := 0, cells := 0, slots := 0, locals := 0 }, 0, 1),
  (11, ⟨"FallRows", "cold", "(IZ)I"⟩, prog_1_method_6_code, 4, (some .int), k114, { frames := 2, cells := 0, slots := 0, locals := 42 }, 1, 2),
  (11, ⟨"FallRows", "aboutWay", "(II)I"⟩, prog_1_method_8_code, 4, (some .int), k115, { frames := 1, cells := 0, slots := 0, locals := 22 }, 1, 2),
  (11, ⟨"FallRows", "about", "(II)I"⟩, prog_1_method_7_code, 3, (some .int), k116, { frames := 2, cells := 0, slots := 0, locals := 45 }, 1, 2),
  (11, ⟨"FallRows", "move", "(II)I"⟩, prog_1_method_12_code, 4, (some .int), k117, { frames := 2, cells := 0, slots := 0, locals := 81 }, 1, 2),
  (11, ⟨"FallRows", "swap", "(II)I"⟩, prog_1_method_13_code, 3, (some .int), k118, { frames := 2, cells := 0, slots := 0, locals := 81 }, 1, 2),
  (11, ⟨"FallRows", "order", "(II)I"⟩, prog_1_method_14_code, 4, (some .int), k119, { frames := 5, cells := 0, slots := 0, locals := 132 }, 1, 2),
  (11, ⟨"FallRows", "undo", "()I"⟩, prog_1_method_15_code, 1, (some .int), k120, { frames := 2, cells := 0, slots := 0, locals := 45 }, 1, 0),
  (14, ⟨"java/lang/Integer", "bitCount", "(I)I"⟩, prog_15_method_49_code, 1, (some .int), k121, { frames := 0, cells := 0, slots := 0, locals := 0 }, 0, 1),
  (11, ⟨"FallRows", "set", "(II)I"⟩, prog_1_method_16_code, 4, (some .int), k122, { frames := 1, cells := 0, slots := 0, locals := 20 }, 1, 2),
  (11, ⟨"FallRows", "weight", "(II)I"⟩, prog_1_method_17_code, 3, (some .int), k123, { frames := 4, cells := 0, slots := 0, locals := 95 }, 1, 2),
  (11, ⟨"FallRows", "row", "(I)I"⟩, prog_1_method_18_code, 2, (some .int), k124, { frames := 4, cells := 0, slots := 0, locals := 92 }, 1, 1),
  (11, ⟨"FallRows", "laid", "(II)I"⟩, prog_1_method_19_code, 3, (some .int), k125, { frames := 4, cells := 0, slots := 0, locals := 92 }, 1, 2),
  (11, ⟨"FallRows", "image", "(I)I"⟩, prog_1_method_20_code, 2, (some .int), k126, { frames := 5, cells := 0, slots := 0, locals := 113 }, 1, 1),
  (11, ⟨"FallRows", "told", "(I)I"⟩, prog_1_method_21_code, 2, (some .int), k127, { frames := 4, cells := 0, slots := 0, locals := 92 }, 1, 1),
  (11, ⟨"FallRows", "say", "(JI)I"⟩, prog_1_method_22_code, 5, (some .int), k128, { frames := 1, cells := 0, slots := 0, locals := 21 }, 1, 2),
  (11, ⟨"FallRows", "tear", "()I"⟩, prog_1_method_23_code, 2, (some .int), k129, { frames := 0, cells := 0, slots := 0, locals := 0 }, 1, 0),
  (11, ⟨"FallRows", "isSort", "(I)Z"⟩, prog_1_method_31_code, 1, (some .boolean), k130, { frames := 0, cells := 0, slots := 0, locals := 0 }, 0, 1),
  (11, ⟨"FallRows", "run", "(II)I"⟩, prog_1_method_24_code, 3, (some .int), k131, { frames := 6, cells := 0, slots := 0, locals := 138 }, 1, 2),
  (11, ⟨"FallRows", "traceOf", "(I)LFallRows$Trace;"⟩, prog_1_method_32_code, 2, (some (.object "FallRows$Trace")), k132, { frames := 0, cells := 0, slots := 0, locals := 0 }, 1, 1),
  (11, ⟨"FallRows", "ran", "(II)I"⟩, prog_1_method_25_code, 4, (some .int), k133, { frames := 1, cells := 0, slots := 0, locals := 21 }, 1, 2),
  (11, ⟨"FallRows", "passed", "(II)I"⟩, prog_1_method_26_code, 4, (some .int), k134, { frames := 1, cells := 0, slots := 0, locals := 21 }, 1, 2),
  (11, ⟨"FallRows", "learn", "()I"⟩, prog_1_method_27_code, 1, (some .int), k135, { frames := 1, cells := 0, slots := 0, locals := 60 }, 1, 0),
  (11, ⟨"FallRows", "pages", "(I)I"⟩, prog_1_method_28_code, 2, (some .int), k136, { frames := 2, cells := 0, slots := 0, locals := 55 }, 1, 1),
  (11, ⟨"FallRows", "differ", "()I"⟩, prog_1_method_29_code, 2, (some .int), k137, { frames := 6, cells := 0, slots := 0, locals := 138 }, 1, 0),
  (11, ⟨"FallRows", "has", "(I)I"⟩, prog_1_method_30_code, 2, (some .int), k138, { frames := 1, cells := 0, slots := 0, locals := 20 }, 1, 1),
  (12, ⟨"FallRowsModel", "<init>", "()V"⟩, prog_14_method_1_code, 1, none, k139, { frames := 1, cells := 43, slots := 8055, locals := 20 }, 2, 0),
  (12, ⟨"FallRowsModel", "in", "(III)Z"⟩, prog_14_method_3_code, 3, (some .boolean), k140, { frames := 0, cells := 0, slots := 0, locals := 0 }, 0, 3),
  (12, ⟨"FallRowsModel", "isRoutine", "(I)Z"⟩, prog_14_method_4_code, 2, (some .boolean), k141, { frames := 1, cells := 0, slots := 0, locals := 22 }, 1, 1),
  (12, ⟨"FallRowsModel", "isBlock", "(I)Z"⟩, prog_14_method_5_code, 2, (some .boolean), k142, { frames := 1, cells := 0, slots := 0, locals := 22 }, 1, 1),
  (12, ⟨"FallRowsModel", "isFirst", "(I)Z"⟩, prog_14_method_6_code, 2, (some .boolean), k143, { frames := 0, cells := 0, slots := 0, locals := 0 }, 1, 1),
  (12, ⟨"FallRowsModel", "routine", "()I"⟩, prog_14_method_7_code, 1, (some .int), k144, { frames := 0, cells := 0, slots := 0, locals := 0 }, 1, 0),
  (12, ⟨"FallRowsModel", "block", "(II)I"⟩, prog_14_method_8_code, 3, (some .int), k145, { frames := 2, cells := 0, slots := 0, locals := 43 }, 1, 2),
  (12, ⟨"FallRowsModel", "isWay", "(II)Z"⟩, prog_14_method_9_code, 3, (some .boolean), k146, { frames := 2, cells := 0, slots := 0, locals := 43 }, 1, 2),
  (12, ⟨"FallRowsModel", "waysTold", "(II)I"⟩, prog_14_method_10_code, 5, (some .int), k147, { frames := 3, cells := 0, slots := 0, locals := 65 }, 1, 2),
  (12, ⟨"FallRowsModel", "end", "(IIIIII)I"⟩, prog_14_method_11_code, 9, (some .int), k148, { frames := 4, cells := 0, slots := 0, locals := 89 }, 1, 6),
  (12, ⟨"FallRowsModel", "count", "(III)I"⟩, prog_14_method_12_code, 5, (some .int), k149, { frames := 2, cells := 0, slots := 0, locals := 43 }, 1, 3),
  (12, ⟨"FallRowsModel", "cold", "(IZ)I"⟩, prog_14_method_13_code, 4, (some .int), k150, { frames := 2, cells := 0, slots := 0, locals := 43 }, 1, 2),
  (12, ⟨"FallRowsModel", "placeOf", "(I)I"⟩, prog_14_method_14_code, 4, (some .int), k151, { frames := 0, cells := 0, slots := 0, locals := 0 }, 1, 1),
  (12, ⟨"FallRowsModel", "about", "(II)I"⟩, prog_14_method_15_code, 4, (some .int), k152, { frames := 2, cells := 0, slots := 0, locals := 43 }, 1, 2),
  (12, ⟨"FallRowsModel", "keeps", "(I)V"⟩, prog_14_method_16_code, 3, none, k153, { frames := 0, cells := 0, slots := 0, locals := 0 }, 1, 1),
  (12, ⟨"FallRowsModel", "undo", "()I"⟩, prog_14_method_17_code, 2, (some .int), k154, { frames := 0, cells := 0, slots := 0, locals := 0 }, 1, 0),
  (12, ⟨"FallRowsModel", "shifts", "(III)V"⟩, prog_14_method_18_code, 6, none, k155, { frames := 0, cells := 0, slots := 0, locals := 0 }, 1, 3),
  (12, ⟨"FallRowsModel", "changes", "(III)V"⟩, prog_14_method_19_code, 5, none, k156, { frames := 0, cells := 0, slots := 0, locals := 0 }, 1, 3),
  (12, ⟨"FallRowsModel", "move", "(II)I"⟩, prog_14_method_20_code, 5, (some .int), k157, { frames := 2, cells := 0, slots := 0, locals := 43 }, 1, 2),
  (12, ⟨"FallRowsModel", "swap", "(II)I"⟩, prog_14_method_21_code, 4, (some .int), k158, { frames := 2, cells := 0, slots := 0, locals := 43 }, 1, 2),
  (12, ⟨"FallRowsModel", "cost", "(II)I"⟩, prog_14_method_22_code, 5, (some .int), k159, { frames := 0, cells := 0, slots := 0, locals := 0 }, 1, 2),
  (12, ⟨"FallRowsModel", "weightOf", "(I)I"⟩, prog_14_method_23_code, 4, (some .int), k160, { frames := 1, cells := 0, slots := 0, locals := 24 }, 1, 1),
  (12, ⟨"FallRowsModel", "makeTable", "(I)V"⟩, prog_14_method_24_code, 9, none, k161, { frames := 1, cells := 0, slots := 0, locals := 24 }, 1, 1),
  (12, ⟨"FallRowsModel", "best", "(I)V"⟩, prog_14_method_25_code, 10, none, k162, { frames := 2, cells := 0, slots := 0, locals := 52 }, 1, 1),
  (12, ⟨"FallRowsModel", "turnsRound", "(III)V"⟩, prog_14_method_26_code, 6, none, k163, { frames := 1, cells := 0, slots := 0, locals := 24 }, 1, 3),
  (12, ⟨"FallRowsModel", "tries", "(IIII)V"⟩, prog_14_method_27_code, 5, none, k164, { frames := 2, cells := 0, slots := 0, locals := 49 }, 1, 4),
  (12, ⟨"FallRowsModel", "takesBack", "(IIII)V"⟩, prog_14_method_28_code, 5, none, k165, { frames := 3, cells := 0, slots := 0, locals := 73 }, 1, 4),
  (12, ⟨"FallRowsModel", "gainsOne", "(I)Z"⟩, prog_14_method_29_code, 6, (some .boolean), k166, { frames := 4, cells := 0, slots := 0, locals := 97 }, 1, 1),
  (12, ⟨"FallRowsModel", "headOf", "(I)I"⟩, prog_14_method_30_code, 3, (some .int), k167, { frames := 0, cells := 0, slots := 0, locals := 0 }, 1, 1),
  (12, ⟨"FallRowsModel", "chainsBy", "(II)Z"⟩, prog_14_method_31_code, 4, (some .boolean), k168, { frames := 0, cells := 0, slots := 0, locals := 0 }, 1, 2),
  (12, ⟨"FallRowsModel", "joins", "(I)V"⟩, prog_14_method_32_code, 8, none, k169, { frames := 1, cells := 0, slots := 0, locals := 23 }, 1, 1),
  (12, ⟨"FallRowsModel", "sumTo", "(II)I"⟩, prog_14_method_33_code, 7, (some .int), k170, { frames := 1, cells := 0, slots := 0, locals := 22 }, 1, 2),
  (12, ⟨"FallRowsModel", "byChains", "(I)V"⟩, prog_14_method_34_code, 7, none, k171, { frames := 2, cells := 0, slots := 0, locals := 50 }, 1, 1),
  (12, ⟨"FallRowsModel", "order", "(II)I"⟩, prog_14_method_35_code, 4, (some .int), k172, { frames := 5, cells := 0, slots := 0, locals := 122 }, 1, 2),
  (12, ⟨"FallRowsModel", "set", "(II)I"⟩, prog_14_method_36_code, 5, (some .int), k173, { frames := 1, cells := 0, slots := 0, locals := 22 }, 1, 2),
  (12, ⟨"FallRowsModel", "boundOf", "(I)I"⟩, prog_14_method_37_code, 8, (some .int), k174, { frames := 1, cells := 0, slots := 0, locals := 24 }, 1, 1),
  (12, ⟨"FallRowsModel", "falls", "(I)I"⟩, prog_14_method_38_code, 7, (some .int), k175, { frames := 0, cells := 0, slots := 0, locals := 0 }, 1, 1),
  (12, ⟨"FallRowsModel", "weight", "(II)I"⟩, prog_14_method_39_code, 3, (some .int), k176, { frames := 2, cells := 0, slots := 0, locals := 52 }, 1, 2),
  (12, ⟨"FallRowsModel", "makeRow", "()V"⟩, prog_14_method_40_code, 5, none, k177, { frames := 0, cells := 0, slots := 0, locals := 0 }, 1, 0),
  (12, ⟨"FallRowsModel", "isTurned", "(I)Z"⟩, prog_14_method_41_code, 2, (some .boolean), k178, { frames := 0, cells := 0, slots := 0, locals := 0 }, 1, 1),
  (12, ⟨"FallRowsModel", "makeJumps", "()V"⟩, prog_14_method_42_code, 5, none, k179, { frames := 1, cells := 0, slots := 0, locals := 21 }, 1, 0),
  (12, ⟨"FallRowsModel", "laysOut", "()V"⟩, prog_14_method_43_code, 4, none, k180, { frames := 0, cells := 0, slots := 0, locals := 0 }, 1, 0),
  (12, ⟨"FallRowsModel", "growsSome", "()Z"⟩, prog_14_method_44_code, 5, (some .boolean), k181, { frames := 1, cells := 0, slots := 0, locals := 22 }, 1, 0),
  (12, ⟨"FallRowsModel", "lays", "()V"⟩, prog_14_method_45_code, 3, none, k182, { frames := 2, cells := 0, slots := 0, locals := 46 }, 1, 0),
  (12, ⟨"FallRowsModel", "row", "(I)I"⟩, prog_14_method_46_code, 2, (some .int), k183, { frames := 1, cells := 0, slots := 0, locals := 24 }, 1, 1),
  (12, ⟨"FallRowsModel", "laid", "(II)I"⟩, prog_14_method_47_code, 7, (some .int), k184, { frames := 3, cells := 0, slots := 0, locals := 68 }, 1, 2),
  (12, ⟨"FallRowsModel", "byteOf", "(II)I"⟩, prog_14_method_48_code, 2, (some .int), k185, { frames := 0, cells := 0, slots := 0, locals := 0 }, 0, 2),
  (12, ⟨"FallRowsModel", "jumpByte", "(IIIII)I"⟩, prog_14_method_49_code, 7, (some .int), k186, { frames := 1, cells := 0, slots := 0, locals := 21 }, 1, 5),
  (12, ⟨"FallRowsModel", "endByte", "(II)I"⟩, prog_14_method_50_code, 7, (some .int), k187, { frames := 2, cells := 0, slots := 0, locals := 47 }, 1, 2),
  (12, ⟨"FallRowsModel", "image", "(I)I"⟩, prog_14_method_51_code, 6, (some .int), k188, { frames := 3, cells := 0, slots := 0, locals := 73 }, 1, 1),
  (12, ⟨"FallRowsModel", "told", "(I)I"⟩, prog_14_method_52_code, 7, (some .int), k189, { frames := 3, cells := 0, slots := 0, locals := 68 }, 1, 1),
  (12, ⟨"FallRowsModel", "say", "(JI)I"⟩, prog_14_method_53_code, 5, (some .int), k190, { frames := 1, cells := 0, slots := 0, locals := 22 }, 1, 2),
  (12, ⟨"FallRowsModel", "tear", "()I"⟩, prog_14_method_54_code, 2, (some .int), k191, { frames := 0, cells := 0, slots := 0, locals := 0 }, 1, 0),
  (12, ⟨"FallRowsModel", "choice", "()I"⟩, prog_14_method_55_code, 2, (some .int), k192, { frames := 0, cells := 0, slots := 0, locals := 0 }, 1, 0),
  (12, ⟨"FallRowsModel", "misses", "(II)Z"⟩, prog_14_method_56_code, 6, (some .boolean), k193, { frames := 0, cells := 0, slots := 0, locals := 0 }, 1, 2),
  (12, ⟨"FallRowsModel", "jumps", "(II)V"⟩, prog_14_method_57_code, 3, none, k194, { frames := 0, cells := 0, slots := 0, locals := 0 }, 1, 2),
  (12, ⟨"FallRowsModel", "tests", "(II)V"⟩, prog_14_method_58_code, 6, none, k195, { frames := 1, cells := 0, slots := 0, locals := 22 }, 1, 2),
  (12, ⟨"FallRowsModel", "wayFor", "(I)I"⟩, prog_14_method_59_code, 2, (some .int), k196, { frames := 1, cells := 0, slots := 0, locals := 21 }, 1, 1),
  (12, ⟨"FallRowsModel", "passes", "(IZ)I"⟩, prog_14_method_60_code, 6, (some .int), k197, { frames := 2, cells := 0, slots := 0, locals := 47 }, 1, 2),
  (12, ⟨"FallRowsModel", "goes", "(IZ)V"⟩, prog_14_method_61_code, 5, none, k198, { frames := 3, cells := 0, slots := 0, locals := 72 }, 1, 2),
  (12, ⟨"FallRowsModel", "run", "(II)I"⟩, prog_14_method_62_code, 4, (some .int), k199, { frames := 4, cells := 0, slots := 0, locals := 96 }, 1, 2),
  (12, ⟨"FallRowsModel", "ran", "(II)I"⟩, prog_14_method_63_code, 3, (some .int), k200, { frames := 1, cells := 0, slots := 0, locals := 22 }, 1, 2),
  (12, ⟨"FallRowsModel", "passed", "(II)I"⟩, prog_14_method_64_code, 3, (some .int), k201, { frames := 1, cells := 0, slots := 0, locals := 22 }, 1, 2),
  (12, ⟨"FallRowsModel", "learn", "()I"⟩, prog_14_method_65_code, 2, (some .int), k202, { frames := 0, cells := 0, slots := 0, locals := 0 }, 1, 0),
  (12, ⟨"FallRowsModel", "pages", "(I)I"⟩, prog_14_method_66_code, 4, (some .int), k203, { frames := 1, cells := 0, slots := 0, locals := 25 }, 1, 1),
  (12, ⟨"FallRowsModel", "differ", "()I"⟩, prog_14_method_67_code, 4, (some .int), k204, { frames := 4, cells := 0, slots := 0, locals := 96 }, 1, 0),
  (12, ⟨"FallRowsModel", "has", "(I)I"⟩, prog_14_method_68_code, 2, (some .int), k205, { frames := 0, cells := 0, slots := 0, locals := 0 }, 1, 1),
  (13, ⟨"FallRowsLaw", "law", "([I)Z"⟩, code, 4, (some .boolean), k206, { frames := 7, cells := 119, slots := 24412, locals := 160 }, 3, 1)]
def fr_lk : List (List (Nat × Nat × Nat × Nat × Int)) := [
  [(3, 3, 0, 0, 0), (0, 9, 0, 1, 0), (0, 15, 0, 0, 0), (1, 37, 2, 0, 0), (1, 33, 1, 0, 0), (5, 40, 0, 0, 1000000000), (0, 19, 2, 2, 0), (1, 41, 3, 0, 0), (7, 44, 0, 0, 0), (1, 25, 4, 0, 0), (1, 29, 5, 0, 0)],
  [(3, 3, 0, 0, 0), (0, 9, 1, 1, 0), (0, 15, 1, 2, 0), (0, 18, 1, 3, 0), (0, 22, 1, 4, 0), (0, 25, 1, 0, 0), (0, 29, 1, 5, 0), (1, 59, 8, 0, 0), (0, 77, 7, 7, 0), (1, 80, 9, 0, 0), (1, 84, 10, 0, 0), (0, 38, 1, 6, 0), (1, 73, 11, 0, 0), (1, 55, 12, 0, 0), (0, 63, 7, 5, 0), (1, 66, 13, 0, 0), (1, 69, 14, 0, 0), (0, 41, 1, 7, 0), (0, 91, 7, 8, 0), (1, 87, 17, 0, 0), (0, 33, 7, 2, 0), (1, 44, 15, 0, 0), (1, 47, 16, 0, 0), (1, 51, 18, 0, 0)],
  [(0, 11, 2, 1, 0), (3, 3, 0, 0, 0), (0, 15, 2, 0, 0), (0, 19, 2, 2, 0), (1, 35, 10, 0, 0), (1, 38, 9, 0, 0), (1, 42, 13, 0, 0), (0, 45, 7, 7, 0), (0, 23, 7, 2, 0), (1, 28, 8, 0, 0), (1, 32, 21, 0, 0), (1, 48, 2, 0, 0), (7, 51, 0, 0, 0)],
  [(3, 3, 0, 0, 0), (0, 9, 3, 2, 0), (0, 15, 3, 3, 0), (0, 18, 3, 4, 0), (0, 21, 3, 5, 0), (0, 24, 3, 6, 0), (0, 27, 3, 7, 0), (0, 30, 3, 8, 0), (0, 34, 3, 9, 0), (0, 37, 3, 10, 0), (0, 40, 3, 0, 0), (0, 44, 3, 1, 0), (0, 48, 3, 11, 0), (0, 52, 3, 12, 0), (0, 56, 3, 17, 0), (0, 59, 3, 18, 0), (0, 88, 7, 0, 0), (0, 91, 7, 2, 0), (0, 94, 5, 1, 0), (0, 99, 7, 10, 0), (1, 84, 27, 0, 0), (1, 102, 13, 0, 0), (1, 106, 9, 0, 0), (0, 109, 7, 7, 0), (1, 127, 30, 0, 0), (0, 131, 7, 8, 0), (1, 134, 31, 0, 0), (0, 112, 3, 14, 0), (0, 65, 7, 1, 0), (0, 115, 7, 6, 0), (1, 118, 32, 0, 0), (0, 121, 3, 15, 0), (0, 124, 3, 16, 0), (1, 137, 34, 0, 0), (1, 62, 28, 0, 0), (1, 70, 29, 0, 0), (0, 74, 3, 13, 0), (1, 77, 33, 0, 0), (1, 80, 35, 0, 0), (1, 140, 38, 0, 0)],
  [(3, 3, 0, 0, 0), (0, 9, 4, 1, 0), (0, 15, 4, 0, 0), (2, 38, 0, 0, 0), (1, 24, 23, 0, 0), (0, 30, 2, 2, 0), (1, 34, 41, 0, 0), (5, 19, 0, 0, 40320), (1, 20, 42, 0, 0)],
  [(3, 3, 0, 0, 0), (0, 9, 5, 1, 0), (0, 15, 5, 2, 0), (0, 18, 5, 3, 0), (0, 21, 5, 4, 0), (0, 24, 5, 0, 0), (0, 28, 5, 5, 0), (0, 32, 7, 4, 0), (0, 37, 7, 5, 0), (1, 40, 45, 0, 0), (0, 44, 7, 2, 0), (9, 47, 0, 0, 0), (1, 53, 8, 0, 0), (1, 61, 47, 0, 0), (0, 64, 7, 8, 0), (1, 67, 13, 0, 0), (1, 57, 52, 0, 0), (2, 70, 0, 0, 0)],
  [(3, 3, 0, 0, 0), (0, 11, 6, 2, 0), (0, 15, 6, 3, 0), (0, 19, 6, 0, 0), (0, 23, 6, 1, 0), (0, 27, 6, 4, 0), (0, 31, 6, 5, 0), (1, 34, 58, 0, 0), (1, 38, 61, 0, 0), (0, 44, 3, 4, 0), (1, 76, 63, 0, 0), (1, 98, 30, 0, 0), (1, 66, 64, 0, 0), (0, 101, 7, 8, 0), (1, 104, 13, 0, 0), (1, 89, 65, 0, 0), (0, 107, 3, 6, 0), (0, 110, 3, 8, 0), (1, 117, 34, 0, 0), (0, 114, 3, 9, 0), (1, 70, 37, 0, 0), (0, 73, 7, 7, 0), (1, 79, 66, 0, 0), (0, 82, 7, 9, 0), (1, 85, 8, 0, 0), (1, 92, 67, 0, 0), (1, 95, 68, 0, 0), (1, 49, 36, 0, 0), (0, 52, 3, 17, 0), (0, 53, 7, 1, 0), (0, 56, 3, 2, 0), (1, 59, 69, 0, 0), (1, 63, 70, 0, 0)],
  [(0, 15, 7, 3, 0), (0, 27, 7, 7, 0), (0, 30, 7, 8, 0), (0, 43, 7, 12, 0), (0, 40, 7, 11, 0), (0, 50, 7, 1, 0), (3, 3, 0, 0, 0), (0, 9, 7, 2, 0), (0, 18, 7, 4, 0), (0, 21, 7, 5, 0), (0, 24, 7, 6, 0), (0, 33, 7, 9, 0), (0, 36, 7, 10, 0), (0, 46, 7, 0, 0), (1, 53, 73, 0, 0), (1, 57, 61, 0, 0)],
  [(3, 3, 0, 0, 0), (0, 9, 8, 0, 0), (0, 15, 8, 1, 0), (0, 19, 8, 2, 0), (0, 23, 8, 3, 0), (0, 27, 8, 4, 0), (0, 31, 8, 5, 0), (0, 34, 10, 3, 0), (1, 39, 80, 0, 0), (0, 101, 10, 12, 0), (1, 104, 13, 0, 0), (0, 95, 10, 4, 0), (1, 56, 87, 0, 0), (0, 98, 10, 13, 0), (1, 65, 85, 0, 0), (0, 59, 7, 7, 0), (1, 69, 81, 0, 0), (0, 73, 7, 8, 0), (8, 76, 0, 0, 0), (1, 82, 86, 0, 0), (0, 86, 7, 9, 0), (1, 89, 8, 0, 0), (1, 92, 88, 0, 0), (1, 45, 83, 0, 0), (1, 48, 84, 0, 0), (1, 52, 89, 0, 0), (0, 165, 10, 7, 0), (1, 151, 91, 0, 0), (0, 168, 10, 8, 0), (1, 171, 30, 0, 0), (0, 132, 3, 5, 0), (1, 123, 60, 0, 0), (0, 174, 10, 14, 0), (1, 142, 58, 0, 0), (0, 145, 10, 6, 0), (1, 148, 59, 0, 0), (1, 155, 92, 0, 0), (1, 159, 93, 0, 0), (1, 162, 94, 0, 0), (0, 120, 6, 3, 0), (1, 126, 62, 0, 0), (1, 129, 37, 0, 0), (1, 135, 95, 0, 0), (0, 139, 3, 3, 0), (1, 107, 71, 0, 0), (0, 112, 3, 4, 0), (1, 117, 96, 0, 0)],
  [(0, 15, 9, 1, 0), (0, 9, 9, 0, 0), (3, 3, 0, 0, 0)],
  [(0, 30, 10, 0, 0), (0, 34, 10, 1, 0), (0, 38, 10, 2, 0), (0, 41, 10, 3, 0), (0, 44, 10, 4, 0), (0, 47, 10, 5, 0), (0, 50, 10, 6, 0), (0, 53, 10, 7, 0), (0, 56, 10, 8, 0), (0, 59, 10, 9, 0), (0, 18, 10, 12, 0), (1, 62, 82, 0, 0), (0, 9, 10, 10, 0), (0, 15, 10, 11, 0), (0, 21, 10, 13, 0), (0, 24, 10, 14, 0), (8, 68, 0, 0, 0), (3, 3, 0, 0, 0), (0, 27, 10, 15, 0), (1, 74, 102, 0, 0), (7, 77, 0, 0, 0), (1, 80, 103, 0, 0)],
  [(3, 1, 0, 0, 0), (4, 7, 7, 0, 0), (1, 9, 72, 0, 0), (0, 10, 11, 0, 0), (4, 16, 5, 0, 0), (1, 18, 44, 0, 0), (0, 21, 11, 1, 0), (4, 25, 2, 0, 0), (1, 27, 20, 0, 0), (0, 28, 11, 2, 0), (4, 32, 0, 0, 0), (1, 34, 0, 0, 0), (0, 37, 11, 3, 0), (4, 41, 4, 0, 0), (1, 43, 40, 0, 0), (0, 44, 11, 4, 0), (4, 48, 1, 0, 0), (1, 50, 7, 0, 0), (0, 51, 11, 5, 0), (4, 55, 3, 0, 0), (1, 57, 25, 0, 0), (0, 60, 11, 6, 0), (4, 64, 6, 0, 0), (1, 66, 57, 0, 0), (0, 69, 11, 7, 0), (4, 73, 9, 0, 0), (1, 75, 98, 0, 0), (0, 76, 11, 8, 0), (4, 80, 8, 0, 0), (1, 82, 79, 0, 0), (0, 85, 11, 9, 0), (4, 89, 10, 0, 0), (1, 91, 100, 0, 0), (0, 92, 11, 10, 0), (0, 96, 11, 11, 0), (0, 99, 11, 12, 0), (0, 102, 11, 13, 0), (0, 105, 11, 14, 0), (0, 109, 11, 15, 0), (0, 112, 11, 16, 0), (0, 116, 11, 17, 0), (0, 120, 7, 0, 0), (1, 123, 76, 0, 0), (1, 127, 73, 0, 0), (0, 131, 7, 2, 0), (0, 134, 7, 1, 0), (1, 137, 77, 0, 0), (1, 141, 46, 0, 0), (1, 145, 56, 0, 0), (1, 148, 26, 0, 0), (1, 151, 61, 0, 0), (1, 154, 109, 0, 0), (1, 158, 74, 0, 0), (0, 161, 7, 4, 0), (1, 164, 75, 0, 0), (1, 168, 78, 0, 0), (0, 172, 7, 8, 0), (5, 175, 0, 0, 1000000), (0, 176, 7, 12, 0), (0, 211, 7, 5, 0), (1, 179, 112, 0, 0), (0, 182, 7, 10, 0), (1, 186, 113, 0, 0), (1, 205, 13, 0, 0), (1, 208, 10, 0, 0), (0, 190, 7, 6, 0), (0, 193, 7, 7, 0), (0, 196, 5, 2, 0), (0, 199, 7, 9, 0), (1, 202, 115, 0, 0), (1, 214, 54, 0, 0), (1, 217, 48, 0, 0), (1, 221, 49, 0, 0), (1, 224, 22, 0, 0), (1, 227, 50, 0, 0), (0, 231, 2, 2, 0), (1, 234, 6, 0, 0), (1, 238, 43, 0, 0), (1, 242, 19, 0, 0), (1, 244, 51, 0, 0), (1, 247, 23, 0, 0), (0, 250, 5, 5, 0), (1, 253, 55, 0, 0), (0, 256, 3, 12, 0), (1, 259, 121, 0, 0), (0, 264, 3, 11, 0), (1, 267, 24, 0, 0), (1, 270, 53, 0, 0), (1, 273, 36, 0, 0), (0, 276, 3, 2, 0), (0, 279, 3, 4, 0), (0, 282, 3, 5, 0), (1, 285, 37, 0, 0), (1, 288, 38, 0, 0), (0, 292, 3, 10, 0), (1, 295, 71, 0, 0), (0, 298, 3, 16, 0), (1, 301, 58, 0, 0), (0, 304, 3, 14, 0), (1, 307, 39, 0, 0), (0, 310, 3, 13, 0), (0, 313, 3, 15, 0), (0, 316, 9, 1, 0), (1, 319, 99, 0, 0), (1, 320, 130, 0, 0), (1, 323, 90, 0, 0), (0, 327, 10, 1, 0), (1, 330, 97, 0, 0), (1, 333, 104, 0, 0), (0, 336, 10, 9, 0), (1, 339, 132, 0, 0), (0, 343, 10, 0, 0), (0, 346, 10, 2, 0), (0, 349, 10, 3, 0), (0, 352, 10, 5, 0), (1, 355, 101, 0, 0), (0, 358, 10, 6, 0), (0, 361, 10, 7, 0), (0, 364, 10, 8, 0), (0, 367, 10, 10, 0), (0, 370, 10, 12, 0), (2, 373, 0, 0, 0), (1, 379, 105, 0, 0)],
  [(3, 1, 0, 0, 0), (0, 7, 12, 1, 0), (0, 13, 12, 2, 0), (0, 16, 12, 3, 0), (0, 19, 12, 5, 0), (0, 22, 12, 6, 0), (0, 25, 12, 7, 0), (0, 29, 12, 8, 0), (0, 32, 12, 9, 0), (0, 35, 12, 10, 0), (0, 38, 12, 11, 0), (0, 41, 12, 12, 0), (0, 44, 12, 14, 0), (0, 48, 12, 15, 0), (0, 51, 12, 16, 0), (0, 54, 12, 19, 0), (0, 57, 12, 20, 0), (0, 60, 12, 21, 0), (0, 63, 12, 22, 0), (0, 66, 12, 23, 0), (0, 69, 12, 24, 0), (0, 72, 12, 25, 0), (0, 75, 12, 26, 0), (0, 78, 12, 27, 0), (0, 81, 12, 29, 0), (0, 84, 12, 30, 0), (0, 87, 12, 31, 0), (0, 90, 12, 32, 0), (0, 93, 12, 33, 0), (0, 96, 12, 34, 0), (0, 99, 12, 35, 0), (0, 102, 12, 36, 0), (0, 105, 12, 40, 0), (0, 108, 12, 42, 0), (0, 111, 12, 43, 0), (0, 114, 12, 44, 0), (0, 117, 12, 45, 0), (0, 120, 12, 46, 0), (0, 123, 12, 47, 0), (0, 126, 12, 48, 0), (0, 129, 12, 49, 0), (0, 132, 12, 51, 0), (0, 135, 12, 53, 0), (0, 138, 12, 54, 0), (0, 141, 12, 55, 0), (0, 144, 12, 56, 0), (0, 147, 12, 0, 0), (1, 150, 140, 0, 0), (0, 154, 12, 4, 0), (1, 157, 141, 0, 0), (0, 161, 12, 18, 0), (0, 164, 12, 41, 0), (1, 168, 142, 0, 0), (1, 171, 146, 0, 0), (1, 175, 147, 0, 0), (5, 179, 0, 0, 1000000), (1, 180, 143, 0, 0), (1, 183, 151, 0, 0), (1, 187, 153, 0, 0), (1, 191, 155, 0, 0), (1, 195, 156, 0, 0), (1, 198, 159, 0, 0), (1, 201, 161, 0, 0), (1, 204, 163, 0, 0), (1, 207, 164, 0, 0), (1, 211, 160, 0, 0), (1, 214, 165, 0, 0), (1, 217, 168, 0, 0), (1, 220, 167, 0, 0), (1, 223, 169, 0, 0), (1, 226, 170, 0, 0), (1, 229, 162, 0, 0), (1, 232, 166, 0, 0), (1, 235, 171, 0, 0), (0, 238, 12, 13, 0), (1, 241, 174, 0, 0), (1, 244, 175, 0, 0), (0, 247, 12, 28, 0), (1, 250, 178, 0, 0), (0, 253, 12, 38, 0), (0, 256, 12, 37, 0), (1, 259, 177, 0, 0), (1, 262, 179, 0, 0), (1, 265, 180, 0, 0), (1, 268, 181, 0, 0), (0, 272, 12, 39, 0), (1, 275, 182, 0, 0), (1, 278, 185, 0, 0), (1, 281, 186, 0, 0), (1, 285, 187, 0, 0), (0, 288, 12, 17, 0), (0, 291, 12, 52, 0), (1, 294, 194, 0, 0), (1, 298, 192, 0, 0), (0, 302, 12, 50, 0), (1, 305, 196, 0, 0), (1, 308, 195, 0, 0), (1, 311, 193, 0, 0), (1, 314, 197, 0, 0), (1, 318, 198, 0, 0)],
  [(4, 7, 11, 0, 0), (1, 9, 106, 0, 0), (4, 10, 12, 0, 0), (1, 12, 139, 0, 0), (1, 13, 107, 0, 0), (1, 17, 144, 0, 0), (1, 18, 108, 0, 0), (1, 22, 145, 0, 0), (1, 23, 110, 0, 0), (1, 27, 148, 0, 0), (1, 28, 111, 0, 0), (1, 32, 149, 0, 0), (1, 33, 114, 0, 0), (1, 37, 150, 0, 0), (1, 38, 116, 0, 0), (1, 41, 152, 0, 0), (1, 42, 117, 0, 0), (1, 45, 157, 0, 0), (1, 46, 118, 0, 0), (1, 49, 158, 0, 0), (1, 50, 119, 0, 0), (1, 53, 172, 0, 0), (1, 54, 120, 0, 0), (1, 57, 154, 0, 0), (1, 58, 122, 0, 0), (1, 61, 173, 0, 0), (1, 62, 123, 0, 0), (1, 65, 176, 0, 0), (1, 66, 124, 0, 0), (1, 70, 183, 0, 0), (1, 71, 125, 0, 0), (1, 74, 184, 0, 0), (1, 75, 126, 0, 0), (1, 78, 188, 0, 0), (1, 79, 127, 0, 0), (1, 82, 189, 0, 0), (6, 83, 0, 0, 4294967295), (1, 85, 128, 0, 0), (1, 89, 190, 0, 0), (1, 90, 129, 0, 0), (1, 93, 191, 0, 0), (1, 94, 131, 0, 0), (1, 97, 199, 0, 0), (1, 98, 133, 0, 0), (1, 101, 200, 0, 0), (1, 102, 134, 0, 0), (1, 105, 201, 0, 0), (1, 106, 135, 0, 0), (1, 109, 202, 0, 0), (1, 110, 136, 0, 0), (1, 113, 203, 0, 0), (1, 114, 137, 0, 0), (1, 117, 204, 0, 0), (1, 118, 138, 0, 0), (1, 121, 205, 0, 0)],
  [(5, 265, 0, 0, 1431655765), (5, 266, 0, 0, 858993459), (5, 267, 0, 0, 252645135)],
  []]
def fr_lkp : List (List Nat) := [
  [244, 246, 245, 731, 728, 735, 229, 736, 740, 724, 743],
  [270, 272, 273, 274, 275, 271, 276, 782, 142, 783, 784, 277, 778, 774, 134, 785, 786, 278, 151, 798, 124, 770, 790, 794],
  [227, 225, 226, 228, 710, 711, 715, 140, 123, 702, 706, 760, 834],
  [301, 304, 307, 309, 313, 316, 318, 319, 321, 323, 302, 303, 325, 327, 337, 339, 117, 127, 200, 158, 860, 868, 869, 143, 878, 150, 881, 331, 119, 137, 874, 333, 335, 889, 856, 864, 329, 870, 885, 963],
  [257, 259, 258, 765, 756, 230, 761, 751, 752],
  [197, 199, 201, 203, 204, 198, 205, 130, 133, 598, 126, 683, 806, 843, 152, 847, 839, 676],
  [384, 387, 388, 385, 386, 390, 391, 1045, 1050, 310, 922, 931, 918, 149, 932, 933, 317, 320, 942, 322, 926, 144, 927, 155, 937, 938, 943, 913, 338, 121, 305, 914, 947],
  [128, 139, 146, 161, 160, 118, 114, 122, 129, 132, 136, 153, 157, 115, 626, 631],
  [425, 426, 427, 428, 429, 430, 431, 457, 1011, 479, 1006, 461, 1024, 482, 1002, 141, 1007, 147, 1015, 1018, 154, 1023, 1028, 987, 994, 998, 468, 1061, 471, 1073, 314, 1041, 484, 1056, 465, 1057, 1065, 1069, 1074, 389, 1046, 1051, 1052, 308, 1036, 311, 1037],
  [413, 412, 411],
  [451, 453, 455, 458, 460, 462, 464, 467, 470, 473, 478, 991, 475, 477, 481, 483, 1022, 450, 485, 1082, 1086, 1087],
  [106, 109, 111, 519, 192, 194, 520, 220, 222, 521, 239, 241, 522, 252, 254, 523, 265, 267, 524, 296, 298, 525, 379, 381, 526, 406, 408, 527, 420, 422, 528, 445, 447, 529, 530, 531, 532, 533, 534, 535, 536, 116, 578, 586, 125, 120, 590, 594, 602, 606, 614, 618, 622, 131, 627, 632, 148, 640, 162, 135, 645, 159, 649, 660, 664, 138, 145, 202, 156, 656, 672, 679, 690, 698, 716, 231, 720, 747, 766, 802, 807, 206, 812, 328, 820, 326, 830, 835, 852, 306, 312, 315, 897, 901, 324, 909, 336, 951, 332, 959, 330, 334, 414, 968, 980, 983, 454, 1032, 1078, 474, 1095, 452, 456, 459, 463, 1099, 466, 469, 472, 476, 480, 1111, 1120],
  [1133, 1135, 1136, 1137, 1139, 1140, 1141, 1142, 1143, 1144, 1145, 1146, 1148, 1149, 1150, 1153, 1154, 1155, 1156, 1157, 1158, 1159, 1160, 1161, 1163, 1164, 1165, 1166, 1167, 1168, 1169, 1170, 1174, 1176, 1177, 1178, 1179, 1180, 1181, 1182, 1183, 1185, 1187, 1188, 1189, 1190, 1134, 1318, 1138, 1314, 1152, 1175, 1325, 1333, 1329, 1341, 1346, 1354, 1366, 1370, 1378, 1394, 1390, 1410, 1406, 1402, 1414, 1426, 1430, 1422, 1434, 1386, 1398, 1418, 1147, 1446, 1450, 1162, 1474, 1172, 1171, 1458, 1470, 1478, 1482, 1173, 1466, 1490, 1497, 1493, 1151, 1186, 1541, 1533, 1184, 1529, 1537, 1521, 1525, 1517],
  [101, 103, 1128, 1130, 574, 1306, 582, 1310, 610, 1321, 636, 1337, 641, 1342, 652, 1350, 668, 1362, 686, 1374, 694, 1382, 808, 1358, 816, 1438, 826, 1442, 848, 1454, 893, 1462, 905, 1486, 955, 1501, 1569, 964, 1505, 972, 1509, 976, 1513, 1091, 1545, 1103, 1549, 1107, 1553, 1112, 1557, 1116, 1561, 1124, 1565],
  [823, 824, 825],
  []]
def fr_mp : List (Nat × Nat × Nat × Nat) := [(243, 88, 242, 0), (730, 88, 729, 0), (734, 87, 732, 733), (739, 88, 738, 5), (727, 88, 726, 4), (746, 88, 745, 6), (723, 88, 721, 722), (269, 90, 268, 0), (705, 85, 703, 704), (714, 85, 712, 713), (667, 85, 665, 666), (781, 90, 780, 11), (777, 90, 776, 10), (663, 85, 661, 662), (789, 90, 788, 12), (773, 90, 772, 9), (793, 90, 792, 13), (801, 90, 800, 15), (797, 90, 796, 14), (769, 90, 767, 768), (224, 87, 223, 0), (709, 87, 708, 3), (701, 87, 699, 700), (759, 87, 757, 758), (833, 87, 831, 832), (300, 91, 299, 0), (609, 91, 607, 608), (863, 91, 862, 17), (859, 91, 858, 16), (867, 91, 866, 18), (880, 91, 879, 0), (884, 91, 883, 21), (877, 91, 876, 20), (873, 91, 872, 19), (892, 91, 890, 891), (888, 91, 887, 22), (855, 91, 853, 854), (900, 91, 898, 899), (904, 91, 902, 903), (962, 91, 960, 961), (256, 89, 255, 0), (764, 89, 763, 8), (755, 89, 754, 7), (750, 89, 748, 749), (196, 86, 195, 0), (601, 86, 599, 600), (597, 86, 595, 596), (846, 86, 844, 845), (682, 86, 680, 681), (693, 86, 691, 692), (719, 86, 717, 718), (805, 86, 803, 804), (842, 86, 840, 841), (838, 86, 836, 837), (675, 86, 673, 674), (815, 86, 813, 814), (605, 86, 603, 604), (383, 92, 382, 0), (954, 92, 952, 953), (1060, 92, 1058, 1059), (1044, 92, 1042, 1043), (617, 85, 615, 616), (1049, 92, 1047, 1048), (925, 92, 924, 25), (921, 92, 920, 24), (936, 92, 935, 27), (930, 92, 929, 26), (941, 92, 940, 28), (946, 92, 945, 29), (917, 92, 916, 23), (950, 92, 949, 30), (912, 92, 910, 911), (113, 85, 112, 0), (589, 85, 587, 588), (625, 85, 623, 624), (630, 85, 628, 629), (581, 85, 579, 580), (593, 85, 591, 592), (635, 85, 633, 634), (424, 94, 423, 0), (1014, 93, 1012, 1013), (1010, 94, 1009, 33), (993, 100, 992, 0), (990, 95, 988, 989), (997, 95, 995, 996), (1005, 94, 1004, 32), (1021, 95, 1019, 1020), (1027, 95, 1025, 1026), (1031, 94, 1030, 34), (1001, 94, 1000, 31), (986, 94, 984, 985), (1064, 94, 1063, 37), (1068, 94, 1067, 38), (1072, 94, 1071, 39), (1077, 94, 1076, 40), (1055, 94, 1054, 36), (1040, 94, 1039, 35), (1035, 94, 1033, 1034), (410, 93, 409, 0), (971, 93, 969, 970), (449, 95, 448, 0), (1102, 95, 1100, 1101), (1085, 95, 1084, 41), (1090, 95, 1089, 42), (1081, 95, 1079, 1080), (1123, 95, 1121, 1122), (105, 84, 104, 0), (577, 84, 575, 576), (585, 84, 583, 584), (621, 84, 620, 0), (613, 84, 611, 612), (639, 84, 637, 638), (648, 84, 647, 1), (651, 84, 650, 0), (644, 84, 642, 643), (659, 84, 658, 2), (655, 84, 653, 654), (671, 84, 669, 670), (689, 84, 687, 688), (697, 84, 695, 696), (811, 84, 809, 810), (822, 99, 821, 0), (819, 84, 817, 818), (829, 84, 827, 828), (851, 84, 849, 850), (896, 84, 894, 895), (908, 84, 906, 907), (958, 84, 956, 957), (967, 84, 965, 966), (975, 84, 973, 974), (982, 84, 981, 0), (979, 84, 977, 978), (1098, 84, 1097, 43), (1094, 84, 1092, 1093), (1106, 84, 1104, 1105), (1110, 84, 1108, 1109), (1115, 84, 1113, 1114), (1119, 84, 1117, 1118), (1127, 84, 1125, 1126), (1132, 96, 1131, 0), (1320, 96, 1319, 0), (1317, 96, 1316, 44), (1328, 96, 1327, 45), (1349, 96, 1348, 48), (1309, 96, 1307, 1308), (1313, 96, 1311, 1312), (1336, 96, 1335, 47), (1332, 96, 1331, 46), (1324, 96, 1322, 1323), (1340, 96, 1338, 1339), (1345, 96, 1343, 1344), (1357, 96, 1356, 49), (1353, 96, 1351, 1352), (1369, 96, 1368, 50), (1361, 96, 1359, 1360), (1373, 96, 1372, 51), (1381, 96, 1380, 52), (1365, 96, 1363, 1364), (1377, 96, 1375, 1376), (1397, 96, 1396, 55), (1405, 96, 1404, 57), (1393, 96, 1392, 54), (1389, 96, 1388, 53), (1413, 96, 1412, 59), (1409, 96, 1408, 58), (1417, 96, 1416, 60), (1401, 96, 1400, 56), (1433, 96, 1432, 64), (1429, 96, 1428, 63), (1425, 96, 1424, 62), (1437, 96, 1436, 65), (1421, 96, 1420, 61), (1385, 96, 1383, 1384), (1441, 96, 1439, 1440), (1449, 96, 1448, 66), (1453, 96, 1452, 67), (1445, 96, 1443, 1444), (1461, 96, 1460, 68), (1477, 96, 1476, 71), (1473, 96, 1472, 70), (1481, 96, 1480, 72), (1485, 96, 1484, 73), (1469, 96, 1468, 69), (1457, 96, 1455, 1456), (1465, 96, 1463, 1464), (1492, 96, 1491, 0), (1500, 96, 1499, 75), (1496, 96, 1495, 74), (1489, 96, 1487, 1488), (1504, 96, 1502, 1503), (1508, 96, 1506, 1507), (1512, 96, 1510, 1511), (1536, 96, 1535, 80), (1524, 96, 1523, 77), (1544, 96, 1543, 82), (1540, 96, 1539, 81), (1532, 96, 1531, 79), (1528, 96, 1527, 78), (1520, 96, 1519, 76), (1516, 96, 1514, 1515), (1548, 96, 1546, 1547), (1552, 96, 1550, 1551), (1556, 96, 1554, 1555), (1560, 96, 1558, 1559), (1564, 96, 1562, 1563), (1568, 96, 1566, 1567), (0, 83, 0, 0)]
end
section
/-! ===== what the tables of the code must say: decided by program ===== -/
def fr_word (own : String) (q : Nat × Nat × Nat × Nat × Int) : Cond := match q with
  | (0, idx, ci, k, _) => (match fr_nth vwCl ci with
    | some (_, T, _) => .fieldLink own idx (T k).1 (T k).2.1 (T k).2.2.1
    | none => .initialized "")
  | (1, idx, mj, _, _) => (match fr_nth fr_tab mj with
    | some rc => .methodLink own idx rc.2.1
    | none => .initialized "")
  | (2, idx, _, _, _) => .methodLink own idx arraycopyName
  | (3, idx, _, _, _) => .methodLink own idx objectInit
  | (4, idx, ci, _, _) => (match fr_nth fr_own ci with
    | some n => .classLink own idx n
    | none => .initialized "")
  | (5, idx, _, _, c) => .constant own idx (Int32.ofInt c)
  | (6, idx, _, _, c) => .constantLong own idx (Int64.ofInt c)
  | (7, idx, _, _, _) => .methodLink own idx Lib.Math.min.name
  | (8, idx, _, _, _) => .methodLink own idx Lib.Math.max.name
  | (9, idx, _, _, _) => .methodLink own idx Lib.Math.abs.name
  | _ => .initialized ""
def fr_lkc (t : String × List (Nat × Nat × Nat × Nat × Int) × List Nat) : Bool := t.2.1.length == t.2.2.length && (t.2.1.zip t.2.2).all (fun q => decide (lw_tbl[q.2]? = some (fr_word t.1 q.1)))
def fr_tg (cd : List fr_E) (t : Nat) : Nat := match fr_nth cd t with
  | some e => e.1
  | none => 0
def fr_jmp (cd : List fr_E) (pc : Nat) (off : Int) (t : Nat) : Bool := decide ((pc : Int) + off = (fr_tg cd t : Int))
def fr_mem (own : Nat) (q : Nat × Nat × Nat × Nat × Int) : Bool := match fr_nth fr_lk own with
  | some l => l.any (fun r => Nat.beq r.2.1 q.2.1 && decide (r = q))
  | none => false
def fr_cal (rc : fr_T) (i a : Nat) (d : List Nat) (kind : Nat) : Bool := fr_mem rc.1 (1, i, a, 0, 0) && (match fr_nth fr_tab a with
  | some r => Nat.beq r.2.2.2.2.2.2.2.1 kind && Nat.ble (r.2.2.2.2.2.2.1.frames + 1) rc.2.2.2.2.2.2.1.frames && Nat.ble (8 + (r.2.2.2.1 + 11) + r.2.2.2.2.2.2.1.locals) rc.2.2.2.2.2.2.1.locals && decide (d = [(if kind = 0 then r.2.2.2.2.2.2.2.2 else r.2.2.2.2.2.2.2.2 + 1), r.2.2.2.2.2.2.1.cells, r.2.2.2.2.2.2.1.slots, if r.2.2.2.2.1.isSome then 1 else 0, r.2.2.2.1])
  | none => false)
def fr_final (ci k : Nat) : Bool := match fr_nth vwCl ci with
  | some (_, T, _) => (T k).2.2.2
  | none => true
def fr_fty (ci k : Nat) : FieldType := match fr_nth fr_tys ci with
  | some f => f k
  | none => .int
def fr_cnt (ci : Nat) : Nat := match fr_nth vwCl ci with
  | some (_, _, N) => N
  | none => 0
def fr_ch (rc : fr_T) (en : fr_E) : Bool := match en with
  | (pc, ins, len, a, b, c, d) => decide (decode rc.2.2.1 pc = .ok (ins, len)) && (match ins with
    | .iconst n => Nat.beq len 1 && decide (-128 ≤ n ∧ n ≤ 127)
    | .bipush n => Nat.beq len 2 && decide (-128 ≤ n ∧ n ≤ 127)
    | .sipush n => Nat.beq len 3 && decide (-32768 ≤ n ∧ n ≤ 32767)
    | .ldc i => Nat.beq len 2 && fr_mem rc.1 (5, i, 0, 0, c) && decide (-2147483648 ≤ c ∧ c ≤ 2147483647)
    | .ldc_w i => Nat.beq len 3 && fr_mem rc.1 (5, i, 0, 0, c) && decide (-2147483648 ≤ c ∧ c ≤ 2147483647)
    | .ldc2_w i => Nat.beq len 3 && fr_mem rc.1 (6, i, 0, 0, c)
    | .iload _ => Nat.beq len 2
    | .aload _ => Nat.beq len 2
    | .istore _ => Nat.beq len 2
    | .iinc _ _ => Nat.beq len 3
    | .ifCond _ off => Nat.beq len 3 && fr_jmp rc.2.2.2.2.2.1 pc off a
    | .if_icmp _ off => Nat.beq len 3 && fr_jmp rc.2.2.2.2.2.1 pc off a
    | .goto off => Nat.beq len 3 && fr_jmp rc.2.2.2.2.2.1 pc off a
    | .tableswitch df lo hi offs => fr_jmp rc.2.2.2.2.2.1 pc df a && decide (hi - lo + 1 = (d.length : Int)) && decide (offs.toList.length = d.length) && (offs.toList.zip d).all (fun q => fr_jmp rc.2.2.2.2.2.1 pc q.1 q.2)
    | .lookupswitch df ps => fr_jmp rc.2.2.2.2.2.1 pc df a && decide (ps.toList.length = d.length) && (ps.toList.zip d).all (fun q => fr_jmp rc.2.2.2.2.2.1 pc q.1.2 q.2) && (ps.toList.zip (ps.toList.drop 1)).all (fun (a, next) => a.1 < next.1)
    | .getfield i => Nat.beq len 3 && fr_mem rc.1 (0, i, a, b, 0) && decide (c = (b : Int)) && Nat.blt b (fr_cnt a)
    | .putfield i => Nat.beq len 3 && fr_mem rc.1 (0, i, a, b, 0) && decide (c = (b : Int)) && Nat.blt b (fr_cnt a) && (if fr_final a b then Nat.beq rc.2.2.2.2.2.2.2.1 2 && Nat.beq rc.1 a else true) && (match fr_fty a b with
      | .int => decide (d = [])
      | .boolean => decide (d = [1])
      | .object _ => decide (d = [2])
      | .array _ => decide (d = [2])
      | _ => false)
    | .newarray t => Nat.beq len 2 && (match t with
      | .int => Nat.beq a 0
      | .boolean => Nat.beq a 1
      | .byte => Nat.beq a 2
      | _ => false)
    | .new i => Nat.beq len 3 && fr_mem rc.1 (4, i, a, 0, 0) && Nat.beq b (fr_cnt a) && Nat.blt a 13
    | .invokespecial i => Nat.beq len 3 && (if a = 999 then fr_mem rc.1 (3, i, 0, 0, 0) && Nat.ble 1 rc.2.2.2.2.2.2.1.frames && Nat.ble 20 rc.2.2.2.2.2.2.1.locals else fr_cal rc i a d 2)
    | .invokevirtual i => Nat.beq len 3 && fr_cal rc i a d 1 && Nat.blt b 13 && (match fr_nth fr_tab a with
      | some r => Nat.beq r.1 b
      | none => false)
    | .invokestatic i => Nat.beq len 3 && (if a = 998 then fr_mem rc.1 (2, i, 0, 0, 0) && Nat.ble 1 rc.2.2.2.2.2.2.1.frames && Nat.ble 60 rc.2.2.2.2.2.2.1.locals else if a = 995 ∨ a = 996 ∨ a = 997 then fr_mem rc.1 (a - 988, i, 0, 0, 0) && Nat.ble 1 rc.2.2.2.2.2.2.1.frames && Nat.ble 30 rc.2.2.2.2.2.2.1.locals else fr_cal rc i a d 0)
    | .ireturn => Nat.beq len 1 && (match rc.2.2.2.2.1 with
      | some .int => Nat.beq a 0
      | some .boolean => Nat.beq a 1
      | _ => false)
    | .areturn => Nat.beq len 1 && (match rc.2.2.2.2.1 with
      | some (.object _) => true
      | _ => false)
    | .return_ => Nat.beq len 1 && (match rc.2.2.2.2.1 with
      | none => true
      | _ => false)
    | _ => Nat.beq len 1)
/-- each instruction stands right behind the one ahead of it -/
def fr_seq : List fr_E → Bool
  | [] => true
  | [_] => true
  | e :: e2 :: l => Nat.beq (e.1 + e.2.2.1) e2.1 && fr_seq (e2 :: l)
def fr_rcc (rc : fr_T) : Bool := fr_seq rc.2.2.2.2.2.1 && rc.2.2.2.2.2.1.all (fr_ch rc)
def fr_mc1 (q : fr_T × Nat × Nat × Nat × Nat) : Bool := match q.1.2.2.2.2.2.2.2.1 with
  | 3 => decide (fr_nth fr_own q.1.1 = some q.1.2.1.cls)
  | k => decide (fr_nth fr_own q.1.1 = some q.1.2.1.cls) && decide (lw_tbl[q.2.2.1]? = some (.initialized q.1.2.1.cls)) && decide (q.1.2.1.cls ≠ "java/lang/invoke/MethodHandle" ∧ q.1.2.1.cls ≠ "java/lang/invoke/VarHandle" ∧ (parseMethodDescriptor q.1.2.1.desc).map (fun d => d.parameters.length) = some q.1.2.2.2.2.2.2.2.2) && plainName q.1.2.1.cls && (match k with
    | 0 => decide (lw_tbl[q.2.2.2.1]? = some (.static q.1.2.1))
    | 1 => decide (lw_tbl[q.2.2.2.1]? = some (.instanceMethod q.1.2.1)) && decide (lw_tbl[q.2.2.2.2]? = some (.selects q.1.2.1.cls q.1.2.1 q.1.2.1))
    | _ => decide (lw_tbl[q.2.2.2.1]? = some (.instanceMethod q.1.2.1)) && decide (q.1.2.1.name = "<init>"))
end
section
theorem fr_lk_all : (fr_own.zip (fr_lk.zip fr_lkp)).all fr_lkc = true := by decide +kernel
theorem fr_mc_all : (fr_tab.zip fr_mp).all fr_mc1 = true := by decide +kernel
set_option maxRecDepth 100000 in
theorem fr_cw_all : (fr_tab.take 206).map (fun rc => some (Cond.code rc.2.1 rc.2.2.1 rc.2.2.2.1 rc.2.2.2.2.1)) = (fr_mp.take 206).map (fun q => lw_tbl[q.1]?) := rfl
def fr_ip : List (Nat × Nat) := [(240, 88), (266, 90), (221, 87), (297, 91), (253, 89), (193, 86), (380, 92), (110, 85), (421, 94), (407, 93), (446, 95), (102, 84), (1129, 96)]
def fr_fk (t : FieldType) : Option (Option Nat) := match t with
  | .int => none
  | .boolean => none
  | _ => some none
def fr_cc1 (q : vw_C × String × (Nat × Nat) × fr_F × (Nat → FieldType)) : Bool := decide (q.1.1 = q.2.1) && decide (lw_tbl[q.2.2.1.1]? = some (.instantiable q.1.1 q.1.2.2)) && decide (lw_tbl[q.2.2.1.2]? = some (.initialized q.1.1)) && decide (q.2.2.2.1 = (List.range q.1.2.2).map (fun k => fr_fk (q.2.2.2.2 k)))
theorem fr_cc_all : (vwCl.zip (fr_own.zip (fr_ip.zip (fr_kd.zip fr_tys)))).all fr_cc1 = true := by decide +kernel
set_option maxRecDepth 100000 in
theorem fr_w_oi : Cond.instanceMethod objectInit ∈ lw_tbl := List.mem_of_getElem? (i := 107) (by decide +kernel)
set_option maxRecDepth 100000 in
theorem fr_w_oc : Cond.code objectInit ⟨#[0xb1]⟩ 1 none ∈ lw_tbl := List.mem_of_getElem? (i := 108) (by decide +kernel)
theorem fr_w_aint : Cond.arrayClass .int ∈ lw_tbl := List.mem_of_getElem? (i := 190) (by decide +kernel)
theorem fr_w_aboolean : Cond.arrayClass .boolean ∈ lw_tbl := List.mem_of_getElem? (i := 191) (by decide +kernel)
theorem fr_w_abyte : Cond.arrayClass .byte ∈ lw_tbl := List.mem_of_getElem? (i := 405) (by decide +kernel)
theorem fr_w_an : Cond.native arraycopyName ∈ lw_tbl := List.mem_of_getElem? (i := 678) (by decide +kernel)
theorem fr_w_as : Cond.static arraycopyName ∈ lw_tbl := List.mem_of_getElem? (i := 677) (by decide +kernel)
theorem fr_w_ai : Cond.initialized "java/lang/System" ∈ lw_tbl := List.mem_of_getElem? (i := 97) (by decide +kernel)
theorem fr_w_mi : Cond.initialized "java/lang/Math" ∈ lw_tbl := List.mem_of_getElem? (i := 98) (by decide +kernel)
theorem fr_w_smin : Cond.static Lib.Math.min.name ∈ lw_tbl := List.mem_of_getElem? (i := 741) (by decide +kernel)
theorem fr_w_cmin : Cond.code Lib.Math.min.name Lib.Math.min.code 2 (some .int) ∈ lw_tbl := List.mem_of_getElem? (i := 742) (by decide +kernel)
theorem fr_w_smax : Cond.static Lib.Math.max.name ∈ lw_tbl := List.mem_of_getElem? (i := 1016) (by decide +kernel)
theorem fr_w_cmax : Cond.code Lib.Math.max.name Lib.Math.max.code 2 (some .int) ∈ lw_tbl := List.mem_of_getElem? (i := 1017) (by decide +kernel)
theorem fr_w_sabs : Cond.static Lib.Math.abs.name ∈ lw_tbl := List.mem_of_getElem? (i := 684) (by decide +kernel)
theorem fr_w_cabs : Cond.code Lib.Math.abs.name Lib.Math.abs.code 1 (some .int) ∈ lw_tbl := List.mem_of_getElem? (i := 685) (by decide +kernel)
end
section
theorem fr_rc_0 : ((fr_tab.drop 0).take 12).all fr_rcc = true := by decide +kernel
theorem fr_rc_12 : ((fr_tab.drop 12).take 7).all fr_rcc = true := by decide +kernel
theorem fr_rc_19 : ((fr_tab.drop 19).take 6).all fr_rcc = true := by decide +kernel
theorem fr_rc_25 : ((fr_tab.drop 25).take 7).all fr_rcc = true := by decide +kernel
theorem fr_rc_32 : ((fr_tab.drop 32).take 7).all fr_rcc = true := by decide +kernel
theorem fr_rc_39 : ((fr_tab.drop 39).take 9).all fr_rcc = true := by decide +kernel
theorem fr_rc_48 : ((fr_tab.drop 48).take 12).all fr_rcc = true := by decide +kernel
theorem fr_rc_60 : ((fr_tab.drop 60).take 10).all fr_rcc = true := by decide +kernel
end
section
theorem fr_rc_70 : ((fr_tab.drop 70).take 10).all fr_rcc = true := by decide +kernel
theorem fr_rc_80 : ((fr_tab.drop 80).take 12).all fr_rcc = true := by decide +kernel
theorem fr_rc_92 : ((fr_tab.drop 92).take 5).all fr_rcc = true := by decide +kernel
theorem fr_rc_97 : ((fr_tab.drop 97).take 9).all fr_rcc = true := by decide +kernel
theorem fr_rc_106 : ((fr_tab.drop 106).take 5).all fr_rcc = true := by decide +kernel
theorem fr_rc_111 : ((fr_tab.drop 111).take 8).all fr_rcc = true := by decide +kernel
theorem fr_rc_119 : ((fr_tab.drop 119).take 6).all fr_rcc = true := by decide +kernel
theorem fr_rc_125 : ((fr_tab.drop 125).take 11).all fr_rcc = true := by decide +kernel
end
section
theorem fr_rc_136 : ((fr_tab.drop 136).take 9).all fr_rcc = true := by decide +kernel
theorem fr_rc_145 : ((fr_tab.drop 145).take 4).all fr_rcc = true := by decide +kernel
theorem fr_rc_149 : ((fr_tab.drop 149).take 6).all fr_rcc = true := by decide +kernel
theorem fr_rc_155 : ((fr_tab.drop 155).take 6).all fr_rcc = true := by decide +kernel
theorem fr_rc_161 : ((fr_tab.drop 161).take 5).all fr_rcc = true := by decide +kernel
theorem fr_rc_166 : ((fr_tab.drop 166).take 5).all fr_rcc = true := by decide +kernel
theorem fr_rc_171 : ((fr_tab.drop 171).take 3).all fr_rcc = true := by decide +kernel
theorem fr_rc_174 : ((fr_tab.drop 174).take 5).all fr_rcc = true := by decide +kernel
end
section
theorem fr_rc_179 : ((fr_tab.drop 179).take 2).all fr_rcc = true := by decide +kernel
theorem fr_rc_181 : ((fr_tab.drop 181).take 6).all fr_rcc = true := by decide +kernel
theorem fr_rc_187 : ((fr_tab.drop 187).take 2).all fr_rcc = true := by decide +kernel
theorem fr_rc_189 : ((fr_tab.drop 189).take 6).all fr_rcc = true := by decide +kernel
theorem fr_rc_195 : ((fr_tab.drop 195).take 3).all fr_rcc = true := by decide +kernel
theorem fr_rc_198 : ((fr_tab.drop 198).take 5).all fr_rcc = true := by decide +kernel
theorem fr_rc_203 : ((fr_tab.drop 203).take 3).all fr_rcc = true := by decide +kernel
end
section
def fr_law : fr_T := (13, ⟨"FallRowsLaw", "law", "([I)Z"⟩, code, 4, (some .boolean), k206, { frames := 7, cells := 119, slots := 24412, locals := 160 }, 3, 1)
theorem fr_rl_0 : ((k206.drop 0).take 48).all (fr_ch fr_law) = true := by decide +kernel
theorem fr_rl_48 : ((k206.drop 48).take 48).all (fr_ch fr_law) = true := by decide +kernel
theorem fr_rl_96 : ((k206.drop 96).take 48).all (fr_ch fr_law) = true := by decide +kernel
end
section
theorem fr_rl_144 : ((k206.drop 144).take 48).all (fr_ch fr_law) = true := by decide +kernel
theorem fr_rl_192 : ((k206.drop 192).take 48).all (fr_ch fr_law) = true := by decide +kernel
theorem fr_rl_240 : ((k206.drop 240).take 48).all (fr_ch fr_law) = true := by decide +kernel
end
section
theorem fr_rl_288 : ((k206.drop 288).take 48).all (fr_ch fr_law) = true := by decide +kernel
theorem fr_rl_336 : ((k206.drop 336).take 48).all (fr_ch fr_law) = true := by decide +kernel
theorem fr_rl_384 : ((k206.drop 384).take 48).all (fr_ch fr_law) = true := by decide +kernel
end
section
theorem fr_rl_432 : ((k206.drop 432).take 48).all (fr_ch fr_law) = true := by decide +kernel
theorem fr_rl_480 : ((k206.drop 480).take 48).all (fr_ch fr_law) = true := by decide +kernel
theorem fr_rl_528 : ((k206.drop 528).take 48).all (fr_ch fr_law) = true := by decide +kernel
end
section
theorem fr_rl_576 : ((k206.drop 576).take 48).all (fr_ch fr_law) = true := by decide +kernel
theorem fr_rl_624 : ((k206.drop 624).take 9).all (fr_ch fr_law) = true := by decide +kernel
end
section
theorem fr_rl_seq : fr_seq k206 = true := by decide +kernel
theorem fr_lchunk {a n i : Nat} {r : fr_E} (h : ((k206.drop a).take n).all (fr_ch fr_law) = true) (h1 : a ≤ i) (h2 : i < a + n) (hr : k206[i]? = some r) : fr_ch fr_law r = true := by
  refine List.all_eq_true.mp h r (List.mem_of_getElem? (i := i - a) ?_)
  rw [List.getElem?_take, if_pos (by omega), List.getElem?_drop, show a + (i - a) = i by omega]
  exact hr
set_option maxRecDepth 100000 in
theorem fr_rc_law : fr_rcc fr_law = true := by
  unfold fr_rcc
  rw [Bool.and_eq_true]
  refine ⟨fr_rl_seq, List.all_eq_true.mpr fun r hr => ?_⟩
  obtain ⟨i, hi⟩ := List.getElem?_of_mem hr
  have hi : k206[i]? = some r := hi
  have hl : i < 633 := (List.getElem?_eq_some_iff.mp hi).1
  if h0 : i < 48 then exact fr_lchunk fr_rl_0 (by omega) (by omega) hi else
  if h48 : i < 96 then exact fr_lchunk fr_rl_48 (by omega) (by omega) hi else
  if h96 : i < 144 then exact fr_lchunk fr_rl_96 (by omega) (by omega) hi else
  if h144 : i < 192 then exact fr_lchunk fr_rl_144 (by omega) (by omega) hi else
  if h192 : i < 240 then exact fr_lchunk fr_rl_192 (by omega) (by omega) hi else
  if h240 : i < 288 then exact fr_lchunk fr_rl_240 (by omega) (by omega) hi else
  if h288 : i < 336 then exact fr_lchunk fr_rl_288 (by omega) (by omega) hi else
  if h336 : i < 384 then exact fr_lchunk fr_rl_336 (by omega) (by omega) hi else
  if h384 : i < 432 then exact fr_lchunk fr_rl_384 (by omega) (by omega) hi else
  if h432 : i < 480 then exact fr_lchunk fr_rl_432 (by omega) (by omega) hi else
  if h480 : i < 528 then exact fr_lchunk fr_rl_480 (by omega) (by omega) hi else
  if h528 : i < 576 then exact fr_lchunk fr_rl_528 (by omega) (by omega) hi else
  if h576 : i < 624 then exact fr_lchunk fr_rl_576 (by omega) (by omega) hi else
  exact fr_lchunk fr_rl_624 (by omega) (by omega) hi
theorem fr_chunk {a n i : Nat} {r : fr_T} (h : ((fr_tab.drop a).take n).all fr_rcc = true) (h1 : a ≤ i) (h2 : i < a + n) (hr : fr_tab[i]? = some r) : fr_rcc r = true := by
  refine List.all_eq_true.mp h r (List.mem_of_getElem? (i := i - a) ?_)
  rw [List.getElem?_take, if_pos (by omega), List.getElem?_drop, show a + (i - a) = i by omega]
  exact hr
set_option maxRecDepth 100000 in
theorem fr_rc_all : fr_tab.all fr_rcc = true := by
  refine List.all_eq_true.mpr fun r hr => ?_
  obtain ⟨i, hi⟩ := List.getElem?_of_mem hr
  have hl : i < 207 := (List.getElem?_eq_some_iff.mp hi).1
  if h0 : i < 12 then exact fr_chunk fr_rc_0 (by omega) (by omega) hi else
  if h12 : i < 19 then exact fr_chunk fr_rc_12 (by omega) (by omega) hi else
  if h19 : i < 25 then exact fr_chunk fr_rc_19 (by omega) (by omega) hi else
  if h25 : i < 32 then exact fr_chunk fr_rc_25 (by omega) (by omega) hi else
  if h32 : i < 39 then exact fr_chunk fr_rc_32 (by omega) (by omega) hi else
  if h39 : i < 48 then exact fr_chunk fr_rc_39 (by omega) (by omega) hi else
  if h48 : i < 60 then exact fr_chunk fr_rc_48 (by omega) (by omega) hi else
  if h60 : i < 70 then exact fr_chunk fr_rc_60 (by omega) (by omega) hi else
  if h70 : i < 80 then exact fr_chunk fr_rc_70 (by omega) (by omega) hi else
  if h80 : i < 92 then exact fr_chunk fr_rc_80 (by omega) (by omega) hi else
  if h92 : i < 97 then exact fr_chunk fr_rc_92 (by omega) (by omega) hi else
  if h97 : i < 106 then exact fr_chunk fr_rc_97 (by omega) (by omega) hi else
  if h106 : i < 111 then exact fr_chunk fr_rc_106 (by omega) (by omega) hi else
  if h111 : i < 119 then exact fr_chunk fr_rc_111 (by omega) (by omega) hi else
  if h119 : i < 125 then exact fr_chunk fr_rc_119 (by omega) (by omega) hi else
  if h125 : i < 136 then exact fr_chunk fr_rc_125 (by omega) (by omega) hi else
  if h136 : i < 145 then exact fr_chunk fr_rc_136 (by omega) (by omega) hi else
  if h145 : i < 149 then exact fr_chunk fr_rc_145 (by omega) (by omega) hi else
  if h149 : i < 155 then exact fr_chunk fr_rc_149 (by omega) (by omega) hi else
  if h155 : i < 161 then exact fr_chunk fr_rc_155 (by omega) (by omega) hi else
  if h161 : i < 166 then exact fr_chunk fr_rc_161 (by omega) (by omega) hi else
  if h166 : i < 171 then exact fr_chunk fr_rc_166 (by omega) (by omega) hi else
  if h171 : i < 174 then exact fr_chunk fr_rc_171 (by omega) (by omega) hi else
  if h174 : i < 179 then exact fr_chunk fr_rc_174 (by omega) (by omega) hi else
  if h179 : i < 181 then exact fr_chunk fr_rc_179 (by omega) (by omega) hi else
  if h181 : i < 187 then exact fr_chunk fr_rc_181 (by omega) (by omega) hi else
  if h187 : i < 189 then exact fr_chunk fr_rc_187 (by omega) (by omega) hi else
  if h189 : i < 195 then exact fr_chunk fr_rc_189 (by omega) (by omega) hi else
  if h195 : i < 198 then exact fr_chunk fr_rc_195 (by omega) (by omega) hi else
  if h198 : i < 203 then exact fr_chunk fr_rc_198 (by omega) (by omega) hi else
  if h203 : i < 206 then exact fr_chunk fr_rc_203 (by omega) (by omega) hi else
  have e : i = 206 := by omega
  subst e
  have e2 : fr_tab[206]? = some fr_law := rfl
  cases e2.symm.trans hi
  exact fr_rc_law
end
section
/-! ===== the machine's numbers and the real ones ===== -/
def lw_gd : List Cond := lw_tbl.filter goodWord
theorem lw_gd_in {w : Cond} (h : w ∈ lw_tbl) (g : goodWord w = true) : w ∈ lw_gd := List.mem_filter.mpr ⟨h, g⟩
theorem fr_nth_eq {α : Type} : ∀ (l : List α) (n : Nat), fr_nth l n = l[n]?
  | [], n => by cases n <;> rfl
  | a :: l, 0 => rfl
  | a :: l, n + 1 => by rw [fr_nth, fr_nth_eq l n]; rfl
theorem fr_stn_eq {α : Type} : ∀ (l : List α) (n : Nat) (v : α), fr_stn l n v = l.set n v
  | [], n, v => by cases n <;> rfl
  | a :: l, 0, v => rfl
  | a :: l, n + 1, v => by rw [fr_stn, fr_stn_eq l n v]; rfl
theorem fr_ti {x : Int} (h : fr_in x) : (Int32.ofInt x).toInt = x := by
  obtain ⟨h1, h2⟩ := h
  rw [Int32.toInt_ofInt]
  unfold Int.bmod
  have : (2 ^ 32 : Nat) = 4294967296 := by decide
  simp only [Int32.size] at *
  split <;> omega
theorem fr_in_toInt (x : Int32) : fr_in x.toInt := ⟨by have := x.le_toInt; omega, by have := x.toInt_lt; omega⟩
theorem fr_oi (x : Int32) : Int32.ofInt x.toInt = x := Int32.ofInt_toInt x
theorem fr_lt {x y : Int} (hx : fr_in x) (hy : fr_in y) : Int32.ofInt x < Int32.ofInt y ↔ x < y := by rw [Int32.lt_iff_toInt_lt, fr_ti hx, fr_ti hy]
theorem fr_le {x y : Int} (hx : fr_in x) (hy : fr_in y) : Int32.ofInt x ≤ Int32.ofInt y ↔ x ≤ y := by rw [Int32.le_iff_toInt_le, fr_ti hx, fr_ti hy]
theorem fr_eq {x y : Int} (hx : fr_in x) (hy : fr_in y) : Int32.ofInt x = Int32.ofInt y ↔ x = y := ⟨fun h => by rw [← fr_ti hx, ← fr_ti hy, h], fun h => by rw [h]⟩
theorem fr_in0 : fr_in 0 := ⟨by decide, by decide⟩
theorem fr_lt0 {x : Int} (hx : fr_in x) : Int32.ofInt x < 0 ↔ x < 0 := fr_lt (y := 0) hx fr_in0
theorem fr_0lt {x : Int} (hx : fr_in x) : 0 < Int32.ofInt x ↔ 0 < x := fr_lt (x := 0) fr_in0 hx
theorem fr_le0 {x : Int} (hx : fr_in x) : Int32.ofInt x ≤ 0 ↔ x ≤ 0 := fr_le (y := 0) hx fr_in0
theorem fr_0le {x : Int} (hx : fr_in x) : 0 ≤ Int32.ofInt x ↔ 0 ≤ x := fr_le (x := 0) fr_in0 hx
theorem fr_eq0 {x : Int} (hx : fr_in x) : Int32.ofInt x = 0 ↔ x = 0 := fr_eq (y := 0) hx fr_in0
theorem fr_cl {x : Int} (hx : fr_in x) : (Int32.ofInt x).toNatClampNeg = x.toNat := by
  show (Int32.ofInt x).toInt.toNat = _
  rw [fr_ti hx]
theorem fr_vin {i : Int} {n : Nat} (hi : fr_in i) (h : 0 ≤ i ∧ i < (n : Int)) : vp_in (Int32.ofInt i) n := by
  rw [vp_in_iff, fr_ti hi]; exact h
theorem fr_div {x y : Int} (hx : fr_in x) (hy : fr_in y) (h : 0 ≤ x ∧ 0 < y) : Int32.ofInt x / Int32.ofInt y = Int32.ofInt (x / y) := by
  obtain ⟨a, rfl⟩ : ∃ a : Nat, x = (a : Int) := ⟨x.toNat, by omega⟩
  obtain ⟨b, rfl⟩ : ∃ b : Nat, y = (b : Int) := ⟨y.toNat, by omega⟩
  have h1 := pk_div (a := a) (d := b) (by have := hx.2; omega) (by omega) (by have := hy.2; omega)
  exact h1
theorem fr_mod {x y : Int} (hx : fr_in x) (hy : fr_in y) (h : 0 ≤ x ∧ 0 < y) : Int32.ofInt x - Int32.ofInt x / Int32.ofInt y * Int32.ofInt y = Int32.ofInt (x % y) := by
  obtain ⟨a, rfl⟩ : ∃ a : Nat, x = (a : Int) := ⟨x.toNat, by omega⟩
  obtain ⟨b, rfl⟩ : ∃ b : Nat, y = (b : Int) := ⟨y.toNat, by omega⟩
  have h1 := pk_rem (a := a) (d := b) (by have := hx.2; omega) (by omega) (by have := hy.2; omega)
  exact h1
theorem fr_in_div {x y : Int} (hx : fr_in x) (h : 0 ≤ x ∧ 0 < y) : fr_in (x / y) := by
  have h1 := Int.ediv_nonneg h.1 (Int.le_of_lt h.2)
  have h2 := Int.ediv_le_self y h.1
  exact ⟨by omega, by have := hx.2; omega⟩
theorem fr_in_mod {x y : Int} (hx : fr_in x) (h : 0 ≤ x ∧ 0 < y) : fr_in (x % y) := by
  have h1 := Int.emod_nonneg x (b := y) (by omega)
  have h2 := Int.emod_lt_of_pos x h.2
  have h3 := hx.2
  have h4 : x % y ≤ x := by
    have := Int.mul_ediv_add_emod x y
    have h5 : 0 ≤ y * (x / y) := Int.mul_nonneg (Int.le_of_lt h.2) (Int.ediv_nonneg h.1 (Int.le_of_lt h.2))
    omega
  exact ⟨by omega, by omega⟩
theorem fr_b2_e {st : List fr_V} {f : Int → Int → List fr_V → Prop} (h : fr_b2 st f) : ∃ x y r, st = .inl y :: .inl x :: r ∧ f x y r := by
  unfold fr_b2 at h
  split at h
  · exact ⟨_, _, _, rfl, h⟩
  · exact h.elim
theorem fr_u1_e {st : List fr_V} {f : Int → List fr_V → Prop} (h : fr_u1 st f) : ∃ x r, st = .inl x :: r ∧ f x r := by
  unfold fr_u1 at h
  split at h
  · exact ⟨_, _, rfl, h⟩
  · exact h.elim
theorem fr_ild_e {ls : fr_L} {i : Nat} {f : Int → Prop} (h : fr_ild ls i f) : ∃ x, ls[i]? = some (some (.inl x)) ∧ f x := by
  unfold fr_ild at h
  split at h
  · next x hq => exact ⟨x, by rw [← fr_nth_eq]; exact hq, h⟩
  · exact h.elim
theorem fr_cond_e {b : Bool} {A : Prop} (h : cond b A False) : b = true ∧ A := by
  cases b
  · exact h.elim
  · exact ⟨rfl, h⟩
theorem fr_obj_e {sh : fr_H} {k a : Nat} {f : fr_F → Prop} (h : fr_obj sh k a f) : ∃ fs, sh[k]? = some (.inr (a, fs)) ∧ f fs := by
  unfold fr_obj at h
  split at h
  · next ci fs hq =>
    obtain ⟨h1, h2⟩ := fr_cond_e h
    rw [Nat.beq_eq] at h1
    subst h1
    exact ⟨fs, by rw [← fr_nth_eq]; exact hq, h2⟩
  · exact h.elim
theorem fr_arr_e {sh : fr_H} {k : Nat} {f : Nat → Nat → Prop} (h : fr_arr sh k f) : ∃ t n, sh[k]? = some (.inl (t, n)) ∧ f t n := by
  unfold fr_arr at h
  split at h
  · next t n hq => exact ⟨t, n, by rw [← fr_nth_eq]; exact hq, h⟩
  · exact h.elim
end
section
/-! ===== the real heap that holds the machine's rows ===== -/
abbrev fr_G : Type := Nat × Nat × va_G × (Nat → ClassId)
def fr_rv (G : fr_G) (v : fr_V) : Value := match v with
  | .inl x => .int (Int32.ofInt x)
  | .inr (.inl k) => .ref (G.1 + k)
  | .inr (.inr (.inl l)) => .long l
  | .inr (.inr (.inr _)) => .ref G.2.1
def fr_ok (v : fr_V) : Prop := match v with
  | .inl x => fr_in x
  | _ => True
def fr_fv (G : fr_G) (fs : fr_F) (f : Int → Int) (j : Nat) : Value := match fs[j]? with
  | some (some none) => .null
  | some (some (some q)) => .ref (G.1 + q)
  | _ => .int (Int32.ofInt (f (j : Int)))
def fr_aty (t : Nat) : FieldType := match t with
  | 0 => .int
  | 1 => .boolean
  | _ => .byte
def fr_row (G : fr_G) (t n : Nat) (f : Int → Int) : Cell := arrV (G.2.2.2 t) n (fun j => .int (Int32.ofInt (f (j : Int))))
def fr_at (G : fr_G) (k : Nat) (cell : (Nat × Nat) ⊕ (Nat × fr_F)) (f : Int → Int) (H : Heap) : Prop := match cell with
  | .inl (t, n) => n < 2147483648 ∧ t ≤ 2 ∧ H[G.1 + k]? = some (fr_row G t n f)
  | .inr (ci, fs) => ∃ r : vw_C, vwCl[ci]? = some r ∧ fs.length = r.2.2 ∧ t_OB (G.1 + k) (G.2.2.1.1 ci) r.2.2 (G.2.2.1.2 ci) H (fr_fv G fs f)
theorem fr_at.kept {G : fr_G} {k : Nat} {cell : (Nat × Nat) ⊕ (Nat × fr_F)} {f g : Int → Int} {H H1 : Heap} (h : fr_at G k cell f H) (e : H1[G.1 + k]? = H[G.1 + k]?) (hf : f = g) : fr_at G k cell g H1 := by
  subst hf
  cases cell with
  | inl q => exact ⟨h.1, h.2.1, by rw [e]; exact h.2.2⟩
  | inr q =>
    obtain ⟨r, h1, h2, h3⟩ := h
    exact ⟨r, h1, h2, h3.kept e⟩
def fr_P (G : fr_G) (sh : fr_H) (M : fr_M) (H : Heap) : Prop := H.size = G.1 + sh.length ∧ ∀ (k : Nat) (cell : (Nat × Nat) ⊕ (Nat × fr_F)), sh[k]? = some cell → fr_at G k cell (M k) H
def fr_KK (G : fr_G) (s : State) : Prop := va_K G.2.2.1 vwCl [(G.2.2.2 0, .int), (G.2.2.2 1, .boolean), (G.2.2.2 2, .byte)] s
theorem fr_KK.arr {G : fr_G} {s : State} (h : fr_KK G s) {t : Nat} (ht : t ≤ 2) : ArrOfT s (G.2.2.2 t) (fr_aty t) := by
  rcases (show t = 0 ∨ t = 1 ∨ t = 2 by omega) with rfl | rfl | rfl
  · exact (h.2 0 _ rfl).1
  · exact (h.2 1 _ rfl).1
  · exact (h.2 2 _ rfl).1
def fr_LL (G : fr_G) (ls : fr_L) (ls' : Array Slot) (nL : Nat) : Prop := ls.length = nL ∧ ls'.size = nL ∧ lv_wf ls' ∧ ∀ (i : Nat) (v : fr_V), ls[i]? = some (some v) → ls'[i]? = some (.val (fr_rv G v))
/-- the locals as the kit lists them -/
def fr_lst (G : fr_G) (ls : fr_L) : List (Nat × Value) := (List.range ls.length).filterMap (fun i => match ls[i]? with
  | some (some v) => some (i, fr_rv G v)
  | _ => none)
theorem fr_lst_in {G : fr_G} {ls : fr_L} {q : Nat × Value} : q ∈ fr_lst G ls ↔ ∃ v, ls[q.1]? = some (some v) ∧ q.2 = fr_rv G v := by
  unfold fr_lst
  rw [List.mem_filterMap]
  constructor
  · rintro ⟨i, hi, h⟩
    split at h
    · next v hv =>
      cases h
      exact ⟨v, hv, rfl⟩
    · cases h
  · rintro ⟨v, hv, e⟩
    refine ⟨q.1, List.mem_range.mpr (List.getElem?_eq_some_iff.mp hv).1, ?_⟩
    rw [hv]
    show some (q.1, fr_rv G v) = some q
    rw [← e]
theorem fr_LL.has {G : fr_G} {ls : fr_L} {ls' : Array Slot} {nL : Nat} (h : fr_LL G ls ls' nL) : lv_has ls' nL (fr_lst G ls) := ⟨h.2.1, h.2.2.1, fun q hq => by
  obtain ⟨v, hv, e⟩ := fr_lst_in.mp hq
  rw [e]
  exact h.2.2.2 _ _ hv⟩
theorem fr_sk_e {ls : fr_L} {i : Nat} (h : fr_sk ls i = true) : i < ls.length ∧ ∀ (j : Nat) (x : Int64), j + 1 = i → ls[j]? = some (some (.inr (.inr (.inl x)))) → False := by
  unfold fr_sk at h
  rw [Bool.and_eq_true] at h
  refine ⟨Nat.blt_eq.mp h.1, fun j x e hj => ?_⟩
  subst e
  have h2 := h.2
  simp only [fr_nth_eq, hj] at h2
  cases h2
theorem fr_cat_rv (G : fr_G) (v : fr_V) : (fr_rv G v).category = fr_cat v := by
  rcases v with x | k | l | u <;> rfl
/-- a local is written -/
theorem fr_LL.set {G : fr_G} {ls : fr_L} {ls' ls2 : Array Slot} {nL i : Nat} {v : fr_V} (h : fr_LL G ls ls' nL) (hk : fr_sk ls i = true) (h2 : lv_has ls2 nL ((i, fr_rv G v) :: (fr_lst G ls).filter (fun q => !(q.1 == i) && !(q.1 + 1 == i && q.2.category == 2)))) : fr_LL G (fr_stn ls i (some v)) ls2 nL := by
  obtain ⟨hi, hl⟩ := fr_sk_e hk
  rw [fr_stn_eq]
  refine ⟨by rw [List.length_set]; exact h.1, h2.1, h2.2.1, fun j w hj => ?_⟩
  by_cases e : i = j
  · subst e
    rw [List.getElem?_set_self hi] at hj
    cases hj
    exact h2.2.2 (i, fr_rv G v) List.mem_cons_self
  · rw [List.getElem?_set_ne e] at hj
    refine h2.2.2 (j, fr_rv G w) (List.mem_cons_of_mem _ (List.mem_filter.mpr ⟨fr_lst_in.mpr ⟨w, hj, rfl⟩, ?_⟩))
    have e1 : (j == i) = false := by simp; omega
    by_cases e2 : j + 1 = i
    · have e3 : ((fr_rv G w).category == 2) = false := by
        rw [fr_cat_rv]
        rcases w with x | k | l | u
        · rfl
        · rfl
        · exact (hl j l e2 hj).elim
        · rfl
      simp [e1, e3]
    · have e4 : (j + 1 == i) = false := by simp; omega
      simp [e1, e4]
def fr_S (nL : Nat) (R : Room) (s : State) (G : fr_G) (ls : fr_L) (st : List fr_V) (sh : fr_H) (M : fr_M) (bc bs : Nat) (ls' : Array Slot) (H : Heap) (locs : List Loc) (cells slots : Nat) : Prop :=
  fr_LL G ls ls' nL ∧ (∀ v, some v ∈ ls → fr_ok v) ∧ (∀ v ∈ st, fr_ok v) ∧ (∀ k i, fr_in (M k i)) ∧ fr_P G sh M H ∧ va_S (fun q => G.1 ≤ q) s.heap H locs ∧ cells + bc ≤ R.cells ∧ slots + bs ≤ R.slots
theorem fr_S.stk {nL : Nat} {R : Room} {s : State} {G : fr_G} {ls : fr_L} {st st2 : List fr_V} {sh : fr_H} {M : fr_M} {bc bs : Nat} {ls' : Array Slot} {H : Heap} {locs : List Loc} {cells slots : Nat} (h : fr_S nL R s G ls st sh M bc bs ls' H locs cells slots) (h2 : ∀ v ∈ st2, fr_ok v) : fr_S nL R s G ls st2 sh M bc bs ls' H locs cells slots := ⟨h.1, h.2.1, h2, h.2.2.2⟩
theorem fr_S.loc {nL : Nat} {R : Room} {s : State} {G : fr_G} {ls : fr_L} {st st2 : List fr_V} {sh : fr_H} {M : fr_M} {bc bs i : Nat} {v : fr_V} {ls' ls2 : Array Slot} {H : Heap} {locs : List Loc} {cells slots : Nat} (h : fr_S nL R s G ls st sh M bc bs ls' H locs cells slots) (h2 : ∀ v ∈ st2, fr_ok v) (hv : fr_ok v) (hk : fr_sk ls i = true) (h3 : lv_has ls2 nL ((i, fr_rv G v) :: (fr_lst G ls).filter (fun q => !(q.1 == i) && !(q.1 + 1 == i && q.2.category == 2)))) : fr_S nL R s G (fr_stn ls i (some v)) st2 sh M bc bs ls2 H locs cells slots := by
  refine ⟨h.1.set hk h3, fun w hw => ?_, h2, h.2.2.2⟩
  rw [fr_stn_eq] at hw
  rcases List.mem_or_eq_of_mem_set hw with q | q
  · exact h.2.1 w q
  · cases q
    exact hv
theorem fr_okc {v : fr_V} {st : List fr_V} (h : fr_ok v) (h2 : ∀ v ∈ st, fr_ok v) : ∀ w ∈ v :: st, fr_ok w := fun w hw => by
  rcases List.mem_cons.mp hw with rfl | q
  · exact h
  · exact h2 w q
theorem fr_okt {v : fr_V} {st : List fr_V} (h2 : ∀ w ∈ v :: st, fr_ok w) : ∀ w ∈ st, fr_ok w := fun w hw => h2 w (List.mem_cons_of_mem _ hw)
theorem fr_okh {v : fr_V} {st : List fr_V} (h2 : ∀ w ∈ v :: st, fr_ok w) : fr_ok v := h2 v List.mem_cons_self
theorem fr_up_in {M : fr_M} {k : Nat} {i x : Int} (h : ∀ k i, fr_in (M k i)) (hx : fr_in x) : ∀ k' i', fr_in (fr_up M k i x k' i') := by
  intro k' i'
  unfold fr_up
  split
  · split
    · exact hx
    · exact h _ _
  · exact h _ _
theorem fr_zr_in {M : fr_M} {k : Nat} (h : ∀ k i, fr_in (M k i)) : ∀ k' i', fr_in (fr_zr M k k' i') := by
  intro k' i'
  unfold fr_zr
  split
  · exact fr_in0
  · exact h _ _
theorem fr_cp_in {M : fr_M} {ks kd : Nat} {sp dp n : Int} (h : ∀ k i, fr_in (M k i)) : ∀ k' i', fr_in (fr_cp M ks sp kd dp n k' i') := by
  intro k' i'
  unfold fr_cp
  split
  · split
    · exact h _ _
    · exact h _ _
  · exact h _ _
theorem fr_up_o {M : fr_M} {k k' : Nat} {i x : Int} (h : k' ≠ k) : fr_up M k i x k' = M k' := by
  funext j
  unfold fr_up
  rw [if_neg h]
theorem fr_up_s {M : fr_M} {k : Nat} {i x : Int} (j : Int) : fr_up M k i x k j = if j = i then x else M k j := by
  unfold fr_up
  rw [if_pos rfl]
/-- a row is written at one place -/
theorem fr_P.put {G : fr_G} {sh : fr_H} {M : fr_M} {H H1 : Heap} {k : Nat} {i x : Int} {t n : Nat} (h : fr_P G sh M H) (hk : sh[k]? = some (.inl (t, n))) (hi : 0 ≤ i ∧ i < (n : Int)) (e : H1[G.1 + k]? = some ((fr_row G t n (M k)).setSlot i.toNat (.int (Int32.ofInt x)))) (z : H1.size = H.size) (o : ∀ q, q ≠ G.1 + k → H1[q]? = H[q]?) : fr_P G sh (fr_up M k i x) H1 := by
  refine ⟨z.trans h.1, fun j cell hj => ?_⟩
  by_cases hjk : j = k
  · subst hjk
    cases hk.symm.trans hj
    obtain ⟨h1, h2, h3⟩ := h.2 j _ hk
    refine ⟨h1, h2, ?_⟩
    rw [e]
    unfold fr_row
    rw [arrV_store]
    congr 2
    funext q
    unfold updV
    rw [fr_up_s]
    by_cases hq : q = i.toNat
    · rw [if_pos hq, if_pos (by omega)]
    · rw [if_neg hq, if_neg (by omega)]
  · exact (h.2 j cell hj).kept (o _ (by omega)) (fr_up_o hjk).symm
theorem va_S.put' {A : Nat → Prop} {H0 H H1 : Heap} {locs L : List Loc} {a : Nat} (h : va_S A H0 H locs) (z : H1.size = H.size) (oq : ∀ q : Nat, q ≠ a → H1[q]? = H[q]?) (ha : A a) (hL : ∀ q ∈ L, A q.base) : va_S A H0 H1 (locs ++ L) := by
  refine ⟨by rw [z]; exact h.1, fun q h1 h2 => ?_, fun q hq => ?_⟩
  · rw [oq q (fun e => h2 (by rw [e]; exact ha))]
    exact h.2.1 q h1 h2
  · rcases List.mem_append.mp hq with h1 | h1
    · exact h.2.2 q h1
    · exact hL q h1
/-- a new cell at the heap's end -/
theorem fr_P.push {G : fr_G} {sh : fr_H} {M : fr_M} {H H1 : Heap} {cell : (Nat × Nat) ⊕ (Nat × fr_F)} (h : fr_P G sh M H) (e : fr_at G sh.length cell (fun _ => 0) H1) (z : H1.size = H.size + 1) (o : ∀ q, q < H.size → H1[q]? = H[q]?) : fr_P G (sh ++ [cell]) (fr_zr M sh.length) H1 := by
  refine ⟨by rw [z, h.1, List.length_append]; rfl, fun j c hj => ?_⟩
  by_cases hl : j < sh.length
  · rw [List.getElem?_append_left hl] at hj
    exact (h.2 j c hj).kept (o _ (by rw [h.1]; omega)) (by funext q; unfold fr_zr; rw [if_neg (by omega)])
  · have hj2 := (List.getElem?_eq_some_iff.mp hj).1
    rw [List.length_append] at hj2
    have ej : j = sh.length := by simp at hj2; omega
    subst ej
    rw [List.getElem?_append_right (Nat.le_refl _)] at hj
    simp at hj
    subst hj
    exact (show fr_at G sh.length cell (fun _ => 0) H1 from e).kept rfl (by funext q; unfold fr_zr; rw [if_pos rfl])
end
section
/-! ===== what the tables give ===== -/
theorem fr_link {own : Nat} {o : String} {q : Nat × Nat × Nat × Nat × Int} (ho : fr_own[own]? = some o) (h : fr_mem own q = true) : fr_word o q ∈ lw_tbl := by
  unfold fr_mem at h
  split at h
  · next l hl =>
    rw [fr_nth_eq] at hl
    obtain ⟨r, hr, h2⟩ := List.any_eq_true.mp h
    rw [Bool.and_eq_true] at h2
    have e := of_decide_eq_true h2.2
    subst e
    have hlt : own < fr_lkp.length := by
      have := (List.getElem?_eq_some_iff.mp hl).1
      exact this
    obtain ⟨ps, hps⟩ : ∃ ps, fr_lkp[own]? = some ps := ⟨_, List.getElem?_eq_getElem hlt⟩
    have h3 := List.all_eq_true.mp fr_lk_all (o, l, ps) (List.mem_of_getElem? (i := own) (by rw [List.getElem?_zip_eq_some]; exact ⟨ho, by rw [List.getElem?_zip_eq_some]; exact ⟨hl, hps⟩⟩))
    unfold fr_lkc at h3
    rw [Bool.and_eq_true] at h3
    obtain ⟨i, hi⟩ := List.getElem?_of_mem hr
    have hi2 : i < ps.length := by
      have h4 := beq_iff_eq.mp h3.1
      have := (List.getElem?_eq_some_iff.mp hi).1
      dsimp only at h4
      omega
    have h5 := List.all_eq_true.mp h3.2 (r, ps[i]) (List.mem_of_getElem? (i := i) (by rw [List.getElem?_zip_eq_some]; exact ⟨hi, List.getElem?_eq_getElem hi2⟩))
    exact List.mem_of_getElem? (of_decide_eq_true h5)
  · cases h
theorem fr_cls {ci : Nat} {r : vw_C} (h : vwCl[ci]? = some r) : (∀ w ∈ u_ws r.1 r.2.1 r.2.2, w ∈ lw_tbl) ∧ (∀ k, k < r.2.2 → parseFieldDescriptor (r.2.1 k).2.2.1 = some (fr_fty ci k)) ∧ (∀ a, a < r.2.2 → ∀ b, b < r.2.2 → a ≠ b → (r.2.1 a).2.1 ≠ (r.2.1 b).2.1) := by
  match ci, h with
  | 0, h => cases h; exact ⟨inX0, tyX0_ok, nmX0⟩
  | 1, h => cases h; exact ⟨inX1, tyX1_ok, nmX1⟩
  | 2, h => cases h; exact ⟨inX2, tyX2_ok, nmX2⟩
  | 3, h => cases h; exact ⟨inX3, tyX3_ok, nmX3⟩
  | 4, h => cases h; exact ⟨inX4, tyX4_ok, nmX4⟩
  | 5, h => cases h; exact ⟨inX5, tyX5_ok, nmX5⟩
  | 6, h => cases h; exact ⟨inX6, tyX6_ok, nmX6⟩
  | 7, h => cases h; exact ⟨inX7, tyX7_ok, nmX7⟩
  | 8, h => cases h; exact ⟨inX8, tyX8_ok, nmX8⟩
  | 9, h => cases h; exact ⟨inX9, tyX9_ok, nmX9⟩
  | 10, h => cases h; exact ⟨inX10, tyX10_ok, nmX10⟩
  | 11, h => cases h; exact ⟨inX11, tyX11_ok, nmX11⟩
  | 12, h => cases h; exact ⟨inX12, tyX12_ok, nmX12⟩
  | n + 13, h => simp [vwCl] at h
theorem fr_lays_good {C : String} {T : u_T} {N : Nat} (h : ∀ w ∈ u_ws C T N, w ∈ lw_tbl) : ∀ w ∈ u_ws C T N, w ∈ lw_gd := fun w hw => lw_gd_in (h w hw) (by
  obtain ⟨k, -, rfl⟩ := List.mem_map.mp hw
  unfold u_lay
  split <;> rfl)
theorem fr_cls2 {ci : Nat} {r : vw_C} (h : vwCl[ci]? = some r) : fr_own[ci]? = some r.1 ∧ Cond.instantiable r.1 r.2.2 ∈ lw_tbl ∧ Cond.initialized r.1 ∈ lw_tbl ∧ fr_kind fr_kd ci = (List.range r.2.2).map (fun k => fr_fk (fr_fty ci k)) := by
  have hl := (List.getElem?_eq_some_iff.mp h).1
  have hl : ci < 13 := hl
  have l1 : ci < fr_own.length := Nat.lt_of_lt_of_le hl (by decide)
  have l2 : ci < fr_ip.length := Nat.lt_of_lt_of_le hl (by decide)
  have l3 : ci < fr_kd.length := Nat.lt_of_lt_of_le hl (by decide)
  have l4 : ci < fr_tys.length := Nat.lt_of_lt_of_le hl (by decide)
  have h3 := List.all_eq_true.mp fr_cc_all (r, fr_own[ci], fr_ip[ci], fr_kd[ci], fr_tys[ci]) (List.mem_of_getElem? (i := ci) (by
    rw [List.getElem?_zip_eq_some]; refine ⟨h, ?_⟩
    rw [List.getElem?_zip_eq_some]; refine ⟨List.getElem?_eq_getElem l1, ?_⟩
    rw [List.getElem?_zip_eq_some]; refine ⟨List.getElem?_eq_getElem l2, ?_⟩
    rw [List.getElem?_zip_eq_some]; exact ⟨List.getElem?_eq_getElem l3, List.getElem?_eq_getElem l4⟩))
  unfold fr_cc1 at h3
  simp only [Bool.and_eq_true, decide_eq_true_eq] at h3
  obtain ⟨⟨⟨e1, e2⟩, e3⟩, e4⟩ := h3
  refine ⟨by rw [List.getElem?_eq_getElem l1, e1], List.mem_of_getElem? e2, List.mem_of_getElem? e3, ?_⟩
  unfold fr_kind fr_fty
  simp only [fr_nth_eq, List.getElem?_eq_getElem l3, List.getElem?_eq_getElem l4]
  exact e4
/-- a method of the table -/
theorem fr_meth {mj : Nat} {r : fr_T} (h : fr_tab[mj]? = some r) : fr_own[r.1]? = some r.2.1.cls ∧ (r.2.2.2.2.2.2.2.1 ≠ 3 → Cond.code r.2.1 r.2.2.1 r.2.2.2.1 r.2.2.2.2.1 ∈ lw_tbl ∧ Cond.initialized r.2.1.cls ∈ lw_tbl ∧ (r.2.1.cls ≠ "java/lang/invoke/MethodHandle" ∧ r.2.1.cls ≠ "java/lang/invoke/VarHandle" ∧ (parseMethodDescriptor r.2.1.desc).map (fun d => d.parameters.length) = some r.2.2.2.2.2.2.2.2) ∧ plainName r.2.1.cls = true ∧
    (r.2.2.2.2.2.2.2.1 = 0 → Cond.static r.2.1 ∈ lw_tbl) ∧ (r.2.2.2.2.2.2.2.1 ≠ 0 → Cond.instanceMethod r.2.1 ∈ lw_tbl) ∧ (r.2.2.2.2.2.2.2.1 = 1 → Cond.selects r.2.1.cls r.2.1 r.2.1 ∈ lw_tbl) ∧ (r.2.2.2.2.2.2.2.1 = 2 → r.2.1.name = "<init>")) := by
  have hl : mj < 207 := (List.getElem?_eq_some_iff.mp h).1
  have l1 : mj < fr_mp.length := hl
  have h3 := List.all_eq_true.mp fr_mc_all (r, fr_mp[mj]) (List.mem_of_getElem? (i := mj) (by rw [List.getElem?_zip_eq_some]; exact ⟨h, List.getElem?_eq_getElem l1⟩))
  unfold fr_mc1 at h3
  split at h3
  · next hk => exact ⟨by rw [← fr_nth_eq]; exact of_decide_eq_true h3, fun hn => absurd hk hn⟩
  · next _ hn =>
    simp only [Bool.and_eq_true, decide_eq_true_eq] at h3
    obtain ⟨⟨⟨⟨e1, e2⟩, e3⟩, e4⟩, e5⟩ := h3
    refine ⟨by rw [← fr_nth_eq]; exact e1, fun hn3 => ⟨?_, List.mem_of_getElem? e2, e3, e4, ?_, ?_, ?_, ?_⟩⟩
    · have hlt : mj < 206 := by
        rcases Nat.lt_or_ge mj 206 with q | q
        · exact q
        · have e : mj = 206 := by omega
          subst e
          have e7 : fr_tab[206]? = some r := h
          have e8 : (fr_tab[206]?.map (fun r => r.2.2.2.2.2.2.2.1)) = some 3 := rfl
          rw [e7] at e8
          exact absurd (Option.some.inj e8) hn3
      have e6 := congrArg (fun l => l[mj]?) fr_cw_all
      simp only [List.getElem?_map, List.getElem?_take, hlt, if_true, h, List.getElem?_eq_getElem l1, Option.map_some] at e6
      exact List.mem_of_getElem? (Option.some.inj e6).symm
    · intro e0
      split at e5
      · exact List.mem_of_getElem? (of_decide_eq_true e5)
      · next q => rw [q] at e0; cases e0
      · next q0 q1 => exact absurd e0 q0
    · intro e0
      split at e5
      · next q => exact absurd q e0
      · rw [Bool.and_eq_true] at e5; exact List.mem_of_getElem? (of_decide_eq_true e5.1)
      · rw [Bool.and_eq_true] at e5; exact List.mem_of_getElem? (of_decide_eq_true e5.1)
    · intro e1
      split at e5
      · next q => rw [q] at e1; cases e1
      · rw [Bool.and_eq_true] at e5; exact List.mem_of_getElem? (of_decide_eq_true e5.2)
      · next q0 q1 => exact absurd e1 q1
    · intro e2
      split at e5
      · next q => rw [q] at e2; cases e2
      · next q => rw [q] at e2; cases e2
      · rw [Bool.and_eq_true] at e5; exact of_decide_eq_true e5.2
theorem fr_rcc_of {mj : Nat} {r : fr_T} (h : fr_tab[mj]? = some r) : fr_rcc r = true := List.all_eq_true.mp fr_rc_all r (List.mem_of_getElem? h)
/-! ===== the judgement: from here on the real machine comes to its end, and what the machine of whole numbers says holds there ===== -/
def fr_X (rc : fr_T) (p : Program) (R : Room) (s : State) (m : MethodId) (args : Array Value) (meth : Method) (c : Code) (G : fr_G) (scr : Option (Nat × (Int → Int))) : Prop :=
  p.tables.exec = Jvm.exec ∧ c.code = rc.2.2.1 ∧ c.maxLocals = rc.2.2.2.1 ∧ (∃ o, fr_own[rc.1]? = some o ∧ s.vm.findClass o = some m.cls) ∧ (∀ w ∈ lw_gd, w.before args s = true) ∧ fr_KK G s ∧ (rc.2.2.2.2.2.2.1.frames ≤ R.frames ∧ rc.2.2.2.2.2.2.1.locals ≤ R.locals) ∧ G.1 ≤ s.heap.size ∧ (rc.2.2.2.2.2.2.2.1 = 2 → meth.name = "<init>") ∧
  (∀ n f, scr = some (n, f) → n < 2147483648 ∧ (∀ i, fr_in (f i)) ∧ G.2.1 < G.1 ∧ va_X G.2.1 n (fun j => Int32.ofInt (f (j : Int))) s s.heap)
def fr_Wt (p : Program) (l : Launch) (e : Env) (R : Room) (s : State) (m : MethodId) (args : Array Value) (below : List Frame) (meth : Method) (c : Code) (Z : State → Prop) (G : fr_G) (nL pc : Nat) (ls : fr_L) (st : List fr_V) (sh : fr_H) (M : fr_M) (bc bs : Nat) : Prop :=
  ∀ (ls' : Array Slot) (H : Heap) (locs : List Loc) (cells slots : Nat), fr_S nL R s G ls st sh M bc bs ls' H locs cells slots → W p l e R s m args below meth c H locs cells slots Z (F0 m pc ls' (st.map (fr_rv G)))
def fr_rd (rc : fr_T) (pc : Nat) (r : Option fr_V) : Prop := match r with
  | none => decode rc.2.2.1 pc = .ok (.return_, 1) ∧ rc.2.2.2.2.1 = none
  | some (.inl x) => decode rc.2.2.1 pc = .ok (.ireturn, 1) ∧ (rc.2.2.2.2.1 = some .int ∨ (rc.2.2.2.2.1 = some .boolean ∧ 0 ≤ x ∧ x ≤ 1))
  | some (.inr (.inl _)) => decode rc.2.2.1 pc = .ok (.areturn, 1) ∧ ∃ n, rc.2.2.2.2.1 = some (.object n)
  | _ => False
def fr_Rt (rc : fr_T) (p : Program) (l : Launch) (e : Env) (R : Room) (s : State) (m : MethodId) (args : Array Value) (below : List Frame) (meth : Method) (c : Code) (Z : State → Prop) (G : fr_G) (Q : Option fr_V → fr_H → fr_M → Prop) : Prop :=
  ∀ (pc : Nat) (ls : fr_L) (r : Option fr_V) (sh : fr_H) (M : fr_M) (bc bs : Nat), Q r sh M → fr_rd rc pc r → fr_Wt p l e R s m args below meth c Z G rc.2.2.2.1 pc ls r.toList sh M bc bs
def fr_Run (mi : Nat) (scr : Option (Nat × (Int → Int))) (ix : Nat) (ls : fr_L) (st : List fr_V) (sh : fr_H) (M : fr_M) (bc bs : Nat) (Q : Option fr_V → fr_H → fr_M → Prop) : Prop :=
  ∀ (rc : fr_T) (p : Program) (l : Launch) (e : Env) (R : Room) (s : State) (m : MethodId) (args : Array Value) (below : List Frame) (meth : Method) (c : Code) (Z : State → Prop) (G : fr_G), fr_tab[mi]? = some rc → fr_X rc p R s m args meth c G scr → fr_Rt rc p l e R s m args below meth c Z G Q → fr_Wt p l e R s m args below meth c Z G rc.2.2.2.1 (fr_tg rc.2.2.2.2.2.1 ix) ls st sh M bc bs
def fr_ini : Nat → List fr_V → fr_L
  | n, [] => List.replicate n none
  | n, v :: vs => some v :: (match fr_cat v with
    | 2 => none :: fr_ini (n - 2) vs
    | _ => fr_ini (n - 1) vs)
def fr_mx (mj : Nat) : Nat := match fr_nth fr_tab mj with
  | some r => r.2.2.2.1
  | none => 0
def fr_mcc (mj : Nat) : Nat := match fr_nth fr_tab mj with
  | some r => r.2.2.2.2.2.2.1.cells
  | none => 0
def fr_mss (mj : Nat) : Nat := match fr_nth fr_tab mj with
  | some r => r.2.2.2.2.2.2.1.slots
  | none => 0
def fr_Call (mj : Nat) (as : List fr_V) (sh : fr_H) (M : fr_M) (q : Option fr_V → fr_H → fr_M → Prop) : Prop := fr_Run mj none 0 (fr_ini (fr_mx mj) as) [] sh M (fr_mcc mj) (fr_mss mj) q
end
section
/-! ===== each instruction of the machine of whole numbers is the real one ===== -/
section FrStep
variable {p : Program} {l : Launch} {e : Env} {R : Room} {s : State} {m : MethodId} {args : Array Value} {below : List Frame} {meth : Method} {c : Code} {Z : State → Prop} {G : fr_G} {rc : fr_T} {scr : Option (Nat × (Int → Int))}
variable {ls : fr_L} {st : List fr_V} {sh : fr_H} {M : fr_M} {bc bs pc : Nat}
theorem fr_X.w (X : fr_X rc p R s m args meth c G scr) {w : Cond} (h : w ∈ lw_tbl) (g : goodWord w = true) : w.before args s = true := X.2.2.2.2.1 w (lw_gd_in h g)
theorem fr_s_push {v : fr_V} {n : Nat} (k : fr_Wt p l e R s m args below meth c Z G n pc ls (v :: st) sh M bc bs) (hv : fr_ok v) : ∀ (ls' : Array Slot) (H : Heap) (locs : List Loc) (cells slots : Nat), fr_S n R s G ls st sh M bc bs ls' H locs cells slots → W p l e R s m args below meth c H locs cells slots Z (F0 m pc ls' (fr_rv G v :: st.map (fr_rv G))) := fun ls' H locs cells slots S => k ls' H locs cells slots (S.stk (fr_okc hv S.2.2.1))
theorem fr_s_ild (X : fr_X rc p R s m args meth c G scr) {i : Nat} {x : Int} (hl : ls[i]? = some (some (.inl x))) (hd : decode rc.2.2.1 pc = .ok (.iload i, 2)) (k : fr_Wt p l e R s m args below meth c Z G rc.2.2.2.1 (pc + 2) ls (.inl x :: st) sh M bc bs) : fr_Wt p l e R s m args below meth c Z G rc.2.2.2.1 pc ls st sh M bc bs := by
  intro ls' H locs cells slots S
  exact lv_iload X.1 X.2.1 hd (S.1.2.2.2 i _ hl) (fr_s_push k (S.2.1 _ (List.mem_of_getElem? hl)) ls' H locs cells slots S)
theorem fr_s_ildn (X : fr_X rc p R s m args meth c G scr) {i : Fin 4} {x : Int} (hl : ls[i.val]? = some (some (.inl x))) (hd : decode rc.2.2.1 pc = .ok (.iload_n i, 1)) (k : fr_Wt p l e R s m args below meth c Z G rc.2.2.2.1 (pc + 1) ls (.inl x :: st) sh M bc bs) : fr_Wt p l e R s m args below meth c Z G rc.2.2.2.1 pc ls st sh M bc bs := by
  intro ls' H locs cells slots S
  exact lv_iload_n X.1 X.2.1 hd rfl (S.1.2.2.2 i.val _ hl) (fr_s_push k (S.2.1 _ (List.mem_of_getElem? hl)) ls' H locs cells slots S)
theorem fr_s_jmp (X : fr_X rc p R s m args meth c G scr) {off : Int} {t : Nat} (hj : fr_jmp rc.2.2.2.2.2.1 pc off t = true) : (pc : Int) + off = (fr_tg rc.2.2.2.2.2.1 t : Int) := of_decide_eq_true hj
theorem fr_s_ifc (X : fr_X rc p R s m args meth c G scr) {q : ClassFile.Cond} {off : Int} {a : Nat} {x : Int} {r : List fr_V} (hd : decode rc.2.2.1 pc = .ok (.ifCond q off, 3)) (hj : fr_jmp rc.2.2.2.2.2.1 pc off a = true) {A B : Prop}
    (h : match (motive := ClassFile.Cond → Prop) q with
      | .eq => (x = 0 → A) ∧ (¬ x = 0 → B)
      | .ne => (¬ x = 0 → A) ∧ (x = 0 → B)
      | .lt => (x < 0 → A) ∧ (¬ x < 0 → B)
      | .ge => (0 ≤ x → A) ∧ (¬ 0 ≤ x → B)
      | .gt => (0 < x → A) ∧ (¬ 0 < x → B)
      | .le => (x ≤ 0 → A) ∧ (¬ x ≤ 0 → B))
    (hA : A → fr_Wt p l e R s m args below meth c Z G rc.2.2.2.1 (fr_tg rc.2.2.2.2.2.1 a) ls r sh M bc bs) (hB : B → fr_Wt p l e R s m args below meth c Z G rc.2.2.2.1 (pc + 3) ls r sh M bc bs) : fr_Wt p l e R s m args below meth c Z G rc.2.2.2.1 pc ls (.inl x :: r) sh M bc bs := by
  intro ls' H locs cells slots S
  have ht := fr_s_jmp X hj
  have hx : fr_in x := fr_okh S.2.2.1
  have S' := S.stk (fr_okt S.2.2.1)
  have ka : A → _ := fun z => hA z ls' H locs cells slots S'
  have kb : B → _ := fun z => hB z ls' H locs cells slots S'
  cases q with
  | eq => exact lv_if_eq X.1 X.2.1 hd ht (fun z => ka (h.1 ((fr_eq0 hx).mp z))) (fun z => kb (h.2 (fun y => z ((fr_eq0 hx).mpr y))))
  | ne => exact lv_if_ne X.1 X.2.1 hd ht (fun z => ka (h.1 (fun y => z ((fr_eq0 hx).mpr y)))) (fun z => kb (h.2 ((fr_eq0 hx).mp z)))
  | lt => exact lv_if_lt X.1 X.2.1 hd ht (fun z => ka (h.1 ((fr_lt0 hx).mp z))) (fun z => kb (h.2 (fun y => z ((fr_lt0 hx).mpr y))))
  | ge => exact lv_if_ge X.1 X.2.1 hd ht (fun z => ka (h.1 ((fr_0le hx).mp z))) (fun z => kb (h.2 (fun y => z ((fr_0le hx).mpr y))))
  | gt => exact lv_if_gt X.1 X.2.1 hd ht (fun z => ka (h.1 ((fr_0lt hx).mp z))) (fun z => kb (h.2 (fun y => z ((fr_0lt hx).mpr y))))
  | le => exact lv_if_le X.1 X.2.1 hd ht (fun z => ka (h.1 ((fr_le0 hx).mp z))) (fun z => kb (h.2 (fun y => z ((fr_le0 hx).mpr y))))
theorem fr_s_icm (X : fr_X rc p R s m args meth c G scr) {q : ClassFile.Cond} {off : Int} {a : Nat} {x y : Int} {r : List fr_V} (hd : decode rc.2.2.1 pc = .ok (.if_icmp q off, 3)) (hj : fr_jmp rc.2.2.2.2.2.1 pc off a = true) {A B : Prop}
    (h : match (motive := ClassFile.Cond → Prop) q with
      | .eq => (x = y → A) ∧ (¬ x = y → B)
      | .ne => (¬ x = y → A) ∧ (x = y → B)
      | .lt => (x < y → A) ∧ (¬ x < y → B)
      | .ge => (y ≤ x → A) ∧ (¬ y ≤ x → B)
      | .gt => (y < x → A) ∧ (¬ y < x → B)
      | .le => (x ≤ y → A) ∧ (¬ x ≤ y → B))
    (hA : A → fr_Wt p l e R s m args below meth c Z G rc.2.2.2.1 (fr_tg rc.2.2.2.2.2.1 a) ls r sh M bc bs) (hB : B → fr_Wt p l e R s m args below meth c Z G rc.2.2.2.1 (pc + 3) ls r sh M bc bs) : fr_Wt p l e R s m args below meth c Z G rc.2.2.2.1 pc ls (.inl y :: .inl x :: r) sh M bc bs := by
  intro ls' H locs cells slots S
  have ht := fr_s_jmp X hj
  have hy : fr_in y := fr_okh S.2.2.1
  have hx : fr_in x := fr_okh (fr_okt S.2.2.1)
  have S' := S.stk (fr_okt (fr_okt S.2.2.1))
  have ka : A → _ := fun z => hA z ls' H locs cells slots S'
  have kb : B → _ := fun z => hB z ls' H locs cells slots S'
  cases q with
  | eq => exact lv_icmp_eq X.1 X.2.1 hd ht (fun z => ka (h.1 ((fr_eq hx hy).mp z))) (fun z => kb (h.2 (fun y => z ((fr_eq hx hy).mpr y))))
  | ne => exact lv_icmp_ne X.1 X.2.1 hd ht (fun z => ka (h.1 (fun y => z ((fr_eq hx hy).mpr y)))) (fun z => kb (h.2 ((fr_eq hx hy).mp z)))
  | lt => exact lv_icmp_lt X.1 X.2.1 hd ht (fun z => ka (h.1 ((fr_lt hx hy).mp z))) (fun z => kb (h.2 (fun y => z ((fr_lt hx hy).mpr y))))
  | ge => exact lv_icmp_ge X.1 X.2.1 hd ht (fun z => ka (h.1 ((fr_le hy hx).mp z))) (fun z => kb (h.2 (fun y => z ((fr_le hy hx).mpr y))))
  | gt => exact lv_icmp_gt X.1 X.2.1 hd ht (fun z => ka (h.1 ((fr_lt hy hx).mp z))) (fun z => kb (h.2 (fun y => z ((fr_lt hy hx).mpr y))))
  | le => exact lv_icmp_le X.1 X.2.1 hd ht (fun z => ka (h.1 ((fr_le hx hy).mp z))) (fun z => kb (h.2 (fun y => z ((fr_le hx hy).mpr y))))
/-- the target of a table switch -/
theorem fr_tsw_e {x : Int} {D : Nat} {J : Nat → Prop} : ∀ {d : List Nat} {i : Int}, fr_tsw x D J i d → ((x < i ∨ i + d.length ≤ x) ∧ J D) ∨ ∃ t, i ≤ x ∧ x < i + d.length ∧ d[(x - i).toNat]? = some t ∧ J t
  | [], i, h => by
    left
    refine ⟨?_, h⟩
    simp; omega
  | t :: ts, i, h => by
    by_cases e : x = i
    · right
      refine ⟨t, by omega, by simp; omega, ?_, h.1 e⟩
      subst e
      simp
    · rcases fr_tsw_e (h.2 e) with ⟨h1, h2⟩ | ⟨t', h1, h2, h3, h4⟩
      · left
        refine ⟨?_, h2⟩
        simp only [List.length_cons]
        omega
      · right
        refine ⟨t', by omega, by simp only [List.length_cons]; omega, ?_, h4⟩
        have : (x - i).toNat = (x - (i + 1)).toNat + 1 := by omega
        rw [this]
        exact h3
theorem fr_zip_all {α β : Type} {f : α × β → Bool} {l : List α} {d : List β} (h : (l.zip d).all f = true) {k : Nat} {a : α} {b : β} (ha : l[k]? = some a) (hb : d[k]? = some b) : f (a, b) = true := List.all_eq_true.mp h (a, b) (List.mem_of_getElem? (i := k) (by rw [List.getElem?_zip_eq_some]; exact ⟨ha, hb⟩))
theorem fr_s_tsw (X : fr_X rc p R s m args meth c G scr) {df lo hi : Int} {offs : Array Int} {len a : Nat} {d : List Nat} {x : Int} {r : List fr_V} {J : Nat → Prop} (hd : decode rc.2.2.1 pc = .ok (.tableswitch df lo hi offs, len)) (h0 : fr_jmp rc.2.2.2.2.2.1 pc df a = true) (h1 : hi - lo + 1 = (d.length : Int)) (h2 : offs.toList.length = d.length) (h3 : (offs.toList.zip d).all (fun q => fr_jmp rc.2.2.2.2.2.1 pc q.1 q.2) = true)
    (h : fr_tsw x a J lo d) (hJ : ∀ t, J t → fr_Wt p l e R s m args below meth c Z G rc.2.2.2.1 (fr_tg rc.2.2.2.2.2.1 t) ls r sh M bc bs) : fr_Wt p l e R s m args below meth c Z G rc.2.2.2.1 pc ls (.inl x :: r) sh M bc bs := by
  intro ls' H locs cells slots S
  have hx : fr_in x := fr_okh S.2.2.1
  have S' := S.stk (fr_okt S.2.2.1)
  rcases fr_tsw_e h with ⟨q1, q2⟩ | ⟨t, q1, q2, q3, q4⟩
  · exact lv_tableOut X.1 X.2.1 hd (by rw [fr_ti hx]; omega) (fr_s_jmp X h0) (hJ _ q2 ls' H locs cells slots S')
  · obtain ⟨off, ho⟩ : ∃ off, offs.toList[(x - lo).toNat]? = some off := ⟨_, List.getElem?_eq_getElem (by have := (List.getElem?_eq_some_iff.mp q3).1; omega)⟩
    refine lv_tableIn X.1 X.2.1 hd (off := off) (by rw [fr_ti hx]; omega) (by rw [fr_ti hx]; omega) ?_ (fr_s_jmp X (fr_zip_all h3 ho q3)) (hJ _ q4 ls' H locs cells slots S')
    rw [fr_ti hx, ← Array.getElem?_toList]
    exact ho
theorem fr_lsw_e {x : Int} {D pc : Nat} {df : Int} {cd : List fr_E} {J : Nat → Prop} : ∀ {ps : List (Int × Int)} {d : List Nat}, fr_lsw x D J ps d → fr_jmp cd pc df D = true → (ps.zip d).all (fun q => fr_jmp cd pc q.1.2 q.2) = true → ∃ t, J t ∧ (pc : Int) + Op.lookupswitch.offset ps df x = (fr_tg cd t : Int)
  | [], [], h, h0, _ => ⟨D, h, of_decide_eq_true h0⟩
  | [], _ :: _, h, _, _ => h.elim
  | _ :: _, [], h, _, _ => h.elim
  | (k, off) :: ps, t :: ts, h, h0, h1 => by
    rw [List.zip_cons_cons, List.all_cons, Bool.and_eq_true] at h1
    by_cases e : x = k
    · refine ⟨t, h.1 e, ?_⟩
      have : Op.lookupswitch.offset ((k, off) :: ps) df x = off := by
        subst e
        simp [Op.lookupswitch.offset]
      rw [this]
      exact of_decide_eq_true h1.1
    · obtain ⟨t', q1, q2⟩ := fr_lsw_e (h.2 e) h0 h1.2
      refine ⟨t', q1, ?_⟩
      have : Op.lookupswitch.offset ((k, off) :: ps) df x = Op.lookupswitch.offset ps df x := by
        have e' : ¬ k = x := fun q => e q.symm
        simp [Op.lookupswitch.offset, e']
      rw [this]
      exact q2
end FrStep
end
section
/-! ===== fields, rows, new cells ===== -/
theorem fr_decl_all : vwCl.all (fun r => (List.range r.2.2).all (fun b => decide ((r.2.1 b).1 = r.1))) = true := by decide +kernel
theorem fr_decl {a b : Nat} {r : vw_C} (h : vwCl[a]? = some r) (hb : b < r.2.2) : (r.2.1 b).1 = r.1 := of_decide_eq_true (List.all_eq_true.mp (List.all_eq_true.mp fr_decl_all r (List.mem_of_getElem? h)) b (List.mem_range.mpr hb))
def fr_tyk (ty : FieldType) : Bool := match ty with
  | .int => true
  | .boolean => true
  | .object _ => true
  | .array _ => true
  | _ => false
theorem fr_tyg_all : (List.range 13).all (fun a => (List.range (fr_cnt a)).all (fun j => fr_tyk (fr_fty a j))) = true := by decide +kernel
theorem fr_tyg {a j : Nat} {rr : vw_C} (h : vwCl[a]? = some rr) (hj : j < rr.2.2) : fr_tyk (fr_fty a j) = true := by
  have ha : a < 13 := (List.getElem?_eq_some_iff.mp h).1
  refine List.all_eq_true.mp (List.all_eq_true.mp fr_tyg_all a (List.mem_range.mpr ha)) j (List.mem_range.mpr ?_)
  unfold fr_cnt
  simp only [fr_nth_eq, h]
  exact hj
section FrMem
variable {p : Program} {l : Launch} {e : Env} {R : Room} {s : State} {m : MethodId} {args : Array Value} {below : List Frame} {meth : Method} {c : Code} {Z : State → Prop} {G : fr_G} {rc : fr_T} {scr : Option (Nat × (Int → Int))}
variable {ls : fr_L} {st : List fr_V} {sh : fr_H} {M : fr_M} {bc bs pc : Nat}
theorem fr_wf0 {own : Nat} {o : String} {i a b : Nat} {r : vw_C} (ho : fr_own[own]? = some o) (h : fr_mem own (0, i, a, b, 0) = true) (hr : vwCl[a]? = some r) : Cond.fieldLink o i (r.2.1 b).1 (r.2.1 b).2.1 (r.2.1 b).2.2.1 ∈ lw_tbl := by
  have h1 := fr_link ho h
  unfold fr_word at h1
  simp only [fr_nth_eq, hr] at h1
  exact h1
theorem fr_s_get (X : fr_X rc p R s m args meth c G scr) {i a b k : Nat} {ci : Int} {fs : fr_F} {v : fr_V} {r : List fr_V} (hk : sh[k]? = some (.inr (a, fs))) (hd : decode rc.2.2.1 pc = .ok (.getfield i, 3)) (hm : fr_mem rc.1 (0, i, a, b, 0) = true) (hb : b < fr_cnt a) (hci : ci = (b : Int))
    (hv : (fs[b]? = some none ∧ v = .inl (M k ci)) ∨ ∃ q, fs[b]? = some (some (some q)) ∧ v = .inr (.inl q))
    (k2 : fr_Wt p l e R s m args below meth c Z G rc.2.2.2.1 (pc + 3) ls (v :: r) sh M bc bs) : fr_Wt p l e R s m args below meth c Z G rc.2.2.2.1 pc ls (.inr (.inl k) :: r) sh M bc bs := by
  intro ls' H locs cells slots S
  obtain ⟨o, ho1, ho2⟩ := X.2.2.2.1
  obtain ⟨rr, h1, h2, cell, q1, q2, q3, q4⟩ := S.2.2.2.2.1.2 k _ hk
  have hcl := fr_cls h1
  have hin := fr_lays_good hcl.1
  have hbN : b < rr.2.2 := by
    unfold fr_cnt at hb
    simp only [fr_nth_eq, h1] at hb
    exact hb
  obtain ⟨hS, hfc, kC, hkC, hkind⟩ := X.2.2.2.2.2.1.1 a _ h1
  obtain ⟨cf, kf, fi, f, hi, hsl⟩ := hS b hbN
  have hlink := X.w (fr_wf0 ho1 hm h1) rfl
  refine W.getf (v := fr_rv G v) X.1 X.2.1 ho2 hlink hi (u_facts hfc hkC (u_lays X.2.2.2.2.1 hin hbN) hi).1 q1 (by rw [q3]; exact fun h => by cases h) ?_ rfl rfl hd ?_
  · rw [hsl, q4 b hbN]
    unfold fr_fv
    rcases hv with ⟨e1, e2⟩ | ⟨q, e1, e2⟩
    · rw [e1, e2, hci]; rfl
    · rw [e1, e2]; rfl
  · refine k2 ls' H locs cells slots (S.stk (fr_okc ?_ (fr_okt S.2.2.1)))
    rcases hv with ⟨e1, e2⟩ | ⟨q, e1, e2⟩
    · rw [e2]; exact S.2.2.2.1 _ _
    · rw [e2]; trivial
/-- a field is written: what the heap holds then -/
theorem fr_P.fput {H H1 : Heap} {k a b : Nat} {fs fs2 : fr_F} {M2 : fr_M} {rr : vw_C} {cell : Cell} {v : Value} {iS : Nat} (h : fr_P G sh M H) (hk : sh[k]? = some (.inr (a, fs))) (h1 : vwCl[a]? = some rr) (hl : fs2.length = rr.2.2) (q2 : cell.cls = G.2.2.1.1 a) (q3 : cell.vm = .none) (q4 : ∀ j, j < rr.2.2 → cell.slots[G.2.2.1.2 a j]? = some (fr_fv G fs (M k) j)) (hap : ∀ x y, x < rr.2.2 → y < rr.2.2 → x ≠ y → G.2.2.1.2 a x ≠ G.2.2.1.2 a y) (hb : b < rr.2.2) (hsl : iS = G.2.2.1.2 a b)
    (e1 : H1[G.1 + k]? = some (cell.setSlot iS v)) (e2 : H1.size = H.size) (e3 : ∀ q, q ≠ G.1 + k → H1[q]? = H[q]?) (hv : ∀ j, j < rr.2.2 → updV (fr_fv G fs (M k)) b v j = fr_fv G fs2 (M2 k) j) (hM : ∀ j, j ≠ k → M2 j = M j) : fr_P G (sh.set k (.inr (a, fs2))) M2 H1 := by
  subst hsl
  refine ⟨by rw [e2, h.1, List.length_set], fun j cl hj => ?_⟩
  have hlt : k < sh.length := (List.getElem?_eq_some_iff.mp hk).1
  by_cases hjk : j = k
  · subst hjk
    rw [List.getElem?_set_self hlt] at hj
    cases hj
    exact ⟨rr, h1, hl, t_OB.to ⟨_, e1, q2, q3, t_set q4 hap hb v⟩ hv⟩
  · rw [List.getElem?_set_ne (fun q => hjk q.symm)] at hj
    exact (h.2 j cl hj).kept (e3 _ (by omega)) (hM j hjk).symm
theorem fr_set_self {α : Type} {l : List α} {k : Nat} {a : α} (h : l[k]? = some a) : l.set k a = l := by
  apply List.ext_getElem?
  intro j
  by_cases e : k = j
  · subst e
    rw [List.getElem?_set_self (List.getElem?_eq_some_iff.mp h).1, h]
  · rw [List.getElem?_set_ne e]
/-- a field's type and the kind that the machine keeps of it -/
theorem fr_s_put (X : fr_X rc p R s m args meth c G scr) {i a b k : Nat} {fs fs2 : fr_F} {M2 : fr_M} {v : fr_V} {r : List fr_V} (hk : sh[k]? = some (.inr (a, fs))) (hd : decode rc.2.2.1 pc = .ok (.putfield i, 3)) (hm : fr_mem rc.1 (0, i, a, b, 0) = true) (hb : b < fr_cnt a) (hfin : fr_final a b = true → rc.2.2.2.2.2.2.2.1 = 2 ∧ rc.1 = a)
    (hn : narrow (fr_fty a b) (fr_rv G v) = fr_rv G v) (hfit : fits (fr_fty a b) (fr_rv G v) = true) (hl : fs2.length = fs.length) (hv : ∀ j, j < fs.length → updV (fr_fv G fs (M k)) b (fr_rv G v) j = fr_fv G fs2 (M2 k) j) (hM : ∀ j, j ≠ k → M2 j = M j) (hMi : (∀ k i, fr_in (M k i)) → fr_ok v → ∀ k i, fr_in (M2 k i))
    (k2 : fr_Wt p l e R s m args below meth c Z G rc.2.2.2.1 (pc + 3) ls r (sh.set k (.inr (a, fs2))) M2 bc bs) : fr_Wt p l e R s m args below meth c Z G rc.2.2.2.1 pc ls (v :: .inr (.inl k) :: r) sh M bc bs := by
  intro ls' H locs cells slots S
  obtain ⟨o, ho1, ho2⟩ := X.2.2.2.1
  obtain ⟨rr, h1, h2, cell, q1, q2, q3, q4⟩ := S.2.2.2.2.1.2 k _ hk
  have hcl := fr_cls h1
  have hin := fr_lays_good hcl.1
  have hts := X.2.2.2.2.1
  have hbN : b < rr.2.2 := by
    unfold fr_cnt at hb
    simp only [fr_nth_eq, h1] at hb
    exact hb
  have hKK := X.2.2.2.2.2.1
  have hap := va_apart (own := o) hts hin (fr_fty a) hcl.2.1 hcl.2.2 hKK h1
  obtain ⟨hS, hfc, kC, hkC, hkind⟩ := hKK.1 a _ h1
  obtain ⟨cf, kf, fi, f, hi, hsl⟩ := hS b hbN
  have hlink := X.w (fr_wf0 ho1 hm h1) rfl
  have hlay := hts _ (hin _ (u_in_lay hbN))
  have hst := (u_facts hfc hkC (u_lays hts hin hbN) hi).1
  have fin : ∀ H' : Heap, H'[G.1 + k]? = some (cell.setSlot f.slot (fr_rv G v)) → H'.size = H.size → (∀ q, q ≠ G.1 + k → H'[q]? = H[q]?) → W p l e R s m args below meth c H' (locs ++ [⟨G.1 + k, f.slot⟩]) cells slots Z (F0 m (pc + 3) ls' (r.map (fr_rv G))) := by
    intro H' e1 e2 e3
    refine k2 ls' H' _ cells slots ⟨S.1, S.2.1, fr_okt (fr_okt S.2.2.1), hMi S.2.2.2.1 (fr_okh S.2.2.1), S.2.2.2.2.1.fput hk h1 (hl.trans h2) q2 q3 q4 hap hbN hsl e1 e2 e3 (fun j hj => hv j (by rw [h2]; exact hj)) hM, S.2.2.2.2.2.1.put e2 e3 (Nat.le_add_right _ _), S.2.2.2.2.2.2⟩
  have hfe : fr_final a b = (rr.2.1 b).2.2.2 := by
    unfold fr_final
    simp only [fr_nth_eq, h1]
  cases hf : (rr.2.1 b).2.2.2 with
  | false =>
    unfold u_lay at hlay
    rw [if_neg (by rw [hf]; decide)] at hlay
    have h6 := u_store hfc hkC hkind hlay hi (hcl.2.1 b hbN) hn hfit
    exact W.putK X.1 X.2.1 (f := f) ⟨ho2, hlink, ⟨_, _, _, hi⟩, hst⟩ (by rw [q2]; exact h6) q1 q3 (by rw [hsl]; exact k2_hasslot (q4 b hbN)) rfl rfl hd fin
  | true =>
    obtain ⟨f1, f2⟩ := hfin (hfe.trans hf)
    unfold u_lay at hlay
    rw [if_pos hf] at hlay
    have hoC : o = rr.1 := by
      rw [f2, (fr_cls2 h1).1] at ho1
      exact (Option.some.inj ho1).symm
    have hcf : m.cls = cf := by
      obtain ⟨_, _, c', _, _, _, -, -, hf', -, -, -, hown2, -⟩ := Cond.laysFinal_spec hlay
      have e1 : c' = cf := by have := hi.symm.trans hf'; simp at this; exact this.1.symm
      have hdecl : (rr.2.1 b).1 = rr.1 := fr_decl h1 hbN
      rw [hdecl] at hown2
      rw [← e1]; exact Option.some.inj ((hoC ▸ ho2).symm.trans hown2)
    have h6 := u_fits hfc hkC hkind (Or.inr hlay) hi (hcl.2.1 b hbN) hn hfit
    exact W.putFinK X.1 X.2.1 ho2 hlink hi hst hcf (X.2.2.2.2.2.2.2.2.1 f1) (by rw [q2]; exact h6) q1 q3 (by rw [hsl]; exact k2_hasslot (q4 b hbN)) rfl rfl hd fin
theorem fr_rowin {H : Heap} {k t n : Nat} {i : Int} (hi : fr_in i) (h : 0 ≤ i ∧ i < (n : Int)) : ¬ (Int32.ofInt i < 0 ∨ (fr_row G t n (M k)).slots.size ≤ (Int32.ofInt i).toNatClampNeg) := by
  unfold fr_row
  rw [arrV_size]
  exact fr_vin hi h
theorem fr_rowat {k t n : Nat} {i : Int} (hi : fr_in i) (h : 0 ≤ i ∧ i < (n : Int)) : (fr_row G t n (M k)).slots[(Int32.ofInt i).toNatClampNeg]? = some (.int (Int32.ofInt (M k i))) := by
  unfold fr_row
  rw [fr_cl hi, arrV_read _ _ (by omega)]
  have : ((i.toNat : Nat) : Int) = i := by omega
  rw [this]
theorem fr_s_ald (X : fr_X rc p R s m args meth c G scr) {k t n : Nat} {i : Int} {r : List fr_V} (hk : sh[k]? = some (.inl (t, n))) (hi : 0 ≤ i ∧ i < (n : Int)) (hd : (t = 0 ∧ decode rc.2.2.1 pc = .ok (.iaload, 1)) ∨ ((t = 1 ∨ t = 2) ∧ decode rc.2.2.1 pc = .ok (.baload, 1)))
    (k2 : fr_Wt p l e R s m args below meth c Z G rc.2.2.2.1 (pc + 1) ls (.inl (M k i) :: r) sh M bc bs) : fr_Wt p l e R s m args below meth c Z G rc.2.2.2.1 pc ls (.inl i :: .inr (.inl k) :: r) sh M bc bs := by
  intro ls' H locs cells slots S
  obtain ⟨h1, h2, h3⟩ := S.2.2.2.2.1.2 k _ hk
  have hi' : fr_in i := fr_okh S.2.2.1
  have kk := k2 ls' H locs cells slots (S.stk (fr_okc (S.2.2.2.1 k i) (fr_okt (fr_okt S.2.2.1))))
  have ha := X.2.2.2.2.2.1.arr h2
  rcases hd with ⟨rfl, hd⟩ | ⟨rfl | rfl, hd⟩
  · exact W.iald X.1 X.2.1 h3 (ha n _) (fun q => by cases q) (fr_rowin (H := H) hi' hi) (fr_rowat hi' hi) rfl rfl hd kk
  · exact W.zald X.1 X.2.1 h3 (ha n _) (fun q => by cases q) (fr_rowin (H := H) hi' hi) (fr_rowat hi' hi) rfl rfl hd kk
  · exact W.bald X.1 X.2.1 h3 (ha n _) (fun q => by cases q) (fr_rowin (H := H) hi' hi) (fr_rowat hi' hi) rfl rfl hd kk
theorem fr_nar1 {x : Int} (h : 0 ≤ x ∧ x ≤ 1) : narrow .boolean (.int (Int32.ofInt x)) = .int (Int32.ofInt x) := by
  rcases (show x = 0 ∨ x = 1 by omega) with rfl | rfl <;> rfl
theorem fr_nar2 {x : Int} (h : -128 ≤ x ∧ x ≤ 127) : narrow .byte (.int (Int32.ofInt x)) = .int (Int32.ofInt x) := by
  have e := vp_nar_byte (Int32.ofInt x)
  have hx : fr_in x := ⟨by omega, by omega⟩
  have h2 : (Int32.ofInt x).toInt8.toInt32 = Int32.ofInt x := by
    apply Int32.toInt_inj.mp
    rw [Int8.toInt_toInt32, Int32.toInt_toInt8, fr_ti hx]
    unfold Int.bmod
    simp only [Int8.size] at *
    split <;> omega
  show Value.int ((Int32.ofInt x).toInt8.toInt32) = _
  rw [h2]
theorem fr_s_ast (X : fr_X rc p R s m args meth c G scr) {k t n : Nat} {i x : Int} {r : List fr_V} (hk : sh[k]? = some (.inl (t, n))) (hi : 0 ≤ i ∧ i < (n : Int)) (hd : (t = 0 ∧ decode rc.2.2.1 pc = .ok (.iastore, 1)) ∨ (t = 1 ∧ (0 ≤ x ∧ x ≤ 1) ∧ decode rc.2.2.1 pc = .ok (.bastore, 1)) ∨ (t = 2 ∧ (-128 ≤ x ∧ x ≤ 127) ∧ decode rc.2.2.1 pc = .ok (.bastore, 1)))
    (k2 : fr_Wt p l e R s m args below meth c Z G rc.2.2.2.1 (pc + 1) ls r sh (fr_up M k i x) bc bs) : fr_Wt p l e R s m args below meth c Z G rc.2.2.2.1 pc ls (.inl x :: .inl i :: .inr (.inl k) :: r) sh M bc bs := by
  intro ls' H locs cells slots S
  obtain ⟨h1, h2, h3⟩ := S.2.2.2.2.1.2 k _ hk
  have hi' : fr_in i := fr_okh (fr_okt S.2.2.1)
  have hx' : fr_in x := fr_okh S.2.2.1
  have ha := X.2.2.2.2.2.1.arr h2
  have fin : ∀ H' : Heap, H'[G.1 + k]? = some ((fr_row G t n (M k)).setSlot (Int32.ofInt i).toNatClampNeg (.int (Int32.ofInt x))) → H'.size = H.size → (∀ q, q ≠ G.1 + k → H'[q]? = H[q]?) → W p l e R s m args below meth c H' (locs ++ [⟨G.1 + k, (Int32.ofInt i).toNatClampNeg⟩]) cells slots Z (F0 m (pc + 1) ls' (r.map (fr_rv G))) := by
    intro H' e1 e2 e3
    rw [fr_cl hi'] at e1
    exact k2 ls' H' _ cells slots ⟨S.1, S.2.1, fr_okt (fr_okt (fr_okt S.2.2.1)), fr_up_in S.2.2.2.1 hx', S.2.2.2.2.1.put hk hi e1 e2 e3, S.2.2.2.2.2.1.put e2 e3 (Nat.le_add_right _ _), S.2.2.2.2.2.2⟩
  rcases hd with ⟨rfl, hd⟩ | ⟨rfl, hn, hd⟩ | ⟨rfl, hn, hd⟩
  · exact W.iast X.1 X.2.1 h3 (ha n _) (fun q => by cases q) (fr_rowin (H := H) hi' hi) rfl rfl hd fin
  · exact W.zast X.1 X.2.1 h3 (ha n _) (fun q => by cases q) (fr_rowin (H := H) hi' hi) rfl rfl hd (fun H' e1 => fin H' (by rw [← fr_nar1 hn]; exact e1))
  · exact W.bast X.1 X.2.1 h3 (ha n _) (fun q => by cases q) (fr_rowin (H := H) hi' hi) rfl rfl hd (fun H' e1 => fin H' (by rw [← fr_nar2 hn]; exact e1))
theorem fr_s_alen (X : fr_X rc p R s m args meth c G scr) {k t n : Nat} {r : List fr_V} (hk : sh[k]? = some (.inl (t, n))) (hd : decode rc.2.2.1 pc = .ok (.arraylength, 1))
    (k2 : fr_Wt p l e R s m args below meth c Z G rc.2.2.2.1 (pc + 1) ls (.inl (n : Int) :: r) sh M bc bs) : fr_Wt p l e R s m args below meth c Z G rc.2.2.2.1 pc ls (.inr (.inl k) :: r) sh M bc bs := by
  intro ls' H locs cells slots S
  obtain ⟨h1, h2, h3⟩ := S.2.2.2.2.1.2 k _ hk
  have ha := X.2.2.2.2.2.1.arr h2
  refine W.alen (n := Int32.ofInt (n : Int)) X.1 X.2.1 h3 (ha n _) (by unfold fr_row; rw [arrV_size]; rfl) rfl rfl hd (k2 ls' H locs cells slots (S.stk (fr_okc ⟨by omega, by omega⟩ (fr_okt S.2.2.1))))
theorem fr_s_sld (X : fr_X rc p R s m args meth c G scr) {n : Nat} {f : Int → Int} {i : Int} {r : List fr_V} {u : Unit} (hs : scr = some (n, f)) (hi : 0 ≤ i ∧ i < (n : Int)) (hd : decode rc.2.2.1 pc = .ok (.iaload, 1))
    (k2 : fr_Wt p l e R s m args below meth c Z G rc.2.2.2.1 (pc + 1) ls (.inl (f i) :: r) sh M bc bs) : fr_Wt p l e R s m args below meth c Z G rc.2.2.2.1 pc ls (.inl i :: .inr (.inr (.inr u)) :: r) sh M bc bs := by
  intro ls' H locs cells slots S
  obtain ⟨x1, x2, x3, x4⟩ := X.2.2.2.2.2.2.2.2.2 n f hs
  have hi' : fr_in i := fr_okh S.2.2.1
  refine va_sld X.1 X.2.1 x4 (Nat.lt_of_lt_of_le x3 X.2.2.2.2.2.2.2.1) (A := fun q => G.1 ≤ q) (Nat.not_le.mpr x3) S.2.2.2.2.2.1 (fr_vin hi' hi) hd ?_
  rw [fr_cl hi', show ((i.toNat : Nat) : Int) = i by omega]
  exact k2 ls' H locs cells slots (S.stk (fr_okc (x2 i) (fr_okt (fr_okt S.2.2.1))))
theorem fr_s_slen (X : fr_X rc p R s m args meth c G scr) {n : Nat} {f : Int → Int} {r : List fr_V} {u : Unit} (hs : scr = some (n, f)) (hn : fr_in (n : Int)) (hd : decode rc.2.2.1 pc = .ok (.arraylength, 1))
    (k2 : fr_Wt p l e R s m args below meth c Z G rc.2.2.2.1 (pc + 1) ls (.inl (n : Int) :: r) sh M bc bs) : fr_Wt p l e R s m args below meth c Z G rc.2.2.2.1 pc ls (.inr (.inr (.inr u)) :: r) sh M bc bs := by
  intro ls' H locs cells slots S
  obtain ⟨x1, x2, x3, x4⟩ := X.2.2.2.2.2.2.2.2.2 n f hs
  exact va_slen X.1 X.2.1 x4 (Nat.lt_of_lt_of_le x3 X.2.2.2.2.2.2.2.1) (A := fun q => G.1 ≤ q) (Nat.not_le.mpr x3) S.2.2.2.2.2.1 hd (k2 ls' H locs cells slots (S.stk (fr_okc hn (fr_okt S.2.2.1))))
theorem fr_s_newa (X : fr_X rc p R s m args meth c G scr) {t : ArrayType} {a : Nat} {n : Int} {r : List fr_V} (ht : newarray.typeOf t = fr_aty a) (ha : a ≤ 2) (hn : 0 ≤ n ∧ n ≤ 100000) (hbc : 1 ≤ bc) (hbs : n.toNat ≤ bs) (hd : decode rc.2.2.1 pc = .ok (.newarray t, 2))
    (k2 : fr_Wt p l e R s m args below meth c Z G rc.2.2.2.1 (pc + 2) ls (.inr (.inl sh.length) :: r) (sh ++ [.inl (a, n.toNat)]) (fr_zr M sh.length) (bc - 1) (bs - n.toNat)) : fr_Wt p l e R s m args below meth c Z G rc.2.2.2.1 pc ls (.inl n :: r) sh M bc bs := by
  intro ls' H locs cells slots S
  have hn' : fr_in n := fr_okh S.2.2.1
  have hw : (Cond.arrayClass (newarray.typeOf t)).before args s = true := by
    rw [ht]
    rcases (show a = 0 ∨ a = 1 ∨ a = 2 by omega) with rfl | rfl | rfl
    · exact X.w fr_w_aint rfl
    · exact X.w fr_w_aboolean rfl
    · exact X.w fr_w_abyte rfl
  have hcb : componentBytes (newarray.typeOf t) ≤ 8 := by
    rw [ht]
    rcases (show a = 0 ∨ a = 1 ∨ a = 2 by omega) with rfl | rfl | rfl <;> decide
  have hmul : n.toNat * componentBytes (newarray.typeOf t) ≤ 100000 * 8 := Nat.mul_le_mul (by omega) hcb
  have hRc := S.2.2.2.2.2.2.1
  have hRs := S.2.2.2.2.2.2.2
  refine va_newaK X.1 X.2.1 hw rfl hd rfl (N := n.toNat) (by rw [fr_lt0 hn']; omega) (fr_cl hn') (by omega) (by omega) (by omega) (h := H.size) rfl fun H1 cA e1 z1 o1 hAr hNm => ?_
  have hcA : cA = G.2.2.2 a := by
    have hra : va_RA s (G.2.2.2 a) (fr_aty a) := by
      rcases (show a = 0 ∨ a = 1 ∨ a = 2 by omega) with rfl | rfl | rfl
      · exact (X.2.2.2.2.2.1.2 0 _ rfl).2
      · exact (X.2.2.2.2.2.1.2 1 _ rfl).2
      · exact (X.2.2.2.2.2.1.2 2 _ rfl).2
    have hra2 : s.vm.findClass ("[" ++ (fr_aty a).toString) = some (G.2.2.2 a) := by
      rcases (show a = 0 ∨ a = 1 ∨ a = 2 by omega) with rfl | rfl | rfl <;> exact hra
    rw [ht] at hNm
    exact Option.some.inj (hNm.symm.trans hra2)
  subst hcA
  have hsz := S.2.2.2.2.1.1
  have hdef : defaultValue (newarray.typeOf t) = .int (Int32.ofInt 0) := by
    rw [ht]
    rcases (show a = 0 ∨ a = 1 ∨ a = 2 by omega) with rfl | rfl | rfl <;> rfl
  have hP := S.2.2.2.2.1.push (cell := .inl (a, n.toNat)) (H1 := H1) ⟨by omega, ha, by rw [← hsz, e1, hdef]; rfl⟩ z1 o1
  have hk := k2 ls' H1 locs (cells + 1) (slots + n.toNat) ⟨S.1, S.2.1, fr_okc trivial (fr_okt S.2.2.1), fr_zr_in S.2.2.2.1, hP, ⟨Nat.le_trans S.2.2.2.2.2.1.1 (by omega), fun q g1 g2 => (o1 q (Nat.lt_of_lt_of_le g1 S.2.2.2.2.2.1.1)).trans (S.2.2.2.2.2.1.2.1 q g1 g2), S.2.2.2.2.2.1.2.2⟩, by omega, by omega⟩
  rw [hsz]
  exact hk
theorem fr_kd_V {a : Nat} {rr : vw_C} (h : vwCl[a]? = some rr) : (fr_kind fr_kd a).length = rr.2.2 ∧ ∀ j, j < rr.2.2 → defaultValue (fr_fty a j) = fr_fv G (fr_kind fr_kd a) (fun _ => 0) j := by
  have e := (fr_cls2 h).2.2.2
  refine ⟨by rw [e]; simp, fun j hj => ?_⟩
  unfold fr_fv
  rw [e, List.getElem?_map, List.getElem?_range hj]
  have hty := (fr_cls h).2.1 j hj
  show defaultValue (fr_fty a j) = match (some (fr_fk (fr_fty a j)) : Option (Option (Option Nat))) with
    | some (some none) => Value.null
    | some (some (some q)) => .ref (G.1 + q)
    | _ => .int (Int32.ofInt 0)
  have hgood : (match fr_fty a j with
    | .int => true
    | .boolean => true
    | .object _ => true
    | .array _ => true
    | _ => false) = true := fr_tyg h hj
  generalize fr_fty a j = ty at hgood ⊢
  cases ty <;> first | rfl | cases hgood
theorem fr_s_new (X : fr_X rc p R s m args meth c G scr) {i a b : Nat} (hm : fr_mem rc.1 (4, i, a, 0, 0) = true) (hb : b = fr_cnt a) (ha : a < 13) (hbc : 1 ≤ bc) (hbs : b ≤ bs) (hd : decode rc.2.2.1 pc = .ok (.new i, 3))
    (k2 : fr_Wt p l e R s m args below meth c Z G rc.2.2.2.1 (pc + 3) ls (.inr (.inl sh.length) :: st) (sh ++ [.inr (a, fr_kind fr_kd a)]) (fr_zr M sh.length) (bc - 1) (bs - b)) : fr_Wt p l e R s m args below meth c Z G rc.2.2.2.1 pc ls st sh M bc bs := by
  intro ls' H locs cells slots S
  obtain ⟨o, ho1, ho2⟩ := X.2.2.2.1
  obtain ⟨rr, h1⟩ : ∃ rr, vwCl[a]? = some rr := ⟨_, List.getElem?_eq_getElem (show a < vwCl.length from ha)⟩
  have hc2 := fr_cls2 h1
  have hcl := fr_cls h1
  have hbN : b = rr.2.2 := by
    rw [hb]
    unfold fr_cnt
    simp only [fr_nth_eq, h1]
  have hlink : (Cond.classLink o i rr.1).before args s = true := by
    have h2 := fr_link ho1 hm
    unfold fr_word at h2
    simp only [fr_nth_eq, hc2.1] at h2
    exact X.w h2 rfl
  have hKn := X.2.2.2.2.2.1.1 a _ h1
  have hRc := S.2.2.2.2.2.2.1
  have hRs := S.2.2.2.2.2.2.2
  have hsz := S.2.2.2.2.1.1
  subst hbN
  refine W.newcK X.1 X.2.1 ho2 hlink (X.w hc2.2.1 rfl) (X.w hc2.2.2.1 rfl) rfl hd (by omega) (by omega) hKn.2.1 (h := H.size) rfl fun H1 kC hkC e1 z1 o1 => ?_
  have hob := u_born (fr_fty a) X.2.2.2.2.1 (fr_lays_good hcl.1) hKn hkC e1 hcl.2.1
  have hP := S.2.2.2.2.1.push (cell := .inr (a, fr_kind fr_kd a)) (H1 := H1) ⟨rr, h1, (fr_kd_V (G := G) h1).1, by rw [← hsz]; exact hob.to (fr_kd_V (G := G) h1).2⟩ z1 o1
  have hk := k2 ls' H1 locs (cells + 1) (slots + rr.2.2) ⟨S.1, S.2.1, fr_okc trivial S.2.2.1, fr_zr_in S.2.2.2.1, hP, ⟨Nat.le_trans S.2.2.2.2.2.1.1 (by omega), fun q g1 g2 => (o1 q (Nat.lt_of_lt_of_le g1 S.2.2.2.2.2.1.1)).trans (S.2.2.2.2.2.1.2.1 q g1 g2), S.2.2.2.2.2.1.2.2⟩, by omega, by omega⟩
  show W p l e R s m args below meth c H1 locs (cells + 1) (slots + rr.2.2) Z (F0 m (pc + 3) ls' (.ref H.size :: st.map (fr_rv G)))
  rw [hsz]
  exact hk
end FrMem
end
section
/-! ===== calls, copies, answers ===== -/
theorem fr_pc0_all : fr_tab.all (fun r => Nat.beq (fr_tg r.2.2.2.2.2.1 0) 0) = true := by decide +kernel
theorem fr_pc0 {mj : Nat} {r : fr_T} (h : fr_tab[mj]? = some r) : fr_tg r.2.2.2.2.2.1 0 = 0 := Nat.beq_eq.mp (List.all_eq_true.mp fr_pc0_all r (List.mem_of_getElem? h))
section FrCall
variable {p : Program} {l : Launch} {e : Env} {R : Room} {s : State} {m : MethodId} {args : Array Value} {below : List Frame} {meth : Method} {c : Code} {Z : State → Prop} {G : fr_G} {rc : fr_T} {scr : Option (Nat × (Int → Int))}
variable {ls : fr_L} {st : List fr_V} {sh : fr_H} {M : fr_M} {bc bs pc : Nat}
theorem fr_wd_sum (G : fr_G) (r : List fr_V) : ((r.map (fr_rv G)).map fun v => v.category).sum = fr_wd r := by
  induction r with
  | nil => rfl
  | cons v r ih =>
    simp only [List.map_cons, List.sum_cons, ih, fr_cat_rv]
    rfl
theorem fr_nfw : nativeFrameWords "java/lang/System" "arraycopy" 5 ≤ 40 := by decide +kernel
theorem fr_P.copy {H H1 : Heap} {ks kd n0 n1 : Nat} {sp dp n : Int} (h : fr_P G sh M H) (hk : sh[kd]? = some (.inl (0, n1))) (h0 : 0 ≤ n ∧ 0 ≤ sp ∧ 0 ≤ dp ∧ sp + n ≤ (n0 : Int) ∧ dp + n ≤ (n1 : Int))
    (e : H1[G.1 + kd]? = some (arrV (G.2.2.2 0) n1 (fun j => .int (va_cpy (fun j : Nat => Int32.ofInt (M ks (j : Int))) (fun j : Nat => Int32.ofInt (M kd (j : Int))) sp.toNat dp.toNat n.toNat j)))) (z : H1.size = H.size) (o : ∀ q, q ≠ G.1 + kd → H1[q]? = H[q]?) : fr_P G sh (fr_cp M ks sp kd dp n) H1 := by
  refine ⟨z.trans h.1, fun j cell hj => ?_⟩
  by_cases hjk : j = kd
  · subst hjk
    cases hk.symm.trans hj
    obtain ⟨h1, h2, h3⟩ := h.2 j _ hk
    refine ⟨h1, h2, ?_⟩
    rw [e]
    unfold fr_row
    congr 2
    funext q
    unfold va_cpy fr_cp
    rw [if_pos rfl]
    by_cases hq : dp ≤ (q : Int) ∧ (q : Int) < dp + n
    · rw [if_pos (by omega), if_pos hq]
      have e9 : ((sp.toNat + (q - dp.toNat) : Nat) : Int) = sp + ((q : Int) - dp) := by omega
      show Value.int (Int32.ofInt (M ks ((sp.toNat + (q - dp.toNat) : Nat) : Int))) = _
      rw [e9]
    · rw [if_neg (by omega), if_neg hq]
  · exact (h.2 j cell hj).kept (o _ (by omega)) (by funext q; unfold fr_cp; rw [if_neg hjk])
theorem fr_s_copy (X : fr_X rc p R s m args meth c G scr) {i ks kd n0 n1 : Nat} {sp dp n : Int} {r : List fr_V} (hm : fr_mem rc.1 (2, i, 0, 0, 0) = true) (hfr : 1 ≤ rc.2.2.2.2.2.2.1.frames) (hlo : 60 ≤ rc.2.2.2.2.2.2.1.locals) (hks : sh[ks]? = some (.inl (0, n0))) (hkd : sh[kd]? = some (.inl (0, n1))) (hr : fr_wd r ≤ 8) (h0 : 0 ≤ n ∧ 0 ≤ sp ∧ 0 ≤ dp ∧ sp + n ≤ (n0 : Int) ∧ dp + n ≤ (n1 : Int)) (hd : decode rc.2.2.1 pc = .ok (.invokestatic i, 3))
    (k2 : fr_Wt p l e R s m args below meth c Z G rc.2.2.2.1 (pc + 3) ls r sh (fr_cp M ks sp kd dp n) bc bs) : fr_Wt p l e R s m args below meth c Z G rc.2.2.2.1 pc ls (.inl n :: .inl dp :: .inr (.inl kd) :: .inl sp :: .inr (.inl ks) :: r) sh M bc bs := by
  intro ls' H locs cells slots S
  obtain ⟨o, ho1, ho2⟩ := X.2.2.2.1
  obtain ⟨a1, a2, hc0⟩ := S.2.2.2.2.1.2 ks _ hks
  obtain ⟨b1, b2, hc1⟩ := S.2.2.2.2.1.2 kd _ hkd
  have in1 : fr_in n := fr_okh S.2.2.1
  have in2 : fr_in dp := fr_okh (fr_okt S.2.2.1)
  have in3 : fr_in sp := fr_okh (fr_okt (fr_okt (fr_okt S.2.2.1)))
  have hlink : (Cond.methodLink o i arraycopyName).before args s = true := X.w (fr_link ho1 hm) rfl
  intro T hT Xs
  obtain ⟨-, k0, hk0, cm0, hkk0⟩ := X.2.2.2.2.2.1.arr a2 n0 (fun j => .int (Int32.ofInt (M ks (j : Int))))
  obtain ⟨-, k1, hk1, cm1, hkk1⟩ := X.2.2.2.2.2.1.arr b2 n1 (fun j => .int (Int32.ofInt (M kd (j : Int))))
  have hnf := fr_nfw
  obtain ⟨vm', X', step⟩ := Xs.arraycopy X.1 ho2 hlink (X.w fr_w_an rfl) (X.w fr_w_as rfl) (X.w fr_w_ai rfl) (src := G.1 + ks) (dst := G.1 + kd) (cs := fr_row G 0 n0 (M ks)) (cd := fr_row G 0 n1 (M kd)) (srcPos := Int32.ofInt sp) (destPos := Int32.ofInt dp) (n := Int32.ofInt n) (by rw [hT]; exact hc0) (by rw [hT]; exact hc1)
    (fun _ h => by cases h) (fun _ h => by cases h) (fun h => by cases h) (fun h => by cases h) hk0 hk1 hkk0 hkk1 (by rfl) (by rw [fr_lt0 in3]; omega) (by rw [fr_lt0 in2]; omega) (by rw [fr_lt0 in1]; omega)
    (by rw [fr_ti in3, fr_ti in1]; unfold fr_row; rw [arrV_size]; omega)
    (by rw [fr_ti in2, fr_ti in1]; unfold fr_row; rw [arrV_size]; omega)
    (fun vm₁ _ i hi => by
      have e : (fr_row G 0 n0 (M ks)).slots.getD ((Int32.ofInt sp).toNatClampNeg + i) .null = .int (Int32.ofInt (M ks (((Int32.ofInt sp).toNatClampNeg + i : Nat) : Int))) := by
        rw [fr_cl in1] at hi
        unfold fr_row
        rw [Array.getD_eq_getD_getElem?, arrV_read _ _ (by rw [fr_cl in3]; omega)]
        rfl
      rw [e]
      exact ⟨rfl, trivial⟩)
    (g := F0 m pc ls' (.int (Int32.ofInt n) :: .int (Int32.ofInt dp) :: .ref (G.1 + kd) :: .int (Int32.ofInt sp) :: .ref (G.1 + ks) :: r.map (fr_rv G))) rfl (by rw [X.2.2.1]; exact S.1.2.1) (rest := r.map (fr_rv G)) rfl (by rw [X.2.1]; exact hd) (Nat.le_trans hfr X.2.2.2.2.2.2.1.1) (by rw [fr_wd_sum]; show 2 * 0 + _ + _ ≤ _; have := X.2.2.2.2.2.2.1.2; omega)
  have e1 : copied (fr_row G 0 n0 (M ks)) (fr_row G 0 n1 (M kd)) (Int32.ofInt sp) (Int32.ofInt dp) (Int32.ofInt n) = arrV (G.2.2.2 0) n1 (fun j => .int (va_cpy (fun j : Nat => Int32.ofInt (M ks (j : Int))) (fun j : Nat => Int32.ofInt (M kd (j : Int))) sp.toNat dp.toNat n.toNat j)) := by
    have := va_copied (fun z => Value.int z) (G.2.2.2 0) (G.2.2.2 0) (n0 := n0) (n1 := n1) (sp := (Int32.ofInt sp).toNatClampNeg) (dp := (Int32.ofInt dp).toNatClampNeg) (n := (Int32.ofInt n).toNatClampNeg) (fun j : Nat => Int32.ofInt (M ks (j : Int))) (fun j : Nat => Int32.ofInt (M kd (j : Int))) (by rw [fr_cl in3, fr_cl in1]; omega)
    rw [fr_cl in3, fr_cl in1, fr_cl in2] at this
    unfold copied
    rw [fr_cl in3, fr_cl in1, fr_cl in2]
    exact this
  rw [e1] at X' step
  have hl : G.1 + kd < H.size := (Array.getElem?_eq_some_iff.mp hc1).1
  have hheap : ∀ x, ((T.setVm vm').setCell (G.1 + kd) x).heap = H.setIfInBounds (G.1 + kd) x := fun x => by rw [← hT]; rfl
  have oq : ∀ x (q : Nat), q ≠ G.1 + kd → (H.setIfInBounds (G.1 + kd) x)[q]? = H[q]? := fun x q hq => by simp [Array.getElem?_setIfInBounds, Ne.symm hq]
  obtain ⟨t, a1', b1'⟩ := k2 ls' _ _ cells slots ⟨S.1, S.2.1, fr_okt (fr_okt (fr_okt (fr_okt (fr_okt S.2.2.1)))), fr_cp_in S.2.2.2.1, S.2.2.2.2.1.copy (ks := ks) (n0 := n0) hkd h0 (H1 := H.setIfInBounds (G.1 + kd) _) (by simp [Array.getElem?_setIfInBounds, hl]) (by simp) (oq _), S.2.2.2.2.2.1.put' (a := G.1 + kd) (by simp) (oq _) (Nat.le_add_right _ _) (fun q hq => by
      obtain ⟨z, -, hz⟩ := List.mem_map.mp hq
      rw [← hz]
      exact Nat.le_add_right _ _), S.2.2.2.2.2.2⟩ _ (hheap _) X'
  exact ⟨t, step t a1', b1'⟩
theorem fr_sl_len (G : fr_G) (as : List fr_V) : (lg_sl (as.map (fr_rv G))).length = fr_wd as := by
  induction as with
  | nil => rfl
  | cons v r ih =>
    have e : lg_sl ((v :: r).map (fr_rv G)) = (if (fr_rv G v).category = 2 then [.val (fr_rv G v), .second] else [.val (fr_rv G v)]) ++ lg_sl (r.map (fr_rv G)) := by
      simp [lg_sl]
    rw [e, List.length_append, ih, fr_cat_rv]
    show _ = fr_cat v + fr_wd r
    rcases v with x | k | l | u <;> rfl
theorem fr_ini_len : ∀ (as : List fr_V) (n : Nat), fr_wd as ≤ n → (fr_ini n as).length = n
  | [], n, _ => by simp [fr_ini]
  | v :: vs, n, h => by
    have hw : fr_wd (v :: vs) = fr_cat v + fr_wd vs := rfl
    rcases v with x | k | l | u
    · have := fr_ini_len vs (n - 1) (by rw [hw] at h; simp only [fr_cat] at h; omega)
      simp only [fr_ini, fr_cat, List.length_cons, this]
      rw [hw] at h; simp only [fr_cat] at h; omega
    · have := fr_ini_len vs (n - 1) (by rw [hw] at h; simp only [fr_cat] at h; omega)
      simp only [fr_ini, fr_cat, List.length_cons, this]
      rw [hw] at h; simp only [fr_cat] at h; omega
    · have := fr_ini_len vs (n - 2) (by rw [hw] at h; simp only [fr_cat] at h; omega)
      simp only [fr_ini, fr_cat, List.length_cons, this]
      rw [hw] at h; simp only [fr_cat] at h; omega
    · have := fr_ini_len vs (n - 1) (by rw [hw] at h; simp only [fr_cat] at h; omega)
      simp only [fr_ini, fr_cat, List.length_cons, this]
      rw [hw] at h; simp only [fr_cat] at h; omega
theorem fr_ini_in (G : fr_G) : ∀ (as : List fr_V) (n off i : Nat) (v : fr_V), (fr_ini n as)[i]? = some (some v) → (off + i, fr_rv G v) ∈ lv_args off (as.map (fr_rv G)) ∧ v ∈ as
  | [], n, off, i, v, h => by
    simp only [fr_ini] at h
    have := List.eq_of_mem_replicate (List.mem_of_getElem? h)
    cases this
  | w :: vs, n, off, i, v, h => by
    have hc := fr_cat_rv G w
    by_cases h2 : fr_cat w = 2
    · have e : fr_ini n (w :: vs) = some w :: none :: fr_ini (n - 2) vs := by simp only [fr_ini, h2]
      have e2 : lv_args off ((w :: vs).map (fr_rv G)) = (off, fr_rv G w) :: lv_args (off + 2) (vs.map (fr_rv G)) := by
        simp only [List.map_cons, lv_args, hc, h2, if_true]
      rw [e] at h
      rw [e2]
      match i, h with
      | 0, h => cases h; exact ⟨List.mem_cons_self, List.mem_cons_self⟩
      | 1, h => cases h
      | i + 2, h =>
        obtain ⟨g1, g2⟩ := fr_ini_in G vs (n - 2) (off + 2) i v h
        refine ⟨List.mem_cons_of_mem _ ?_, List.mem_cons_of_mem _ g2⟩
        rw [show off + (i + 2) = off + 2 + i by omega]
        exact g1
    · have e : fr_ini n (w :: vs) = some w :: fr_ini (n - 1) vs := by
        rcases w with x | k | l | u
        · rfl
        · rfl
        · exact absurd rfl h2
        · rfl
      have e2 : lv_args off ((w :: vs).map (fr_rv G)) = (off, fr_rv G w) :: lv_args (off + 1) (vs.map (fr_rv G)) := by
        simp only [List.map_cons, lv_args, hc, h2, if_false]
      rw [e] at h
      rw [e2]
      match i, h with
      | 0, h => cases h; exact ⟨List.mem_cons_self, List.mem_cons_self⟩
      | i + 1, h =>
        obtain ⟨g1, g2⟩ := fr_ini_in G vs (n - 1) (off + 1) i v h
        refine ⟨List.mem_cons_of_mem _ ?_, List.mem_cons_of_mem _ g2⟩
        rw [show off + (i + 1) = off + 1 + i by omega]
        exact g1
def fr_Pc (G : fr_G) (as : List fr_V) (sh : fr_H) (M : fr_M) : Array Value → State → Prop := fun v U => v = (as.map (fr_rv G)).toArray ∧ fr_P G sh M U.heap ∧ fr_KK G U
def fr_Qc (G : fr_G) (q : Option fr_V → fr_H → fr_M → Prop) : Array Value → State → Outcome → State → Prop := fun _ st oc t => ∃ (r : Option fr_V) (sh : fr_H) (M : fr_M), oc = .returned (r.map (fr_rv G)) ∧ q r sh M ∧ (∀ v, r = some v → fr_ok v) ∧ (∀ k i, fr_in (M k i)) ∧ fr_P G sh M t.heap ∧ va_F (fun q => G.1 ≤ q) st t
/-- a method that the machine of whole numbers runs is met by the real one -/
theorem fr_met (l : Launch) {mj : Nat} {r : fr_T} {as : List fr_V} {q : Option fr_V → fr_H → fr_M → Prop} (hc : fr_Call mj as sh M q) (hr : fr_tab[mj]? = some r) (hk : r.2.2.2.2.2.2.2.1 ≠ 3) (has : ∀ v ∈ as, fr_ok v) (hM : ∀ k i, fr_in (M k i)) (hw : fr_wd as ≤ r.2.2.2.1) (G : fr_G) :
    Met l r.2.1 (Cond.code r.2.1 r.2.2.1 r.2.2.2.1 r.2.2.2.2.1 :: lw_gd) r.2.2.2.2.2.2.1 (fr_Pc G as sh M) (fr_Qc G q) r.2.2.2.2.2.2.1.cells r.2.2.2.2.2.2.1.slots (fun q => G.1 ≤ q) := by
  obtain ⟨m1, m2⟩ := fr_meth hr
  obtain ⟨m3, m4, m5, m6, m7, m8, m9, m10⟩ := m2 hk
  refine Met.ofW (cc := r.2.2.1) (maxL := r.2.2.2.1) (ret := r.2.2.2.2.1) m6 rfl ?_
  intro p e s m args below meth c s₁ B hml hv
  obtain ⟨rfl, hP, hK⟩ := hv
  have hts := atoms_spec (ws := Cond.code r.2.1 r.2.2.1 r.2.2.2.1 r.2.2.2.2.1 :: lw_gd) B.pre
  have hown : s.vm.findClass r.2.1.cls = some m.cls := findClass_of_methodNamed B.named
  have hnm := (name_of_methodNamed B.named B.method).1
  have hlocks := B.notSynchronized
  have hret := B.returns
  have X : fr_X r p r.2.2.2.2.2.2.1 s m (as.map (fr_rv G)).toArray meth c G none := ⟨B.exec, B.bytes, hml, ⟨_, m1, hown⟩, fun w h => hts w (List.mem_cons_of_mem _ h), hK, ⟨Nat.le_refl _, Nat.le_refl _⟩, by rw [hP.1]; exact Nat.le_add_right _ _, fun h2 => by rw [hnm]; exact m10 h2, fun n f h => by cases h⟩
  have hRt : fr_Rt r p l e r.2.2.2.2.2.2.1 s m (as.map (fr_rv G)).toArray below meth c (MQ below (fr_Qc G q) (as.map (fr_rv G)).toArray s r.2.2.2.2.2.2.1.cells r.2.2.2.2.2.2.1.slots (fun q => G.1 ≤ q)) G q := by
    intro pc ls v sh2 M2 bc2 bs2 hq hrd ls' H locs cells slots S
    have hcell := S.2.2.2.2.2.2.1
    have hslot := S.2.2.2.2.2.2.2
    refine W.widen (k := r.2.2.2.2.2.2.1.cells) (n := r.2.2.2.2.2.2.1.slots) (by omega) (by omega) ?_
    have hQ : ∀ t : State, t.heap = H → s.WarmedH t.vm → fr_Qc G q (as.map (fr_rv G)).toArray s (.returned (v.map (fr_rv G))) t := fun t ht _ => ⟨v, sh2, M2, rfl, hq, fun w hw => S.2.2.1 w (by rw [hw]; exact List.mem_singleton.mpr rfl), S.2.2.2.1, by rw [ht]; exact S.2.2.2.2.1, S.2.2.2.2.2.1.F ht⟩
    match v, hrd, hQ with
    | none, hrd, hQ => exact W.vret B.exec B.bytes (hret.trans hrd.2) hQ S.2.2.2.2.2.1.2.2 hrd.1 hlocks
    | some (.inl x), hrd, hQ =>
      rcases hrd.2 with h | ⟨h, hx⟩
      · exact W.iret B.exec B.bytes (hret.trans h) hQ S.2.2.2.2.2.1.2.2 hrd.1 hlocks
      · exact W.zret B.exec B.bytes (hret.trans h) (fr_nar1 hx) hQ S.2.2.2.2.2.1.2.2 hrd.1 hlocks
    | some (.inr (.inl k)), hrd, hQ =>
      obtain ⟨n, hn⟩ := hrd.2
      exact W.aret B.exec B.bytes (hret.trans hn) (Or.inl ⟨n, rfl⟩) (Or.inr ⟨_, rfl⟩) hQ S.2.2.2.2.2.1.2.2 hrd.1 hlocks
    | some (.inr (.inr _)), hrd, _ => exact hrd.elim
  have hW := hc r p l e r.2.2.2.2.2.2.1 s m (as.map (fr_rv G)).toArray below meth c _ G hr X hRt
  rw [lg_entry_eq]
  have hle := fr_sl_len G as
  have hen := lv_entry (as.map (fr_rv G)) (n := r.2.2.2.1) (by omega)
  have hmx : fr_mx mj = r.2.2.2.1 := by unfold fr_mx; rw [fr_nth_eq, hr]
  have hpc : fr_tg r.2.2.2.2.2.1 0 = 0 := fr_pc0 hr
  have hW2 := hW _ s.heap [] 0 0 ⟨⟨(fr_ini_len as (fr_mx mj) (by rw [hmx]; exact hw)).trans hmx, hen.1, hen.2.1, fun i v hv => hen.2.2 (i, fr_rv G v) (by have := (fr_ini_in G as _ 0 i v hv).1; rw [Nat.zero_add] at this; exact this)⟩, fun v hv => by
      obtain ⟨i, hi⟩ := List.getElem?_of_mem hv
      exact has v (fr_ini_in G as _ 0 i v hi).2, fun v h => (by cases h), hM, hP, va_S.rf, (by unfold fr_mcc; rw [fr_nth_eq, hr]; simp), (by unfold fr_mss; rw [fr_nth_eq, hr]; simp)⟩
  rw [hpc] at hW2
  exact hW2
end FrCall
end
section
theorem fr_inone_all : fr_tab.all (fun r => (!(Nat.beq r.2.2.2.2.2.2.2.1 2)) || r.2.2.2.2.1.isNone) = true := by decide +kernel
theorem fr_inone {mj : Nat} {r : fr_T} (h : fr_tab[mj]? = some r) (h2 : r.2.2.2.2.2.2.2.1 = 2) : r.2.2.2.2.1 = none := by
  have h3 := List.all_eq_true.mp fr_inone_all r (List.mem_of_getElem? h)
  rw [h2] at h3
  exact Option.isNone_iff_eq_none.mp h3
theorem fr_recv_e {as st rest : List fr_V} {n : Nat} {v : fr_V} (a1 : st = as.reverse ++ rest) (a3 : as.length = n) (hn : 0 < n) (h : fr_nth st (n - 1) = some v) : ∃ As, as = v :: As := by
  cases as with
  | nil => simp at a3; omega
  | cons w As =>
    refine ⟨As, ?_⟩
    rw [fr_nth_eq, a1, List.reverse_cons, List.append_assoc] at h
    have hl : As.reverse.length = n - 1 := by simp at a3 ⊢; omega
    rw [List.getElem?_append_right (by omega), hl, Nat.sub_self] at h
    cases h
    rfl
section FrInv
variable {p : Program} {l : Launch} {e : Env} {R : Room} {s : State} {m : MethodId} {args : Array Value} {below : List Frame} {meth : Method} {c : Code} {Z : State → Prop} {G : fr_G} {rc : fr_T} {scr : Option (Nat × (Int → Int))}
variable {ls : fr_L} {st : List fr_V} {sh : fr_H} {M : fr_M} {bc bs pc : Nat}
theorem fr_goon {nL : Nat} {H : Heap} {locs : List Loc} {cells slots : Nat} {ls' : Array Slot} {rest : List fr_V} {st0 : List Value} {mc ms : Nat} {q : Option fr_V → fr_H → fr_M → Prop} {a : Array Value}
    (hr : va_Run p l e R s m args below meth c H locs cells slots mc ms (F0 m pc ls' st0) (rest.map (fr_rv G)) (fr_Qc G q a) (fun q => G.1 ≤ q)) (S : fr_S nL R s G ls st sh M bc bs ls' H locs cells slots) (hrest : ∀ v ∈ rest, fr_ok v) (h1 : mc ≤ bc) (h2 : ms ≤ bs)
    (hq : ∀ r sh M, q r sh M → fr_Wt p l e R s m args below meth c Z G nL (pc + 3) ls (r.toList ++ rest) sh M (bc - mc) (bs - ms)) : W p l e R s m args below meth c H locs cells slots Z (F0 m pc ls' st0) := by
  intro T hT Xs
  obtain ⟨v, st₀, t, T', L, h0, X', hL, e1, e2, ⟨r, sh2, M2, hv, hq1, hok, hM2, hP2, hF⟩, st⟩ := hr T hT Xs
  cases hv
  have hc := S.2.2.2.2.2.2.1
  have hs := S.2.2.2.2.2.2.2
  obtain ⟨f1, f2⟩ := hF
  rw [h0] at f1 f2
  have S' : fr_S nL R s G ls (r.toList ++ rest) sh2 M2 (bc - mc) (bs - ms) ls' T'.heap (locs ++ L) (cells + mc) (slots + ms) := by
    refine ⟨S.1, S.2.1, fun w hw => ?_, hM2, by rw [e1]; exact hP2, ⟨?_, fun q g1 g2 => ?_, fun q hq => ?_⟩, by omega, by omega⟩
    · rcases List.mem_append.mp hw with h | h
      · cases r with
        | none => cases h
        | some u => exact hok w (by rw [List.mem_singleton.mp h])
      · exact hrest w h
    · rw [e1]; exact Nat.le_trans S.2.2.2.2.2.1.1 f1
    · rw [e1, f2 q (Nat.lt_of_lt_of_le g1 S.2.2.2.2.2.1.1) g2]
      exact S.2.2.2.2.2.1.2.1 q g1 g2
    · rcases List.mem_append.mp hq with h | h
      · exact S.2.2.2.2.2.1.2.2 q h
      · exact hL q h
  obtain ⟨t2, a1, b1⟩ := hq r sh2 M2 hq1 ls' T'.heap (locs ++ L) _ _ S' T' rfl X'
  refine ⟨t2, st t2 ?_, b1⟩
  cases r <;> exact a1
theorem fr_args_e : ∀ (n : Nat) (st acc : List fr_V), n ≤ st.length → st = (fr_args n st []).reverse ++ fr_rest n st ∧ fr_args n st acc = fr_args n st [] ++ acc ∧ (fr_args n st []).length = n
  | 0, st, acc, _ => ⟨rfl, rfl, rfl⟩
  | n + 1, [], acc, h => by simp at h
  | n + 1, v :: st, acc, h => by
    have hn : n ≤ st.length := by simp at h; omega
    obtain ⟨a1, a2, a3⟩ := fr_args_e n st [v] hn
    obtain ⟨b1, b2, b3⟩ := fr_args_e n st (v :: acc) hn
    refine ⟨?_, ?_, ?_⟩
    · show v :: st = (fr_args n st [v]).reverse ++ fr_rest n st
      rw [a2, List.reverse_append]
      show v :: st = v :: ((fr_args n st []).reverse ++ fr_rest n st)
      rw [← a1]
    · show fr_args n st (v :: acc) = fr_args n st [v] ++ acc
      rw [b2, a2, List.append_assoc]
      rfl
    · show (fr_args n st [v]).length = n + 1
      rw [a2, List.length_append, a3]
      rfl
theorem fr_gin {w0 : Cond} (h : w0 ∈ lw_gd) : GoodIn lw_gd (w0 :: lw_gd) := by
  have hg : ∀ w ∈ lw_gd, (w.onTables && w.keeps) = true ∨ ∃ ty, w = .arrayClass ty := fun w hw => good_of_word (List.mem_filter.mp hw).2
  intro w hw
  rcases List.mem_cons.mp hw with rfl | hw
  · exact ⟨h, hg _ h⟩
  · exact ⟨hw, hg w hw⟩
theorem fr_blind {as : List fr_V} : FrameBlind (fr_Pc G as sh M) := fun a U g mk q => ⟨q.1, q.2.1, va_K.moved (u := U) (U := U.calling g mk a) (Vm.Alike.refl U.vm) q.2.2⟩
theorem fr_pre {H : Heap} {as : List fr_V} (X : fr_X rc p R s m args meth c G scr) (hP : fr_P G sh M H) : ∀ U : State, U.heap = H → s.WarmedH U.vm → fr_Pc G as sh M (as.map (fr_rv G)).toArray U := fun U hU hW => ⟨rfl, by rw [hU]; exact hP, va_K.moved hW.alike X.2.2.2.2.2.1⟩
theorem fr_s_inv (X : fr_X rc p R s m args meth c G scr) {i a kind : Nat} {d : List Nat} {K : fr_L → List fr_V → fr_H → fr_M → Nat → Nat → Prop} {C : Nat → List fr_V → (Option fr_V → fr_H → fr_M → Prop) → Prop} (hcal : fr_cal rc i a d kind = true)
    (hd : (kind = 0 ∧ decode rc.2.2.1 pc = .ok (.invokestatic i, 3)) ∨ (kind = 2 ∧ (∃ k, fr_nth st (d.headD 0 - 1) = some (.inr (.inl k))) ∧ decode rc.2.2.1 pc = .ok (.invokespecial i, 3)) ∨ (kind = 1 ∧ decode rc.2.2.1 pc = .ok (.invokevirtual i, 3) ∧ ∃ b r, b < 13 ∧ fr_rcv sh b (fr_nth st (d.headD 0 - 1)) = true ∧ fr_tab[a]? = some r ∧ r.1 = b))
    (h : fr_call d ls st bc bs a K C) (hK : ∀ ls st sh M bc bs, K ls st sh M bc bs → fr_Wt p l e R s m args below meth c Z G rc.2.2.2.1 (pc + 3) ls st sh M bc bs) (hC : ∀ mj as q, C mj as q → fr_Call mj as sh M q) : fr_Wt p l e R s m args below meth c Z G rc.2.2.2.1 pc ls st sh M bc bs := by
  intro ls' H locs cells slots S
  obtain ⟨o, ho1, ho2⟩ := X.2.2.2.1
  unfold fr_cal at hcal
  rw [Bool.and_eq_true] at hcal
  obtain ⟨hmem, hcal⟩ := hcal
  split at hcal
  · next r hr =>
    rw [fr_nth_eq] at hr
    simp only [Bool.and_eq_true] at hcal
    obtain ⟨⟨⟨c1, c2⟩, c3⟩, c4⟩ := hcal
    have c1 := Nat.beq_eq.mp c1
    have c2 := Nat.le_of_ble_eq_true c2
    have c3 := Nat.le_of_ble_eq_true c3
    have c4 := of_decide_eq_true c4
    have hk3 : r.2.2.2.2.2.2.2.1 ≠ 3 := by
      rcases hd with ⟨k0, -⟩ | ⟨k0, -⟩ | ⟨k0, -⟩ <;> omega
    obtain ⟨m1, m2⟩ := fr_meth hr
    obtain ⟨m3, m4, m5, m6, m7, m8, m9, m10⟩ := m2 hk3
    rw [c4] at h
    obtain ⟨hb, hCa⟩ := fr_cond_e h
    simp only [Bool.and_eq_true] at hb
    obtain ⟨b1, b2, b3, b4, b5⟩ := hb
    have b1 := Nat.le_of_ble_eq_true b1
    have b2 := Nat.le_of_ble_eq_true b2
    have b3 := Nat.le_of_ble_eq_true b3
    have b4 := Nat.le_of_ble_eq_true b4
    have b5 := Nat.le_of_ble_eq_true b5
    have hlink : (Cond.methodLink o i r.2.1).before args s = true := by
      have h2 := fr_link ho1 hmem
      unfold fr_word at h2
      simp only [fr_nth_eq, hr] at h2
      exact X.w h2 rfl
    generalize hn : (if kind = 0 then r.2.2.2.2.2.2.2.2 else r.2.2.2.2.2.2.2.2 + 1) = n at *
    obtain ⟨a1, -, a3⟩ := fr_args_e n st [] b1
    generalize fr_args n st [] = as at *
    generalize fr_rest n st = rest at *
    have has : ∀ v ∈ as, fr_ok v := fun v hv => S.2.2.1 v (by rw [a1]; exact List.mem_append_left _ (List.mem_reverse.mpr hv))
    have hrs : ∀ v ∈ rest, fr_ok v := fun v hv => S.2.2.1 v (by rw [a1]; exact List.mem_append_right _ hv)
    have hM := fr_met l (hC _ _ _ hCa) hr hk3 has S.2.2.2.1 b3 G
    have hgood : Cond.code r.2.1 r.2.2.1 r.2.2.2.1 r.2.2.2.2.1 ∈ lw_gd := lw_gd_in m3 rfl
    have hRf := X.2.2.2.2.2.2.1
    have cb := callB_of (R := R) (own := o) (index := i) r.2.2.2.2.2.2.2.2 X.2.2.2.2.1 (fr_gin hgood) rfl (rm := r.2.2.2.2.2.2.1) rfl rfl (X.w m4 rfl) hlink m5 ⟨Nat.le_trans c2 hRf.1, Nat.le_trans c3 hRf.2⟩
    have hRc := S.2.2.2.2.2.2.1
    have hRs := S.2.2.2.2.2.2.2
    have hf : cells + r.2.2.2.2.2.2.1.cells ≤ R.cells ∧ slots + r.2.2.2.2.2.2.1.slots ≤ R.slots := ⟨by omega, by omega⟩
    have hroom : 2 * (F0 m pc ls' (st.map (fr_rv G))).monitorRoom + ((rest.map (fr_rv G)).map fun v => v.category).sum ≤ 8 := lv_room (by rw [fr_wd_sum]; exact b2)
    have hgo : ∀ (r2 : Option fr_V) (sh2 : fr_H) (M2 : fr_M), (match r2 with
        | none => cond (Nat.beq (if r.2.2.2.2.1.isSome then 1 else 0) 0) (K ls rest sh2 M2 (bc - r.2.2.2.2.2.2.1.cells) (bs - r.2.2.2.2.2.2.1.slots)) False
        | some v => cond (Nat.beq (if r.2.2.2.2.1.isSome then 1 else 0) 1) (K ls (v :: rest) sh2 M2 (bc - r.2.2.2.2.2.2.1.cells) (bs - r.2.2.2.2.2.2.1.slots)) False) → fr_Wt p l e R s m args below meth c Z G rc.2.2.2.1 (pc + 3) ls (r2.toList ++ rest) sh2 M2 (bc - r.2.2.2.2.2.2.1.cells) (bs - r.2.2.2.2.2.2.1.slots) := by
      intro r2 sh2 M2 hq
      cases r2 with
      | none => exact hK _ _ _ _ _ _ (fr_cond_e hq).2
      | some v => exact hK _ _ _ _ _ _ (fr_cond_e hq).2
    rcases hd with ⟨k0, hd⟩ | ⟨k0, ⟨kr, hkr⟩, hd⟩ | ⟨k0, hd, b, r', hb13, hrcv, hr', hrb⟩
    · subst k0
      rw [if_pos rfl] at hn
      exact fr_goon (va_runS (As := as.map (fr_rv G)) ⟨X.1, X.2.1, X.2.2.1, ho2, X.2.2.2.2.1⟩ hM ⟨cb, X.w (m7 c1) rfl⟩ ⟨fr_blind, fr_pre X S.2.2.2.2.1⟩ rfl (by rw [List.length_map, a3, hn]) S.1.2.1 (by show st.map (fr_rv G) = _; rw [a1, List.map_append, List.map_reverse]) hroom hd hf) S hrs b4 b5 hgo
    · subst k0
      have hhead : ∃ As, as = .inr (.inl kr) :: As := fr_recv_e a1 a3 (by rw [if_neg (by decide)] at hn; omega) (by rw [c4] at hkr; exact hkr)
      obtain ⟨As, rfl⟩ := hhead
      have hname := m10 c1
      rw [if_neg (by decide)] at hn
      have hnone : r.2.2.2.2.1 = none := fr_inone hr c1
      rw [hnone] at cb hM hgo
      exact fr_goon (va_runI (b := G.1 + kr) (As := As.map (fr_rv G)) ⟨X.1, X.2.1, X.2.2.1, ho2, X.2.2.2.2.1⟩ hM ⟨cb, hname, X.w (m8 (by omega)) rfl⟩ ⟨fr_blind, fr_pre X S.2.2.2.2.1⟩ rfl (by rw [List.length_map]; simp at a3; omega) S.1.2.1 (by show st.map (fr_rv G) = _; rw [a1, List.map_append, List.reverse_cons, List.map_append, List.append_assoc, List.map_reverse]; rfl) hroom hd hf) S hrs b4 b5 hgo
    · subst k0
      rw [if_neg (by decide)] at hn
      cases hr.symm.trans hr'
      have hrcv' := hrcv
      unfold fr_rcv at hrcv
      split at hrcv
      · next kr hkr =>
        have hhead : ∃ As, as = .inr (.inl kr) :: As := fr_recv_e a1 a3 (by omega) (by rw [c4] at hkr; exact hkr)
        obtain ⟨As, rfl⟩ := hhead
        split at hrcv
        · next ci fs hsh =>
          rw [fr_nth_eq] at hsh
          have hci := Nat.beq_eq.mp hrcv
          subst hci
          obtain ⟨rr, h1, h2, cell, q1, q2, q3, q4⟩ := S.2.2.2.2.1.2 kr _ hsh
          have hC : rr.1 = r.2.1.cls := by
            have := (fr_cls2 h1).1
            rw [← hrb, m1] at this
            exact (Option.some.inj this).symm
          have hrec : ∃ cellB : Cell, H[G.1 + kr]? = some cellB ∧ cellB.vm.isStatics = false ∧ s.vm.findClass r.2.1.cls = some cellB.cls := ⟨cell, q1, by rw [q3]; rfl, by rw [q2, ← hC]; exact (X.2.2.2.2.2.1.1 ci _ h1).2.1⟩
          exact fr_goon (va_runV (b := G.1 + kr) (As := As.map (fr_rv G)) ⟨X.1, X.2.1, X.2.2.1, ho2, X.2.2.2.2.1⟩ hM ⟨cb, X.w (m8 (by omega)) rfl, X.w (m9 c1) rfl⟩ ⟨fr_blind, hrec, fr_pre X S.2.2.2.2.1⟩ rfl (by rw [List.length_map]; simp at a3; omega) S.1.2.1 (by show st.map (fr_rv G) = _; rw [a1, List.map_append, List.reverse_cons, List.map_append, List.append_assoc, List.map_reverse]; rfl) hroom hd hf) S hrs b4 b5 hgo
        · cases hrcv
      · cases hrcv
  · cases hcal
end FrInv
end
section
section FrSound
variable {p : Program} {l : Launch} {e : Env} {R : Room} {s : State} {m : MethodId} {args : Array Value} {below : List Frame} {meth : Method} {c : Code} {Z : State → Prop} {G : fr_G} {rc : fr_T} {scr : Option (Nat × (Int → Int))}
variable {ls : fr_L} {st : List fr_V} {sh : fr_H} {M : fr_M} {bc bs pc : Nat}
theorem fr_ald_e {i : Nat} {f : fr_V → Prop} (h : fr_ald ls i f) : ∃ v, ls[i]? = some (some v) ∧ f v ∧ ((∃ k, v = .inr (.inl k)) ∨ ∃ u, v = .inr (.inr (.inr u))) := by
  unfold fr_ald at h
  split at h
  · next k hq => exact ⟨_, by rw [← fr_nth_eq]; exact hq, h, Or.inl ⟨_, rfl⟩⟩
  · next u hq => exact ⟨_, by rw [← fr_nth_eq]; exact hq, h, Or.inr ⟨_, rfl⟩⟩
  · exact h.elim
theorem fr_i8 {n : Int} (h : -128 ≤ n ∧ n ≤ 127) : (Int8.ofInt n).toInt32 = Int32.ofInt n := by
  apply Int32.toInt_inj.mp
  rw [Int8.toInt_toInt32, fr_ti ⟨by omega, by omega⟩, Int8.toInt_ofInt]
  unfold Int.bmod
  simp only [Int8.size] at *
  split <;> omega
theorem fr_i16 {n : Int} (h : -32768 ≤ n ∧ n ≤ 32767) : (Int16.ofInt n).toInt32 = Int32.ofInt n := by
  apply Int32.toInt_inj.mp
  rw [Int16.toInt_toInt32, fr_ti ⟨by omega, by omega⟩, Int16.toInt_ofInt]
  unfold Int.bmod
  simp only [Int16.size] at *
  split <;> omega
theorem fr_catk {v : fr_V} (h : Nat.beq (fr_cat v) 1 = true) : (fr_rv G v).category = 1 := by rw [fr_cat_rv]; exact Nat.beq_eq.mp h
theorem fr_min {x y : Int} (hx : fr_in x) (hy : fr_in y) : (if Int32.ofInt y < Int32.ofInt x then Int32.ofInt y else Int32.ofInt x) = Int32.ofInt (min x y) := by
  rw [Int.min_def]
  by_cases h : y < x
  · rw [if_pos ((fr_lt hy hx).mpr h), if_neg (by omega)]
  · rw [if_neg (fun q => h ((fr_lt hy hx).mp q)), if_pos (by omega)]
theorem fr_max {x y : Int} (hx : fr_in x) (hy : fr_in y) : (if Int32.ofInt x < Int32.ofInt y then Int32.ofInt y else Int32.ofInt x) = Int32.ofInt (max x y) := by
  rw [Int.max_def]
  by_cases h : x < y
  · rw [if_pos ((fr_lt hx hy).mpr h), if_pos (by omega)]
  · rw [if_neg (fun q => h ((fr_lt hx hy).mp q))]
    by_cases h2 : x ≤ y
    · rw [if_pos h2]; congr 1; omega
    · rw [if_neg h2]
theorem fr_in_min {x y : Int} (hx : fr_in x) (hy : fr_in y) : fr_in (min x y) := by
  rw [Int.min_def]; split
  · exact hx
  · exact hy
theorem fr_in_max {x y : Int} (hx : fr_in x) (hy : fr_in y) : fr_in (max x y) := by
  rw [Int.max_def]; split
  · exact hy
  · exact hx
theorem fr_fv_up {fs : fr_F} {k b : Nat} {x : Int} (hb : fs[b]? = some none) : ∀ j, updV (fr_fv G fs (M k)) b (.int (Int32.ofInt x)) j = fr_fv G fs (fr_up M k (b : Int) x k) j := by
  intro j
  unfold updV
  by_cases h : j = b
  · subst h
    rw [if_pos rfl]
    unfold fr_fv
    rw [hb]
    show _ = Value.int (Int32.ofInt (fr_up M k (j : Int) x k (j : Int)))
    rw [fr_up_s, if_pos rfl]
  · rw [if_neg h]
    unfold fr_fv
    have e : fr_up M k (b : Int) x k (j : Int) = M k (j : Int) := by rw [fr_up_s, if_neg (by omega)]
    rw [e]
theorem fr_fv_set {fs : fr_F} {k b q : Nat} (hb : b < fs.length) : ∀ j, updV (fr_fv G fs (M k)) b (.ref (G.1 + q)) j = fr_fv G (fs.set b (some (some q))) (M k) j := by
  intro j
  unfold updV
  by_cases h : j = b
  · subst h
    rw [if_pos rfl]
    unfold fr_fv
    rw [List.getElem?_set_self hb]
  · rw [if_neg h]
    unfold fr_fv
    rw [List.getElem?_set_ne (fun z => h z.symm)]
/-- ONE INSTRUCTION -/
theorem fr_step (X : fr_X rc p R s m args meth c G scr) {en : fr_E} (hen : fr_ch rc en = true) {K : fr_L → List fr_V → fr_H → fr_M → Nat → Nat → Prop} {J : Nat → List fr_V → Prop} {C : Nat → List fr_V → (Option fr_V → fr_H → fr_M → Prop) → Prop} {Rt : Option fr_V → Prop}
    (h : fr_sem fr_kd scr en ls st sh M bc bs K J C Rt)
    (hK : ∀ ls st sh M bc bs, K ls st sh M bc bs → fr_Wt p l e R s m args below meth c Z G rc.2.2.2.1 (en.1 + en.2.2.1) ls st sh M bc bs)
    (hJ : ∀ t st, J t st → fr_Wt p l e R s m args below meth c Z G rc.2.2.2.1 (fr_tg rc.2.2.2.2.2.1 t) ls st sh M bc bs)
    (hC : ∀ mj as q, C mj as q → fr_Call mj as sh M q)
    (hR : ∀ r, Rt r → fr_rd rc en.1 r → fr_Wt p l e R s m args below meth c Z G rc.2.2.2.1 en.1 ls r.toList sh M bc bs) : fr_Wt p l e R s m args below meth c Z G rc.2.2.2.1 en.1 ls st sh M bc bs := by
  obtain ⟨pc, ins, len, a, b, ci, d⟩ := en
  unfold fr_ch at hen
  rw [Bool.and_eq_true] at hen
  obtain ⟨hd, hen⟩ := hen
  replace hd := of_decide_eq_true hd
  dsimp only at hK hR hd hen ⊢
  cases ins
  all_goals (try exact False.elim h)
  case iconst n =>
    rw [Bool.and_eq_true] at hen
    obtain ⟨hl, hn⟩ := hen
    have hl := Nat.beq_eq.mp hl
    have hn := of_decide_eq_true hn
    subst hl
    intro ls' H locs cells slots S
    exact lv_iconst X.1 X.2.1 hd rfl (fr_s_push (v := .inl n) (hK _ _ _ _ _ _ h) ⟨by omega, by omega⟩ ls' H locs cells slots S)
  case bipush n =>
    rw [Bool.and_eq_true] at hen
    obtain ⟨hl, hn⟩ := hen
    have hl := Nat.beq_eq.mp hl
    have hn := of_decide_eq_true hn
    subst hl
    intro ls' H locs cells slots S
    exact lv_bipush X.1 X.2.1 hd (fr_i8 hn) (fr_s_push (v := .inl n) (hK _ _ _ _ _ _ h) ⟨by omega, by omega⟩ ls' H locs cells slots S)
  case sipush n =>
    rw [Bool.and_eq_true] at hen
    obtain ⟨hl, hn⟩ := hen
    have hl := Nat.beq_eq.mp hl
    have hn := of_decide_eq_true hn
    subst hl
    intro ls' H locs cells slots S
    exact lv_sipush X.1 X.2.1 hd (fr_i16 hn) (fr_s_push (v := .inl n) (hK _ _ _ _ _ _ h) ⟨by omega, by omega⟩ ls' H locs cells slots S)
  case ldc i =>
    simp only [Bool.and_eq_true] at hen
    obtain ⟨⟨hl, hm⟩, hn⟩ := hen
    have hl := Nat.beq_eq.mp hl
    have hn := of_decide_eq_true hn
    subst hl
    obtain ⟨o, ho1, ho2⟩ := X.2.2.2.1
    intro ls' H locs cells slots S
    exact lv_ldc X.1 X.2.1 ho2 (X.w (fr_link ho1 hm) rfl) hd (fr_s_push (v := .inl ci) (hK _ _ _ _ _ _ h) hn ls' H locs cells slots S)
  case ldc_w i =>
    simp only [Bool.and_eq_true] at hen
    obtain ⟨⟨hl, hm⟩, hn⟩ := hen
    have hl := Nat.beq_eq.mp hl
    have hn := of_decide_eq_true hn
    subst hl
    obtain ⟨o, ho1, ho2⟩ := X.2.2.2.1
    intro ls' H locs cells slots S
    exact lv_ldcw X.1 X.2.1 ho2 (X.w (fr_link ho1 hm) rfl) hd (fr_s_push (v := .inl ci) (hK _ _ _ _ _ _ h) hn ls' H locs cells slots S)
  case ldc2_w i =>
    simp only [Bool.and_eq_true] at hen
    obtain ⟨hl, hm⟩ := hen
    have hl := Nat.beq_eq.mp hl
    subst hl
    obtain ⟨o, ho1, ho2⟩ := X.2.2.2.1
    intro ls' H locs cells slots S
    exact lv_ldc2 X.1 X.2.1 ho2 (X.w (fr_link ho1 hm) rfl) hd (fr_s_push (v := .inr (.inr (.inl (Int64.ofInt ci)))) (hK _ _ _ _ _ _ h) trivial ls' H locs cells slots S)
  case iload i =>
    have hl := Nat.beq_eq.mp hen
    subst hl
    obtain ⟨x, h1, h2⟩ := fr_ild_e h
    exact fr_s_ild X h1 hd (hK _ _ _ _ _ _ h2)
  case iload_n i =>
    have hl := Nat.beq_eq.mp hen
    subst hl
    obtain ⟨x, h1, h2⟩ := fr_ild_e h
    exact fr_s_ildn X h1 hd (hK _ _ _ _ _ _ h2)
  case aload i =>
    have hl := Nat.beq_eq.mp hen
    subst hl
    simp only [fr_sem] at h
    obtain ⟨v, h1, h2, h3⟩ := fr_ald_e h
    intro ls' H locs cells slots S
    have kk := fr_s_push (hK _ _ _ _ _ _ h2) (S.2.1 _ (List.mem_of_getElem? h1)) ls' H locs cells slots S
    have hv := S.1.2.2.2 _ _ h1
    rcases h3 with ⟨k, rfl⟩ | ⟨u, rfl⟩
    · exact lv_aload X.1 X.2.1 hd hv kk
    · exact lv_aload X.1 X.2.1 hd hv kk
  case aload_n i =>
    have hl := Nat.beq_eq.mp hen
    subst hl
    simp only [fr_sem] at h
    obtain ⟨v, h1, h2, h3⟩ := fr_ald_e h
    intro ls' H locs cells slots S
    have kk := fr_s_push (hK _ _ _ _ _ _ h2) (S.2.1 _ (List.mem_of_getElem? h1)) ls' H locs cells slots S
    have hv := S.1.2.2.2 _ _ h1
    rcases h3 with ⟨k, rfl⟩ | ⟨u, rfl⟩
    · exact lv_aload_n X.1 X.2.1 hd rfl hv kk
    · exact lv_aload_n X.1 X.2.1 hd rfl hv kk
  case lload_n i =>
    have hl := Nat.beq_eq.mp hen
    subst hl
    simp only [fr_sem] at h
    split at h
    · next x hq =>
      rw [fr_nth_eq] at hq
      intro ls' H locs cells slots S
      exact lv_lload_n X.1 X.2.1 hd rfl (S.1.2.2.2 _ _ hq) (fr_s_push (v := .inr (.inr (.inl x))) (hK _ _ _ _ _ _ h) trivial ls' H locs cells slots S)
    · exact h.elim
  case istore i =>
    have hl := Nat.beq_eq.mp hen
    subst hl
    obtain ⟨x, r, rfl, h1⟩ := fr_u1_e h
    obtain ⟨h2, h3⟩ := fr_cond_e h1
    intro ls' H locs cells slots S
    exact lv_istore X.1 X.2.1 hd S.1.has (by have := (fr_sk_e h2).1; have := S.1.1; omega) rfl (fun ls2 hl2 => hK _ _ _ _ _ _ h3 ls2 H locs cells slots (S.loc (fr_okt S.2.2.1) (fr_okh S.2.2.1) h2 hl2))
  case istore_n i =>
    have hl := Nat.beq_eq.mp hen
    subst hl
    obtain ⟨x, r, rfl, h1⟩ := fr_u1_e h
    obtain ⟨h2, h3⟩ := fr_cond_e h1
    intro ls' H locs cells slots S
    exact lv_istore_n X.1 X.2.1 hd rfl S.1.has (by have := (fr_sk_e h2).1; have := S.1.1; omega) rfl (fun ls2 hl2 => hK _ _ _ _ _ _ h3 ls2 H locs cells slots (S.loc (fr_okt S.2.2.1) (fr_okh S.2.2.1) h2 hl2))
  case astore_n i =>
    have hl := Nat.beq_eq.mp hen
    subst hl
    simp only [fr_sem] at h
    split at h
    · next k r =>
      obtain ⟨h2, h3⟩ := fr_cond_e h
      intro ls' H locs cells slots S
      exact lv_astore_n X.1 X.2.1 hd rfl S.1.has (by have := (fr_sk_e h2).1; have := S.1.1; omega) rfl (fun ls2 hl2 => hK _ _ _ _ _ _ h3 ls2 H locs cells slots (S.loc (v := .inr (.inl k)) (fr_okt S.2.2.1) trivial h2 hl2))
    · exact h.elim
  case iinc i n =>
    have hl := Nat.beq_eq.mp hen
    subst hl
    obtain ⟨x, h1, h2, h3⟩ := fr_ild_e h
    obtain ⟨h4, h5⟩ := fr_cond_e h3
    intro ls' H locs cells slots S
    have hm : (i, fr_rv G (.inl x)) ∈ fr_lst G ls := fr_lst_in.mpr ⟨_, h1, rfl⟩
    obtain ⟨k, hk⟩ := List.getElem?_of_mem hm
    exact lv_iinc (v := Int32.ofInt (x + n)) X.1 X.2.1 hd S.1.has hk (by rw [Int32.ofInt_add]) (by have := (fr_sk_e h4).1; have := S.1.1; omega) rfl (fun ls2 hl2 => hK _ _ _ _ _ _ h5 ls2 H locs cells slots (S.loc (v := .inl (x + n)) S.2.2.1 h2 h4 hl2))
  case dup =>
    have hl := Nat.beq_eq.mp hen
    subst hl
    simp only [fr_sem] at h
    split at h
    · next v r =>
      obtain ⟨h2, h3⟩ := fr_cond_e h
      intro ls' H locs cells slots S
      exact lv_dup X.1 X.2.1 hd (fr_catk h2) (hK _ _ _ _ _ _ h3 ls' H locs cells slots (S.stk (fr_okc (fr_okh S.2.2.1) S.2.2.1)))
    · exact h.elim
  case pop =>
    have hl := Nat.beq_eq.mp hen
    subst hl
    simp only [fr_sem] at h
    split at h
    · next v r =>
      obtain ⟨h2, h3⟩ := fr_cond_e h
      intro ls' H locs cells slots S
      exact lv_pop X.1 X.2.1 hd (fr_catk h2) (hK _ _ _ _ _ _ h3 ls' H locs cells slots (S.stk (fr_okt S.2.2.1)))
    · exact h.elim
  case dup2 =>
    have hl := Nat.beq_eq.mp hen
    subst hl
    simp only [fr_sem] at h
    split at h
    · next v w r =>
      obtain ⟨h2, h3⟩ := fr_cond_e h
      rw [Bool.and_eq_true] at h2
      intro ls' H locs cells slots S
      exact lv_dup2_11 X.1 X.2.1 hd (fr_catk h2.1) (fr_catk h2.2) (hK _ _ _ _ _ _ h3 ls' H locs cells slots (S.stk (fr_okc (fr_okh S.2.2.1) (fr_okc (fr_okh (fr_okt S.2.2.1)) S.2.2.1))))
    · exact h.elim
  case iadd =>
    have hl := Nat.beq_eq.mp hen
    subst hl
    obtain ⟨x, y, r, rfl, h1, h2⟩ := fr_b2_e h
    intro ls' H locs cells slots S
    refine lv_iadd X.1 X.2.1 hd ?_
    rw [← Int32.ofInt_add]
    exact hK _ _ _ _ _ _ h2 ls' H locs cells slots (S.stk (fr_okc h1 (fr_okt (fr_okt S.2.2.1))))
  case isub =>
    have hl := Nat.beq_eq.mp hen
    subst hl
    obtain ⟨x, y, r, rfl, h1, h2⟩ := fr_b2_e h
    intro ls' H locs cells slots S
    refine lv_isub X.1 X.2.1 hd ?_
    rw [← Int32.ofInt_sub]
    exact hK _ _ _ _ _ _ h2 ls' H locs cells slots (S.stk (fr_okc h1 (fr_okt (fr_okt S.2.2.1))))
  case imul =>
    have hl := Nat.beq_eq.mp hen
    subst hl
    obtain ⟨x, y, r, rfl, h1, h2⟩ := fr_b2_e h
    intro ls' H locs cells slots S
    refine lv_imul X.1 X.2.1 hd ?_
    rw [← Int32.ofInt_mul]
    exact hK _ _ _ _ _ _ h2 ls' H locs cells slots (S.stk (fr_okc h1 (fr_okt (fr_okt S.2.2.1))))
  case idiv =>
    have hl := Nat.beq_eq.mp hen
    subst hl
    obtain ⟨x, y, r, rfl, h1, h2⟩ := fr_b2_e h
    intro ls' H locs cells slots S
    have hy : fr_in y := fr_okh S.2.2.1
    have hx : fr_in x := fr_okh (fr_okt S.2.2.1)
    refine lv_idiv X.1 X.2.1 hd (fun q => by have := (fr_eq0 hy).mp q; omega) ?_
    rw [fr_div hx hy h1]
    exact hK _ _ _ _ _ _ h2 ls' H locs cells slots (S.stk (fr_okc (fr_in_div hx h1) (fr_okt (fr_okt S.2.2.1))))
  case irem =>
    have hl := Nat.beq_eq.mp hen
    subst hl
    obtain ⟨x, y, r, rfl, h1, h2⟩ := fr_b2_e h
    intro ls' H locs cells slots S
    have hy : fr_in y := fr_okh S.2.2.1
    have hx : fr_in x := fr_okh (fr_okt S.2.2.1)
    refine lv_irem X.1 X.2.1 hd (fun q => by have := (fr_eq0 hy).mp q; omega) ?_
    rw [fr_mod hx hy h1]
    exact hK _ _ _ _ _ _ h2 ls' H locs cells slots (S.stk (fr_okc (fr_in_mod hx h1) (fr_okt (fr_okt S.2.2.1))))
  case ineg =>
    have hl := Nat.beq_eq.mp hen
    subst hl
    obtain ⟨x, r, rfl, h1, h2⟩ := fr_u1_e h
    intro ls' H locs cells slots S
    refine lv_ineg X.1 X.2.1 hd ?_
    rw [← Int32.ofInt_neg]
    exact hK _ _ _ _ _ _ h2 ls' H locs cells slots (S.stk (fr_okc h1 (fr_okt S.2.2.1)))
  case iand =>
    have hl := Nat.beq_eq.mp hen
    subst hl
    obtain ⟨x, y, r, rfl, h2⟩ := fr_b2_e h
    intro ls' H locs cells slots S
    refine lv_iand X.1 X.2.1 hd ?_
    rw [← fr_oi (Int32.ofInt x &&& Int32.ofInt y)]
    exact hK _ _ _ _ _ _ h2 ls' H locs cells slots (S.stk (fr_okc (fr_in_toInt _) (fr_okt (fr_okt S.2.2.1))))
  case ior =>
    have hl := Nat.beq_eq.mp hen
    subst hl
    obtain ⟨x, y, r, rfl, h2⟩ := fr_b2_e h
    intro ls' H locs cells slots S
    refine lv_ior X.1 X.2.1 hd ?_
    rw [← fr_oi (Int32.ofInt x ||| Int32.ofInt y)]
    exact hK _ _ _ _ _ _ h2 ls' H locs cells slots (S.stk (fr_okc (fr_in_toInt _) (fr_okt (fr_okt S.2.2.1))))
  case ixor =>
    have hl := Nat.beq_eq.mp hen
    subst hl
    obtain ⟨x, y, r, rfl, h2⟩ := fr_b2_e h
    intro ls' H locs cells slots S
    refine lv_ixor X.1 X.2.1 hd ?_
    rw [← fr_oi (Int32.ofInt x ^^^ Int32.ofInt y)]
    exact hK _ _ _ _ _ _ h2 ls' H locs cells slots (S.stk (fr_okc (fr_in_toInt _) (fr_okt (fr_okt S.2.2.1))))
  case ishl =>
    have hl := Nat.beq_eq.mp hen
    subst hl
    obtain ⟨x, y, r, rfl, h2⟩ := fr_b2_e h
    intro ls' H locs cells slots S
    refine lv_ishl X.1 X.2.1 hd ?_
    rw [← fr_oi (Int32.ofInt x <<< (Int32.ofInt y &&& 31))]
    exact hK _ _ _ _ _ _ h2 ls' H locs cells slots (S.stk (fr_okc (fr_in_toInt _) (fr_okt (fr_okt S.2.2.1))))
  case ishr =>
    have hl := Nat.beq_eq.mp hen
    subst hl
    obtain ⟨x, y, r, rfl, h2⟩ := fr_b2_e h
    intro ls' H locs cells slots S
    refine lv_ishr X.1 X.2.1 hd ?_
    rw [← fr_oi (Int32.ofInt x >>> (Int32.ofInt y &&& 31))]
    exact hK _ _ _ _ _ _ h2 ls' H locs cells slots (S.stk (fr_okc (fr_in_toInt _) (fr_okt (fr_okt S.2.2.1))))
  case iushr =>
    have hl := Nat.beq_eq.mp hen
    subst hl
    obtain ⟨x, y, r, rfl, h2⟩ := fr_b2_e h
    intro ls' H locs cells slots S
    refine lv_iushr X.1 X.2.1 hd (v := Int32.ofInt (fr_ushr x y)) (fr_oi _).symm ?_
    exact hK _ _ _ _ _ _ h2 ls' H locs cells slots (S.stk (fr_okc (fr_in_toInt _) (fr_okt (fr_okt S.2.2.1))))
  case i2b =>
    have hl := Nat.beq_eq.mp hen
    subst hl
    obtain ⟨x, r, rfl, h2⟩ := fr_u1_e h
    intro ls' H locs cells slots S
    refine lv_i2b X.1 X.2.1 hd (v := Int32.ofInt (fr_i2b x)) (fr_oi _).symm ?_
    exact hK _ _ _ _ _ _ h2 ls' H locs cells slots (S.stk (fr_okc (fr_in_toInt _) (fr_okt S.2.2.1)))
  case i2l =>
    have hl := Nat.beq_eq.mp hen
    subst hl
    obtain ⟨x, r, rfl, h2⟩ := fr_u1_e h
    intro ls' H locs cells slots S
    refine lv_i2l X.1 X.2.1 hd rfl ?_
    exact hK _ _ _ _ _ _ h2 ls' H locs cells slots (S.stk (fr_okc trivial (fr_okt S.2.2.1)))
  case l2i =>
    have hl := Nat.beq_eq.mp hen
    subst hl
    simp only [fr_sem] at h
    split at h
    · next x r =>
      intro ls' H locs cells slots S
      refine lv_l2i X.1 X.2.1 hd (v := Int32.ofInt x.toInt32.toInt) (fr_oi _).symm ?_
      exact hK _ _ _ _ _ _ h ls' H locs cells slots (S.stk (fr_okc (fr_in_toInt _) (fr_okt S.2.2.1)))
    · exact h.elim
  case lshl =>
    have hl := Nat.beq_eq.mp hen
    subst hl
    simp only [fr_sem] at h
    split at h
    · next y x r =>
      intro ls' H locs cells slots S
      exact lv_lshl X.1 X.2.1 hd rfl (hK _ _ _ _ _ _ h ls' H locs cells slots (S.stk (fr_okc trivial (fr_okt (fr_okt S.2.2.1)))))
    · exact h.elim
  case lshr =>
    have hl := Nat.beq_eq.mp hen
    subst hl
    simp only [fr_sem] at h
    split at h
    · next y x r =>
      intro ls' H locs cells slots S
      exact lv_lshr X.1 X.2.1 hd rfl (hK _ _ _ _ _ _ h ls' H locs cells slots (S.stk (fr_okc trivial (fr_okt (fr_okt S.2.2.1)))))
    · exact h.elim
  case lushr =>
    have hl := Nat.beq_eq.mp hen
    subst hl
    simp only [fr_sem] at h
    split at h
    · next y x r =>
      intro ls' H locs cells slots S
      exact lv_lushr X.1 X.2.1 hd rfl (hK _ _ _ _ _ _ h ls' H locs cells slots (S.stk (fr_okc trivial (fr_okt (fr_okt S.2.2.1)))))
    · exact h.elim
  case land =>
    have hl := Nat.beq_eq.mp hen
    subst hl
    simp only [fr_sem] at h
    split at h
    · next y x r =>
      intro ls' H locs cells slots S
      exact lv_land X.1 X.2.1 hd (hK _ _ _ _ _ _ h ls' H locs cells slots (S.stk (fr_okc trivial (fr_okt (fr_okt S.2.2.1)))))
    · exact h.elim
  case lor =>
    have hl := Nat.beq_eq.mp hen
    subst hl
    simp only [fr_sem] at h
    split at h
    · next y x r =>
      intro ls' H locs cells slots S
      exact lv_lor X.1 X.2.1 hd (hK _ _ _ _ _ _ h ls' H locs cells slots (S.stk (fr_okc trivial (fr_okt (fr_okt S.2.2.1)))))
    · exact h.elim
  case ifCond q off =>
    rw [Bool.and_eq_true] at hen
    obtain ⟨hl, hj⟩ := hen
    have hl := Nat.beq_eq.mp hl
    subst hl
    obtain ⟨x, r, rfl, h1⟩ := fr_u1_e h
    exact fr_s_ifc X hd hj h1 (fun z => hJ _ _ z) (fun z => hK _ _ _ _ _ _ z)
  case if_icmp q off =>
    rw [Bool.and_eq_true] at hen
    obtain ⟨hl, hj⟩ := hen
    have hl := Nat.beq_eq.mp hl
    subst hl
    obtain ⟨x, y, r, rfl, h1⟩ := fr_b2_e h
    exact fr_s_icm X hd hj h1 (fun z => hJ _ _ z) (fun z => hK _ _ _ _ _ _ z)
  case goto off =>
    rw [Bool.and_eq_true] at hen
    obtain ⟨hl, hj⟩ := hen
    have hl := Nat.beq_eq.mp hl
    subst hl
    intro ls' H locs cells slots S
    exact lv_goto X.1 X.2.1 hd (fr_s_jmp X hj) (hJ _ _ h ls' H locs cells slots S)
  case tableswitch df lo hi offs =>
    simp only [Bool.and_eq_true] at hen
    obtain ⟨⟨⟨h0, h1⟩, h2⟩, h3⟩ := hen
    obtain ⟨x, r, rfl, h4⟩ := fr_u1_e h
    exact fr_s_tsw X hd h0 (of_decide_eq_true h1) (of_decide_eq_true h2) h3 h4 (fun t ht => hJ _ _ ht)
  case lookupswitch df ps =>
    simp only [Bool.and_eq_true] at hen
    obtain ⟨⟨⟨h0, h1⟩, h2⟩, h3⟩ := hen
    obtain ⟨x, r, rfl, h4⟩ := fr_u1_e h
    obtain ⟨t, t1, t2⟩ := fr_lsw_e h4 h0 h2
    intro ls' H locs cells slots S
    have hx : fr_in x := fr_okh S.2.2.1
    exact lv_lookup X.1 X.2.1 hd h3 (by rw [fr_ti hx]) t2 (hJ _ _ t1 ls' H locs cells slots (S.stk (fr_okt S.2.2.1)))
  case getfield i =>
    simp only [Bool.and_eq_true] at hen
    obtain ⟨⟨⟨hl, hm⟩, hc⟩, hb⟩ := hen
    have hl := Nat.beq_eq.mp hl
    subst hl
    simp only [fr_sem] at h
    split at h
    · next k r =>
      obtain ⟨fs, h1, h2⟩ := fr_obj_e h
      split at h2
      · next hq =>
        rw [fr_nth_eq] at hq
        exact fr_s_get X h1 hd hm (Nat.blt_eq.mp hb) (of_decide_eq_true hc) (Or.inl ⟨hq, rfl⟩) (hK _ _ _ _ _ _ h2)
      · next q hq =>
        rw [fr_nth_eq] at hq
        exact fr_s_get X h1 hd hm (Nat.blt_eq.mp hb) (of_decide_eq_true hc) (Or.inr ⟨q, hq, rfl⟩) (hK _ _ _ _ _ _ h2)
      · exact h2.elim
    · exact h.elim
  case putfield i =>
    simp only [Bool.and_eq_true] at hen
    obtain ⟨⟨⟨⟨⟨hl, hm⟩, hc⟩, hb⟩, hf⟩, hty⟩ := hen
    have hl := Nat.beq_eq.mp hl
    subst hl
    have hc := of_decide_eq_true hc
    subst hc
    have hfin : fr_final a b = true → rc.2.2.2.2.2.2.2.1 = 2 ∧ rc.1 = a := by
      intro hq
      rw [if_pos hq, Bool.and_eq_true] at hf
      exact ⟨Nat.beq_eq.mp hf.1, Nat.beq_eq.mp hf.2⟩
    have hbN := Nat.blt_eq.mp hb
    simp only [fr_sem] at h
    split at h
    · next x k r =>
      obtain ⟨fs, h1, h2⟩ := fr_obj_e h
      split at h2
      · next hq =>
        rw [fr_nth_eq] at hq
        have main : (narrow (fr_fty a b) (fr_rv G (.inl x)) = fr_rv G (.inl x) ∧ fits (fr_fty a b) (fr_rv G (.inl x)) = true) → K ls r sh (fr_up M k (b : Int) x) bc bs → fr_Wt p l e R s m args below meth c Z G rc.2.2.2.1 pc ls (.inl x :: .inr (.inl k) :: r) sh M bc bs := by
          intro hn hk
          refine fr_s_put X (fs2 := fs) (M2 := fr_up M k (b : Int) x) h1 hd hm hbN hfin hn.1 hn.2 rfl (fun j _ => fr_fv_up hq j) (fun j hj => fr_up_o hj) (fun i1 i2 => fr_up_in i1 i2) ?_
          rw [fr_set_self h1]
          exact hK _ _ _ _ _ _ hk
        split at hty
        · next ht =>
          have hdd := of_decide_eq_true hty
          subst hdd
          exact main (by rw [ht]; exact ⟨rfl, rfl⟩) h2
        · next ht =>
          have hdd := of_decide_eq_true hty
          subst hdd
          exact main (by rw [ht]; exact ⟨fr_nar1 h2.1, by have := fits_narrow_boolean (Int32.ofInt x); rw [fr_nar1 h2.1] at this; exact this⟩) h2.2
        · next ht =>
          have hdd := of_decide_eq_true hty
          subst hdd
          exact h2.elim
        · next ht =>
          have hdd := of_decide_eq_true hty
          subst hdd
          exact h2.elim
        · cases hty
      · exact h2.elim
    · next q k r =>
      obtain ⟨fs, h1, h2⟩ := fr_obj_e h
      split at h2
      · next z hq =>
        rw [fr_nth_eq] at hq
        have hlt : b < fs.length := (List.getElem?_eq_some_iff.mp hq).1
        have main : (narrow (fr_fty a b) (fr_rv G (.inr (.inl q))) = fr_rv G (.inr (.inl q)) ∧ fits (fr_fty a b) (fr_rv G (.inr (.inl q))) = true) → K ls r (fr_stn sh k (.inr (a, fr_stn fs b (some (some q))))) M bc bs → fr_Wt p l e R s m args below meth c Z G rc.2.2.2.1 pc ls (.inr (.inl q) :: .inr (.inl k) :: r) sh M bc bs := by
          intro hn hk
          rw [fr_stn_eq, fr_stn_eq] at hk
          exact fr_s_put X (fs2 := fs.set b (some (some q))) (M2 := M) h1 hd hm hbN hfin hn.1 hn.2 (by rw [List.length_set]) (fun j _ => fr_fv_set hlt j) (fun j hj => rfl) (fun i1 i2 => i1) (hK _ _ _ _ _ _ hk)
        split at hty
        · next ht =>
          have hdd := of_decide_eq_true hty
          subst hdd
          exact h2.elim
        · next ht =>
          have hdd := of_decide_eq_true hty
          subst hdd
          exact h2.elim
        · next ht =>
          have hdd := of_decide_eq_true hty
          subst hdd
          exact main (by rw [ht]; exact ⟨rfl, rfl⟩) h2
        · next ht =>
          have hdd := of_decide_eq_true hty
          subst hdd
          exact main (by rw [ht]; exact ⟨rfl, rfl⟩) h2
        · cases hty
      · exact h2.elim
    · exact h.elim
  case iaload =>
    have hl := Nat.beq_eq.mp hen
    subst hl
    simp only [fr_sem] at h
    split at h
    · next i k r =>
      obtain ⟨t, n, h1, h2⟩ := fr_arr_e h
      obtain ⟨h3, h4, h5⟩ := fr_cond_e h2
      exact fr_s_ald X h1 h4 (Or.inl ⟨Nat.beq_eq.mp h3, hd⟩) (hK _ _ _ _ _ _ h5)
    · next i u r =>
      split at h
      · next n f hs => exact fr_s_sld X rfl h.1 hd (hK _ _ _ _ _ _ h.2)
      · exact h.elim
    · exact h.elim
  case baload =>
    have hl := Nat.beq_eq.mp hen
    subst hl
    simp only [fr_sem] at h
    split at h
    · next i k r =>
      obtain ⟨t, n, h1, h2⟩ := fr_arr_e h
      obtain ⟨h3, h4, h5⟩ := fr_cond_e h2
      rw [Bool.or_eq_true] at h3
      exact fr_s_ald X h1 h4 (Or.inr ⟨h3.elim (fun z => Or.inl (Nat.beq_eq.mp z)) (fun z => Or.inr (Nat.beq_eq.mp z)), hd⟩) (hK _ _ _ _ _ _ h5)
    · exact h.elim
  case iastore =>
    have hl := Nat.beq_eq.mp hen
    subst hl
    simp only [fr_sem] at h
    split at h
    · next x i k r =>
      obtain ⟨t, n, h1, h2⟩ := fr_arr_e h
      obtain ⟨h3, h4, h5⟩ := fr_cond_e h2
      exact fr_s_ast X h1 h4 (Or.inl ⟨Nat.beq_eq.mp h3, hd⟩) (hK _ _ _ _ _ _ h5)
    · exact h.elim
  case bastore =>
    have hl := Nat.beq_eq.mp hen
    subst hl
    simp only [fr_sem] at h
    split at h
    · next x i k r =>
      obtain ⟨t, n, h1, h2⟩ := fr_arr_e h
      cases h3 : Nat.beq t 1 with
      | true =>
        rw [h3] at h2
        exact fr_s_ast X h1 h2.1.1 (Or.inr (Or.inl ⟨Nat.beq_eq.mp h3, h2.1.2, hd⟩)) (hK _ _ _ _ _ _ h2.2)
      | false =>
        rw [h3] at h2
        obtain ⟨h4, h5, h6⟩ := fr_cond_e h2
        exact fr_s_ast X h1 h5.1 (Or.inr (Or.inr ⟨Nat.beq_eq.mp h4, h5.2, hd⟩)) (hK _ _ _ _ _ _ h6)
    · exact h.elim
  case arraylength =>
    have hl := Nat.beq_eq.mp hen
    subst hl
    simp only [fr_sem] at h
    split at h
    · next k r =>
      obtain ⟨t, n, h1, h2⟩ := fr_arr_e h
      exact fr_s_alen X h1 hd (hK _ _ _ _ _ _ h2)
    · next u r =>
      split at h
      · next n f => exact fr_s_slen X rfl h.1 hd (hK _ _ _ _ _ _ h.2)
      · exact h.elim
    · exact h.elim
  case newarray t =>
    rw [Bool.and_eq_true] at hen
    obtain ⟨hl, ht⟩ := hen
    have hl := Nat.beq_eq.mp hl
    subst hl
    simp only [fr_sem] at h
    split at h
    · next n r =>
      obtain ⟨h1, h2⟩ := fr_cond_e h
      simp only [Bool.and_eq_true, decide_eq_true_eq] at h1
      obtain ⟨g1, g2, g3, g4⟩ := h1
      have hta : newarray.typeOf t = fr_aty a ∧ a ≤ 2 := by
        split at ht
        · have e := Nat.beq_eq.mp ht; subst e; exact ⟨rfl, by omega⟩
        · have e := Nat.beq_eq.mp ht; subst e; exact ⟨rfl, by omega⟩
        · have e := Nat.beq_eq.mp ht; subst e; exact ⟨rfl, by omega⟩
        · cases ht
      exact fr_s_newa X hta.1 hta.2 ⟨g3, g4⟩ (Nat.le_of_ble_eq_true g1) (Nat.le_of_ble_eq_true g2) hd (hK _ _ _ _ _ _ h2)
    · exact h.elim
  case new i =>
    simp only [Bool.and_eq_true] at hen
    obtain ⟨⟨⟨hl, hm⟩, hb⟩, ha⟩ := hen
    have hl := Nat.beq_eq.mp hl
    subst hl
    obtain ⟨h1, h2⟩ := fr_cond_e h
    rw [Bool.and_eq_true] at h1
    exact fr_s_new X hm (Nat.beq_eq.mp hb) (Nat.blt_eq.mp ha) (Nat.le_of_ble_eq_true h1.1) (Nat.le_of_ble_eq_true h1.2) hd (hK _ _ _ _ _ _ h2)
  case invokespecial i =>
    rw [Bool.and_eq_true] at hen
    obtain ⟨hl, hc⟩ := hen
    have hl := Nat.beq_eq.mp hl
    subst hl
    simp only [fr_sem] at h
    by_cases ha : a = 999
    · rw [if_pos ha] at hc
      subst ha
      simp only [Bool.and_eq_true] at hc
      obtain ⟨⟨hm, hf⟩, ho⟩ := hc
      simp only [show Nat.beq 999 999 = true from rfl, cond_true] at h
      split at h
      · next k r =>
        obtain ⟨h1, h2⟩ := fr_cond_e h
        obtain ⟨o, ho1, ho2⟩ := X.2.2.2.1
        intro ls' H locs cells slots S
        have hRf := X.2.2.2.2.2.2.1
        have q1 := Nat.le_of_ble_eq_true hf
        have q2 := Nat.le_of_ble_eq_true ho
        have q3 := Nat.le_of_ble_eq_true h1
        exact W.objInit X.1 X.2.1 ho2 (X.w (fr_link ho1 hm) rfl) (X.w fr_w_oi rfl) (X.w fr_w_oc rfl) rfl (S.1.2.1.trans X.2.2.1.symm) (a := G.1 + k) (rest := r.map (fr_rv G)) rfl hd (Nat.le_trans q1 hRf.1) (by rw [fr_wd_sum]; show 2 * 0 + _ + _ ≤ _; omega) (hK _ _ _ _ _ _ h2 ls' H locs cells slots (S.stk (fr_okt S.2.2.1)))
      · exact h.elim
    · rw [if_neg ha] at hc
      have hb : Nat.beq a 999 = false := by
        cases hq : Nat.beq a 999 with
        | false => rfl
        | true => exact absurd (Nat.beq_eq.mp hq) ha
      rw [hb] at h
      obtain ⟨h1, h2⟩ := fr_cond_e h
      have hk : ∃ k, fr_nth st (d.headD 0 - 1) = some (.inr (.inl k)) := by
        unfold fr_isr at h1
        split at h1
        · next k hq => exact ⟨k, hq⟩
        · cases h1
      exact fr_s_inv X hc (Or.inr (Or.inl ⟨rfl, hk, hd⟩)) h2 hK hC
  case invokevirtual i =>
    simp only [Bool.and_eq_true] at hen
    obtain ⟨⟨⟨hl, hc⟩, hb⟩, hr⟩ := hen
    have hl := Nat.beq_eq.mp hl
    subst hl
    obtain ⟨h1, h2⟩ := fr_cond_e h
    split at hr
    · next r hr' =>
      rw [fr_nth_eq] at hr'
      exact fr_s_inv X hc (Or.inr (Or.inr ⟨rfl, hd, b, r, Nat.blt_eq.mp hb, h1, hr', Nat.beq_eq.mp hr⟩)) h2 hK hC
    · cases hr
  case invokestatic i =>
    rw [Bool.and_eq_true] at hen
    obtain ⟨hl, hc⟩ := hen
    have hl := Nat.beq_eq.mp hl
    subst hl
    simp only [fr_sem] at h
    have hnb : ∀ k, a ≠ k → Nat.beq a k = false := by
      intro k hk
      cases hq : Nat.beq a k with
      | false => rfl
      | true => exact absurd (Nat.beq_eq.mp hq) hk
    obtain ⟨o, ho1, ho2⟩ := X.2.2.2.1
    have hRf := X.2.2.2.2.2.2.1
    by_cases ha : a = 998
    · rw [if_pos ha] at hc
      subst ha
      simp only [Bool.and_eq_true] at hc
      obtain ⟨⟨hm, hf⟩, ho⟩ := hc
      simp only [show Nat.beq 998 998 = true from rfl, cond_true] at h
      split at h
      · next n dp kd sp ks r =>
        obtain ⟨t0, n0, h1, h2⟩ := fr_arr_e h
        obtain ⟨t1, n1, h3, h4⟩ := fr_arr_e h2
        obtain ⟨h5, h6, h7⟩ := fr_cond_e h4
        simp only [Bool.and_eq_true] at h5
        have e0 := Nat.beq_eq.mp h5.1
        have e1 := Nat.beq_eq.mp h5.2.1
        subst e0; subst e1
        exact fr_s_copy X hm (Nat.le_of_ble_eq_true hf) (Nat.le_of_ble_eq_true ho) h1 h3 (Nat.le_of_ble_eq_true h5.2.2) h6 hd (hK _ _ _ _ _ _ h7)
      · exact h.elim
    · rw [if_neg ha] at hc
      rw [hnb 998 ha] at h
      by_cases ha5 : a = 995
      · subst ha5
        rw [if_pos (Or.inl rfl)] at hc
        simp only [Bool.and_eq_true] at hc
        obtain ⟨⟨hm, hf⟩, ho⟩ := hc
        have q1 := Nat.le_of_ble_eq_true hf
        have q2 := Nat.le_of_ble_eq_true ho
        obtain ⟨x, y, r, rfl, h1⟩ := fr_b2_e (show fr_b2 st (fun x y r => cond (Nat.ble (fr_wd r) 8) (K ls (.inl (min x y) :: r) sh M bc bs) False) from h)
        obtain ⟨h2, h3⟩ := fr_cond_e h1
        have q3 := Nat.le_of_ble_eq_true h2
        intro ls' H locs cells slots S
        have hy : fr_in y := fr_okh S.2.2.1
        have hx : fr_in x := fr_okh (fr_okt S.2.2.1)
        have hRc := S.2.2.2.2.2.2.1
        have hRs := S.2.2.2.2.2.2.2
        refine va_mmin X.1 X.2.1 (X.2.2.1.trans S.1.2.1.symm) ho2 (X.w (fr_link ho1 hm) rfl) (X.w fr_w_smin rfl) (X.w fr_w_mi rfl) (X.w fr_w_cmin rfl) (Nat.le_trans q1 hRf.1) (by rw [fr_wd_sum]; omega) (by omega) (by omega) hd ?_
        rw [fr_min hx hy]
        exact hK _ _ _ _ _ _ h3 ls' H locs cells slots (S.stk (fr_okc (fr_in_min hx hy) (fr_okt (fr_okt S.2.2.1))))
      · rw [hnb 995 ha5] at h
        by_cases ha6 : a = 996
        · subst ha6
          rw [if_pos (Or.inr (Or.inl rfl))] at hc
          simp only [Bool.and_eq_true] at hc
          obtain ⟨⟨hm, hf⟩, ho⟩ := hc
          have q1 := Nat.le_of_ble_eq_true hf
          have q2 := Nat.le_of_ble_eq_true ho
          obtain ⟨x, y, r, rfl, h1⟩ := fr_b2_e (show fr_b2 st (fun x y r => cond (Nat.ble (fr_wd r) 8) (K ls (.inl (max x y) :: r) sh M bc bs) False) from h)
          obtain ⟨h2, h3⟩ := fr_cond_e h1
          have q3 := Nat.le_of_ble_eq_true h2
          intro ls' H locs cells slots S
          have hy : fr_in y := fr_okh S.2.2.1
          have hx : fr_in x := fr_okh (fr_okt S.2.2.1)
          have hRc := S.2.2.2.2.2.2.1
          have hRs := S.2.2.2.2.2.2.2
          refine va_mmax X.1 X.2.1 (X.2.2.1.trans S.1.2.1.symm) ho2 (X.w (fr_link ho1 hm) rfl) (X.w fr_w_smax rfl) (X.w fr_w_mi rfl) (X.w fr_w_cmax rfl) (Nat.le_trans q1 hRf.1) (by rw [fr_wd_sum]; omega) (by omega) (by omega) hd ?_
          rw [fr_max hx hy]
          exact hK _ _ _ _ _ _ h3 ls' H locs cells slots (S.stk (fr_okc (fr_in_max hx hy) (fr_okt (fr_okt S.2.2.1))))
        · rw [hnb 996 ha6] at h
          by_cases ha7 : a = 997
          · subst ha7
            rw [if_pos (Or.inr (Or.inr rfl))] at hc
            simp only [Bool.and_eq_true] at hc
            obtain ⟨⟨hm, hf⟩, ho⟩ := hc
            have q1 := Nat.le_of_ble_eq_true hf
            have q2 := Nat.le_of_ble_eq_true ho
            obtain ⟨x, r, rfl, h1⟩ := fr_u1_e (show fr_u1 st (fun x r => cond (Nat.ble (fr_wd r) 8) ((0 ≤ x → K ls (.inl x :: r) sh M bc bs) ∧ (¬ 0 ≤ x → fr_in (-x) ∧ K ls (.inl (-x) :: r) sh M bc bs)) False) from h)
            obtain ⟨h2, h3, h4⟩ := fr_cond_e h1
            have q3 := Nat.le_of_ble_eq_true h2
            intro ls' H locs cells slots S
            have hx : fr_in x := fr_okh S.2.2.1
            have hRc := S.2.2.2.2.2.2.1
            have hRs := S.2.2.2.2.2.2.2
            refine va_mabs X.1 X.2.1 (X.2.2.1.trans S.1.2.1.symm) ho2 (X.w (fr_link ho1 hm) rfl) (X.w fr_w_sabs rfl) (X.w fr_w_mi rfl) (X.w fr_w_cabs rfl) (Nat.le_trans q1 hRf.1) (by rw [fr_wd_sum]; omega) (by omega) (by omega) hd ?_
            by_cases h0 : 0 ≤ x
            · rw [if_pos ((fr_0le hx).mpr h0)]
              exact hK _ _ _ _ _ _ (h3 h0) ls' H locs cells slots (S.stk (fr_okc hx (fr_okt S.2.2.1)))
            · rw [if_neg (fun q => h0 ((fr_0le hx).mp q)), show (0 : Int32) - Int32.ofInt x = Int32.ofInt (-x) by rw [Int32.ofInt_neg]; simp]
              exact hK _ _ _ _ _ _ (h4 h0).2 ls' H locs cells slots (S.stk (fr_okc (h4 h0).1 (fr_okt S.2.2.1)))
          · rw [hnb 997 ha7] at h
            rw [if_neg (by omega)] at hc
            exact fr_s_inv X hc (Or.inl ⟨rfl, hd⟩) h hK hC
  case ireturn =>
    rw [Bool.and_eq_true] at hen
    obtain ⟨hl, hc⟩ := hen
    have hl := Nat.beq_eq.mp hl
    subst hl
    simp only [fr_sem] at h
    split at h
    · next x =>
      split at hc
      · next hr =>
        have e := Nat.beq_eq.mp hc
        subst e
        exact hR (some (.inl x)) h ⟨hd, Or.inl hr⟩
      · next hr =>
        have e := Nat.beq_eq.mp hc
        subst e
        exact hR (some (.inl x)) h.2 ⟨hd, Or.inr ⟨hr, h.1⟩⟩
      · cases hc
    · exact h.elim
  case areturn =>
    rw [Bool.and_eq_true] at hen
    obtain ⟨hl, hc⟩ := hen
    have hl := Nat.beq_eq.mp hl
    subst hl
    simp only [fr_sem] at h
    split at h
    · next k =>
      split at hc
      · next n hr => exact hR (some (.inr (.inl k))) h ⟨hd, n, hr⟩
      · cases hc
    · exact h.elim
  case return_ =>
    rw [Bool.and_eq_true] at hen
    obtain ⟨hl, hc⟩ := hen
    have hl := Nat.beq_eq.mp hl
    subst hl
    simp only [fr_sem] at h
    split at h
    · split at hc
      · next hr => exact hR none h ⟨hd, hr⟩
      · cases hc
    · exact h.elim
end FrSound
end
section
/-! ===== many instructions at once: up to a cut, a call, an answer ===== -/
def fr_fd : List Nat → Nat → Option Nat
  | [], _ => none
  | a :: l, n => cond (Nat.beq a n) (some a) (fr_fd l n)
def fr_ne (cs : List fr_E) : Bool := match cs with
  | [] => false
  | _ => true
def fr_adv (mi : Nat) (scr : Option (Nat × (Int → Int))) (cuts : List Nat) (cd : List fr_E) (Q : Option fr_V → fr_H → fr_M → Prop) : Nat → Nat → List fr_E → fr_L → List fr_V → fr_H → fr_M → Nat → Nat → Prop
  | 0, ix, _, ls, st, sh, M, bc, bs => fr_Run mi scr ix ls st sh M bc bs Q
  | _ + 1, _, [], _, _, _, _, _, _ => False
  | n + 1, ix, en :: cs, ls, st, sh, M, bc, bs => fr_sem fr_kd scr en ls st sh M bc bs
      (fun ls st sh M bc bs => cond (fr_ne cs) (match fr_fd cuts (ix + 1) with
        | some t => fr_Run mi scr t ls st sh M bc bs Q
        | none => fr_adv mi scr cuts cd Q n (ix + 1) cs ls st sh M bc bs) False)
      (fun t st => match fr_fd cuts t with
        | some t => fr_Run mi scr t ls st sh M bc bs Q
        | none => fr_adv mi scr cuts cd Q n t (cd.drop t) ls st sh M bc bs)
      (fun mj as q => fr_Call mj as sh M q)
      (fun r => Q r sh M)
theorem fr_fd_e : ∀ {l : List Nat} {n t : Nat}, fr_fd l n = some t → t = n
  | [], n, t, h => by cases h
  | a :: l, n, t, h => by
    unfold fr_fd at h
    cases hq : Nat.beq a n with
    | true =>
      rw [hq] at h
      cases h
      exact Nat.beq_eq.mp hq
    | false =>
      rw [hq] at h
      exact fr_fd_e h
theorem fr_seq_e : ∀ {l : List fr_E} {i : Nat} {e1 e2 : fr_E}, fr_seq l = true → l[i]? = some e1 → l[i + 1]? = some e2 → e1.1 + e1.2.2.1 = e2.1
  | [], i, e1, e2, h, h1, h2 => by simp at h1
  | [a], i, e1, e2, h, h1, h2 => by simp at h2
  | a :: b :: l, 0, e1, e2, h, h1, h2 => by
    unfold fr_seq at h
    rw [Bool.and_eq_true] at h
    cases h1; cases h2
    exact Nat.beq_eq.mp h.1
  | a :: b :: l, i + 1, e1, e2, h, h1, h2 => by
    unfold fr_seq at h
    rw [Bool.and_eq_true] at h
    exact fr_seq_e (l := b :: l) (i := i) h.2 h1 h2
theorem fr_adv_ok {mi : Nat} {scr : Option (Nat × (Int → Int))} {cuts : List Nat} {cd : List fr_E} {Q : Option fr_V → fr_H → fr_M → Prop} (hcd : ∀ rc, fr_tab[mi]? = some rc → rc.2.2.2.2.2.1 = cd) : ∀ (n ix : Nat) (cs : List fr_E) (ls : fr_L) (st : List fr_V) (sh : fr_H) (M : fr_M) (bc bs : Nat), cs = cd.drop ix → fr_adv mi scr cuts cd Q n ix cs ls st sh M bc bs → fr_Run mi scr ix ls st sh M bc bs Q
  | 0, ix, cs, ls, st, sh, M, bc, bs, hcs, h => h
  | n + 1, ix, [], ls, st, sh, M, bc, bs, hcs, h => h.elim
  | n + 1, ix, en :: cs, ls, st, sh, M, bc, bs, hcs, h => by
    intro rc p l e R s m args below meth c Z G hrc X hRt
    have hcode := hcd rc hrc
    have hix : cd[ix]? = some en := by
      have : (cd.drop ix)[0]? = some en := by rw [← hcs]; rfl
      rw [List.getElem?_drop] at this
      simpa using this
    have hcs2 : cs = cd.drop (ix + 1) := by
      rw [← List.drop_drop, ← hcs]
      rfl
    have hok := fr_rcc_of hrc
    unfold fr_rcc at hok
    rw [Bool.and_eq_true, hcode] at hok
    have hen := List.all_eq_true.mp hok.2 en (List.mem_of_getElem? hix)
    have htg : fr_tg rc.2.2.2.2.2.1 ix = en.1 := by
      unfold fr_tg
      rw [hcode, fr_nth_eq, hix]
    rw [htg]
    refine fr_step X hen h ?_ ?_ ?_ ?_
    · intro ls st sh M bc bs hk
      obtain ⟨h1, h2⟩ := fr_cond_e hk
      have hnext : en.1 + en.2.2.1 = fr_tg rc.2.2.2.2.2.1 (ix + 1) := by
        unfold fr_tg
        rw [hcode, fr_nth_eq]
        cases cs with
        | nil => cases h1
        | cons e2 l =>
          have hix2 : cd[ix + 1]? = some e2 := by
            have : (cd.drop (ix + 1))[0]? = some e2 := by rw [← hcs2]; rfl
            rw [List.getElem?_drop] at this
            simpa using this
          rw [hix2]
          exact fr_seq_e hok.1 hix hix2
      rw [hnext]
      split at h2
      · next t ht =>
        have := fr_fd_e ht
        subst this
        exact h2 rc p l e R s m args below meth c Z G hrc X hRt
      · exact fr_adv_ok hcd n (ix + 1) cs ls st sh M bc bs hcs2 h2 rc p l e R s m args below meth c Z G hrc X hRt
    · intro t st hj
      split at hj
      · next t' ht =>
        have := fr_fd_e ht
        subst this
        exact hj rc p l e R s m args below meth c Z G hrc X hRt
      · exact fr_adv_ok hcd n t (cd.drop t) ls st sh M bc bs rfl hj rc p l e R s m args below meth c Z G hrc X hRt
    · intro mj as q hq
      exact hq
    · intro r hr hrd
      exact hRt en.1 ls r sh M bc bs hr hrd
def fr_code (mi : Nat) : List fr_E := match fr_nth fr_tab mi with
  | some r => r.2.2.2.2.2.1
  | none => []
theorem fr_go {mi : Nat} {scr : Option (Nat × (Int → Int))} {Q : Option fr_V → fr_H → fr_M → Prop} {ix : Nat} {ls : fr_L} {st : List fr_V} {sh : fr_H} {M : fr_M} {bc bs : Nat} (cd : List fr_E) (cuts : List Nat) (n : Nat) (h1 : fr_code mi = cd) (h : fr_adv mi scr cuts cd Q n ix (cd.drop ix) ls st sh M bc bs) : fr_Run mi scr ix ls st sh M bc bs Q :=
  fr_adv_ok (fun rc hrc => by rw [← h1]; unfold fr_code; rw [fr_nth_eq, hrc]) n ix _ ls st sh M bc bs rfl h
theorem fr_cgo {mj : Nat} {as : List fr_V} {sh : fr_H} {M : fr_M} {Q : Option fr_V → fr_H → fr_M → Prop} (cd : List fr_E) (ls : fr_L) (bc bs : Nat) (cuts : List Nat) (n : Nat) (h1 : fr_code mj = cd) (h2 : fr_ini (fr_mx mj) as = ls) (h3 : fr_mcc mj = bc) (h4 : fr_mss mj = bs) (h : fr_adv mj none cuts cd Q n 0 cd ls [] sh M bc bs) : fr_Call mj as sh M Q := by
  subst h2; subst h3; subst h4
  exact fr_go cd cuts n h1 h
end
section
def sh0 : fr_H := [
  .inr (11, [some (some 1), some (some 13), some (some 18), some (some 20), some (some 22), some (some 24), some (some 29), some (some 39), some (some 42), some (some 44), some (some 45), some (some 52), some (some 59), some (some 66), some (some 73), some (some 74), none, none]),
  .inr (7, [none, none, some (some 2), some (some 3), some (some 4), some (some 5), some (some 6), some (some 7), some (some 8), some (some 9), some (some 10), some (some 11), some (some 12)]),
  .inl (0, 6),
  .inl (0, 54),
  .inl (0, 40),
  .inl (0, 40),
  .inl (0, 40),
  .inl (0, 40),
  .inl (0, 40),
  .inl (0, 40),
  .inl (1, 40),
  .inl (0, 160),
  .inl (0, 160),
  .inr (5, [some (some 1), some (some 14), some (some 15), some (some 16), some (some 17), none]),
  .inl (0, 54),
  .inl (0, 40),
  .inl (0, 108),
  .inl (0, 12),
  .inr (2, [some (some 1), some (some 19), none]),
  .inl (0, 90),
  .inr (0, [some (some 18), some (some 21)]),
  .inl (0, 2304),
  .inr (4, [some (some 18), some (some 23)]),
  .inl (0, 9),
  .inr (1, [some (some 1), some (some 25), some (some 26), some (some 27), some (some 28), none, none, none]),
  .inl (0, 9),
  .inl (0, 9),
  .inl (1, 18),
  .inl (1, 9),
  .inr (3, [some (some 1), some (some 13), some (some 30), some (some 31), some (some 32), some (some 33), some (some 34), some (some 35), some (some 36), some (some 37), some (some 38), none, none, none, none, none, none, none, none]),
  .inl (0, 40),
  .inl (0, 40),
  .inl (0, 40),
  .inl (0, 40),
  .inl (0, 80),
  .inl (0, 80),
  .inl (1, 80),
  .inl (1, 40),
  .inl (0, 40),
  .inr (6, [some (some 1), some (some 29), some (some 40), some (some 41), none, none]),
  .inl (2, 9760),
  .inl (0, 40),
  .inr (9, [some (some 43), none]),
  .inl (2, 200),
  .inr (8, [some (some 1), some (some 29), some (some 39), some (some 42), none, none]),
  .inr (10, [none, none, none, none, none, none, none, none, none, none, some (some 46), some (some 47), some (some 48), some (some 49), some (some 50), some (some 51)]),
  .inl (0, 200),
  .inl (0, 200),
  .inl (0, 160),
  .inl (0, 8),
  .inl (0, 8),
  .inl (0, 8),
  .inr (10, [none, none, none, none, none, none, none, none, none, none, some (some 53), some (some 54), some (some 55), some (some 56), some (some 57), some (some 58)]),
  .inl (0, 200),
  .inl (0, 200),
  .inl (0, 160),
  .inl (0, 8),
  .inl (0, 8),
  .inl (0, 8),
  .inr (10, [none, none, none, none, none, none, none, none, none, none, some (some 60), some (some 61), some (some 62), some (some 63), some (some 64), some (some 65)]),
  .inl (0, 200),
  .inl (0, 200),
  .inl (0, 160),
  .inl (0, 8),
  .inl (0, 8),
  .inl (0, 8),
  .inr (10, [none, none, none, none, none, none, none, none, none, none, some (some 67), some (some 68), some (some 69), some (some 70), some (some 71), some (some 72)]),
  .inl (0, 200),
  .inl (0, 200),
  .inl (0, 160),
  .inl (0, 8),
  .inl (0, 8),
  .inl (0, 8),
  .inl (0, 4),
  .inl (0, 9),
  .inr (12, [none, some (some 76), some (some 77), some (some 78), none, some (some 79), some (some 80), some (some 81), some (some 82), some (some 83), some (some 84), some (some 85), some (some 86), none, none, none, some (some 87), none, none, some (some 88), some (some 89), some (some 90), some (some 91), some (some 92), some (some 93), some (some 94), some (some 95), some (some 96), none, some (some 97), some (some 98), some (some 99), some (some 100), some (some 101), some (some 102), some (some 103), some (some 104), none, none, none, some (some 105), none, some (some 106), some (some 107), some (some 108), some (some 109), some (some 110), some (some 111), some (some 112), some (some 113), none, some (some 114), none, some (some 115), some (some 116), some (some 117), some (some 118)]),
  .inl (0, 6),
  .inl (0, 54),
  .inl (0, 54),
  .inl (0, 40),
  .inl (0, 40),
  .inl (1, 40),
  .inl (0, 40),
  .inl (0, 40),
  .inl (0, 160),
  .inl (0, 160),
  .inl (0, 40),
  .inl (0, 200),
  .inl (0, 12),
  .inl (0, 108),
  .inl (0, 4),
  .inl (0, 4608),
  .inl (0, 40),
  .inl (0, 40),
  .inl (1, 160),
  .inl (1, 40),
  .inl (0, 40),
  .inl (0, 40),
  .inl (0, 40),
  .inl (0, 40),
  .inl (0, 40),
  .inl (0, 80),
  .inl (1, 80),
  .inl (0, 80),
  .inl (0, 80),
  .inl (1, 80),
  .inl (1, 2),
  .inl (0, 18),
  .inl (0, 400),
  .inl (0, 160),
  .inl (0, 200),
  .inl (0, 9),
  .inl (0, 200),
  .inl (0, 8),
  .inl (0, 8),
  .inl (0, 160),
  .inl (0, 200),
  .inl (0, 200),
  .inl (0, 4)]

theorem fr_Run.mono {mi : Nat} {scr : Option (Nat × (Int → Int))} {ix : Nat} {ls : fr_L} {st : List fr_V} {sh : fr_H} {M : fr_M} {bc bs : Nat} {Q Q' : Option fr_V → fr_H → fr_M → Prop} (h : fr_Run mi scr ix ls st sh M bc bs Q) (hq : ∀ r sh M, Q r sh M → Q' r sh M) : fr_Run mi scr ix ls st sh M bc bs Q' := fun rc p l e R s m args below meth c Z G hrc X hRt => h rc p l e R s m args below meth c Z G hrc X (fun pc ls r sh M bc bs hQ hrd => hRt pc ls r sh M bc bs (hq r sh M hQ) hrd)
theorem fr_Call.mono {mj : Nat} {as : List fr_V} {sh : fr_H} {M : fr_M} {Q Q' : Option fr_V → fr_H → fr_M → Prop} (h : fr_Call mj as sh M Q) (hq : ∀ r sh M, Q r sh M → Q' r sh M) : fr_Call mj as sh M Q' := fr_Run.mono h hq
theorem q_of {Q : Option fr_V → fr_H → fr_M → Prop} {r : Option fr_V} {sh sh' : fr_H} {M M' : fr_M} (h : Q r sh M) (e1 : sh = sh') (e2 : M = M') : Q r sh' M' := e1 ▸ e2 ▸ h
/-- a call of the class and then of the reference: one answer, and what holds behind both -/
def Two (mx mm : Nat) (as : List fr_V) (M : fr_M) (N : fr_M → Prop) : Prop := fr_Call mx (.inr (.inl 0) :: as) sh0 M (fun r sh M1 => sh = sh0 ∧ ∃ v, r = some (.inl v) ∧ fr_Call mm (.inr (.inl 75) :: as) sh0 M1 (fun r2 sh2 M2 => sh2 = sh0 ∧ r2 = some (.inl v) ∧ N M2))
end
section
abbrev Z0 : fr_M := fun _ _ => 0
def Z1 : fr_M := fr_up Z0 29 11 1
def Z2 : fr_M := fr_up Z1 0 16 4
def Z3 : fr_M := fr_up Z2 75 14 1
def Z4 : fr_M := fr_up Z3 75 15 4
theorem zr_id {M : fr_M} {k : Nat} (h : ∀ i, M k i = 0) : fr_zr M k = M := by
  funext a b
  unfold fr_zr
  split
  · next e => subst e; exact (h b).symm
  · rfl
theorem up_id {M : fr_M} {k : Nat} {i v : Int} (h : M k i = v) : fr_up M k i v = M := by
  funext a b
  unfold fr_up
  split
  · next e =>
    split
    · next e2 => subst e; subst e2; exact h.symm
    · rfl
  · rfl
theorem e_up {Z M : fr_M} {k : Nat} {i v : Int} (h1 : Z = M) (h2 : Z k i = v) : Z = fr_up M k i v := by
  subst h1
  exact (up_id h2).symm
theorem e_zr {Z M : fr_M} {k : Nat} (h1 : Z = M) (h2 : ∀ j, Z k j = 0) : Z = fr_zr M k := by
  subst h1
  exact (zr_id h2).symm
theorem e_un {A M : fr_M} {k : Nat} {i v : Int} (h : A = M) : fr_up A k i v = fr_up M k i v := by rw [h]
theorem c_of {mj : Nat} {as as' : List fr_V} {sh sh' : fr_H} {M M' : fr_M} {Q : Option fr_V → fr_H → fr_M → Prop} (h : fr_Call mj as sh M Q) (e0 : as = as') (e1 : sh = sh') (e2 : M = M') : fr_Call mj as' sh' M' Q := by
  subst e0; subst e1; subst e2
  exact h
theorem r_of {mi : Nat} {ix : Nat} {ls ls' : fr_L} {st st' : List fr_V} {sh sh' : fr_H} {M M' : fr_M} {bc bc' bs bs' : Nat} {Q : Option fr_V → fr_H → fr_M → Prop} (h : fr_Run mi none ix ls st sh M bc bs Q) (e1 : ls = ls') (e2 : st = st') (e3 : sh = sh') (e4 : M = M') (e5 : bc = bc') (e6 : bs = bs') : fr_Run mi none ix ls' st' sh' M' bc' bs' Q := by
  subst e1; subst e2; subst e3; subst e4; subst e5; subst e6
  exact h
def s0_ : fr_H := [.inr (11, [some none, some none, some none, some none, some none, some none, some none, some none, some none, some none, some none, some none, some none, some none, some none, some none, none, none])]
def s1_ : fr_H := [.inr (11, [some none, some none, some none, some none, some none, some none, some none, some none, some none, some none, some none, some none, some none, some none, some none, some none, none, none]), .inr (7, [none, none, some none, some none, some none, some none, some none, some none, some none, some none, some none, some none, some none])]
def s2_ : fr_H := [.inr (11, [some none, some none, some none, some none, some none, some none, some none, some none, some none, some none, some none, some none, some none, some none, some none, some none, none, none]), .inr (7, [none, none, some (some 2), some (some 3), some (some 4), some (some 5), some none, some none, some none, some none, some none, some none, some none]), .inl (0, 6), .inl (0, 54), .inl (0, 40), .inl (0, 40)]
def s3_ : fr_H := [.inr (11, [some none, some none, some none, some none, some none, some none, some none, some none, some none, some none, some none, some none, some none, some none, some none, some none, none, none]), .inr (7, [none, none, some (some 2), some (some 3), some (some 4), some (some 5), some (some 6), some (some 7), some (some 8), some (some 9), some none, some none, some none]), .inl (0, 6), .inl (0, 54), .inl (0, 40), .inl (0, 40), .inl (0, 40), .inl (0, 40), .inl (0, 40), .inl (0, 40)]
def s4_ : fr_H := [.inr (11, [some none, some none, some none, some none, some none, some none, some none, some none, some none, some none, some none, some none, some none, some none, some none, some none, none, none]), .inr (7, [none, none, some (some 2), some (some 3), some (some 4), some (some 5), some (some 6), some (some 7), some (some 8), some (some 9), some (some 10), some (some 11), some (some 12)]), .inl (0, 6), .inl (0, 54), .inl (0, 40), .inl (0, 40), .inl (0, 40), .inl (0, 40), .inl (0, 40), .inl (0, 40), .inl (1, 40), .inl (0, 160), .inl (0, 160)]
def s5_ : fr_H := [.inr (11, [some none, some none, some none, some none, some none, some none, some none, some none, some none, some none, some none, some none, some none, some none, some none, some none, none, none]), .inr (7, [none, none, some (some 2), some (some 3), some (some 4), some (some 5), some (some 6), some (some 7), some (some 8), some (some 9), some (some 10), some (some 11), some (some 12)]), .inl (0, 6), .inl (0, 54), .inl (0, 40), .inl (0, 40), .inl (0, 40), .inl (0, 40), .inl (0, 40), .inl (0, 40), .inl (1, 40), .inl (0, 160), .inl (0, 160)]
def s6_ : fr_H := [.inr (11, [some (some 1), some none, some none, some none, some none, some none, some none, some none, some none, some none, some none, some none, some none, some none, some none, some none, none, none]), .inr (7, [none, none, some (some 2), some (some 3), some (some 4), some (some 5), some (some 6), some (some 7), some (some 8), some (some 9), some (some 10), some (some 11), some (some 12)]), .inl (0, 6), .inl (0, 54), .inl (0, 40), .inl (0, 40), .inl (0, 40), .inl (0, 40), .inl (0, 40), .inl (0, 40), .inl (1, 40), .inl (0, 160), .inl (0, 160), .inr (5, [some none, some none, some none, some none, some none, none])]
def s7_ : fr_H := [.inr (11, [some (some 1), some none, some none, some none, some none, some none, some none, some none, some none, some none, some none, some none, some none, some none, some none, some none, none, none]), .inr (7, [none, none, some (some 2), some (some 3), some (some 4), some (some 5), some (some 6), some (some 7), some (some 8), some (some 9), some (some 10), some (some 11), some (some 12)]), .inl (0, 6), .inl (0, 54), .inl (0, 40), .inl (0, 40), .inl (0, 40), .inl (0, 40), .inl (0, 40), .inl (0, 40), .inl (1, 40), .inl (0, 160), .inl (0, 160), .inr (5, [some none, some (some 14), some (some 15), some (some 16), some (some 17), none]), .inl (0, 54), .inl (0, 40), .inl (0, 108), .inl (0, 12)]
def s8_ : fr_H := [.inr (11, [some (some 1), some none, some none, some none, some none, some none, some none, some none, some none, some none, some none, some none, some none, some none, some none, some none, none, none]), .inr (7, [none, none, some (some 2), some (some 3), some (some 4), some (some 5), some (some 6), some (some 7), some (some 8), some (some 9), some (some 10), some (some 11), some (some 12)]), .inl (0, 6), .inl (0, 54), .inl (0, 40), .inl (0, 40), .inl (0, 40), .inl (0, 40), .inl (0, 40), .inl (0, 40), .inl (1, 40), .inl (0, 160), .inl (0, 160), .inr (5, [some (some 1), some (some 14), some (some 15), some (some 16), some (some 17), none]), .inl (0, 54), .inl (0, 40), .inl (0, 108), .inl (0, 12)]
def s9_ : fr_H := [.inr (11, [some (some 1), some none, some none, some none, some none, some none, some none, some none, some none, some none, some none, some none, some none, some none, some none, some none, none, none]), .inr (7, [none, none, some (some 2), some (some 3), some (some 4), some (some 5), some (some 6), some (some 7), some (some 8), some (some 9), some (some 10), some (some 11), some (some 12)]), .inl (0, 6), .inl (0, 54), .inl (0, 40), .inl (0, 40), .inl (0, 40), .inl (0, 40), .inl (0, 40), .inl (0, 40), .inl (1, 40), .inl (0, 160), .inl (0, 160), .inr (5, [some (some 1), some (some 14), some (some 15), some (some 16), some (some 17), none]), .inl (0, 54), .inl (0, 40), .inl (0, 108), .inl (0, 12)]
def s10_ : fr_H := [.inr (11, [some (some 1), some (some 13), some none, some none, some none, some none, some none, some none, some none, some none, some none, some none, some none, some none, some none, some none, none, none]), .inr (7, [none, none, some (some 2), some (some 3), some (some 4), some (some 5), some (some 6), some (some 7), some (some 8), some (some 9), some (some 10), some (some 11), some (some 12)]), .inl (0, 6), .inl (0, 54), .inl (0, 40), .inl (0, 40), .inl (0, 40), .inl (0, 40), .inl (0, 40), .inl (0, 40), .inl (1, 40), .inl (0, 160), .inl (0, 160), .inr (5, [some (some 1), some (some 14), some (some 15), some (some 16), some (some 17), none]), .inl (0, 54), .inl (0, 40), .inl (0, 108), .inl (0, 12), .inr (2, [some none, some none, none])]
def s11_ : fr_H := [.inr (11, [some (some 1), some (some 13), some none, some none, some none, some none, some none, some none, some none, some none, some none, some none, some none, some none, some none, some none, none, none]), .inr (7, [none, none, some (some 2), some (some 3), some (some 4), some (some 5), some (some 6), some (some 7), some (some 8), some (some 9), some (some 10), some (some 11), some (some 12)]), .inl (0, 6), .inl (0, 54), .inl (0, 40), .inl (0, 40), .inl (0, 40), .inl (0, 40), .inl (0, 40), .inl (0, 40), .inl (1, 40), .inl (0, 160), .inl (0, 160), .inr (5, [some (some 1), some (some 14), some (some 15), some (some 16), some (some 17), none]), .inl (0, 54), .inl (0, 40), .inl (0, 108), .inl (0, 12), .inr (2, [some (some 1), some (some 19), none]), .inl (0, 90)]
def s12_ : fr_H := [.inr (11, [some (some 1), some (some 13), some none, some none, some none, some none, some none, some none, some none, some none, some none, some none, some none, some none, some none, some none, none, none]), .inr (7, [none, none, some (some 2), some (some 3), some (some 4), some (some 5), some (some 6), some (some 7), some (some 8), some (some 9), some (some 10), some (some 11), some (some 12)]), .inl (0, 6), .inl (0, 54), .inl (0, 40), .inl (0, 40), .inl (0, 40), .inl (0, 40), .inl (0, 40), .inl (0, 40), .inl (1, 40), .inl (0, 160), .inl (0, 160), .inr (5, [some (some 1), some (some 14), some (some 15), some (some 16), some (some 17), none]), .inl (0, 54), .inl (0, 40), .inl (0, 108), .inl (0, 12), .inr (2, [some (some 1), some (some 19), none]), .inl (0, 90)]
def s13_ : fr_H := [.inr (11, [some (some 1), some (some 13), some (some 18), some none, some none, some none, some none, some none, some none, some none, some none, some none, some none, some none, some none, some none, none, none]), .inr (7, [none, none, some (some 2), some (some 3), some (some 4), some (some 5), some (some 6), some (some 7), some (some 8), some (some 9), some (some 10), some (some 11), some (some 12)]), .inl (0, 6), .inl (0, 54), .inl (0, 40), .inl (0, 40), .inl (0, 40), .inl (0, 40), .inl (0, 40), .inl (0, 40), .inl (1, 40), .inl (0, 160), .inl (0, 160), .inr (5, [some (some 1), some (some 14), some (some 15), some (some 16), some (some 17), none]), .inl (0, 54), .inl (0, 40), .inl (0, 108), .inl (0, 12), .inr (2, [some (some 1), some (some 19), none]), .inl (0, 90), .inr (0, [some none, some none])]
def s14_ : fr_H := [.inr (11, [some (some 1), some (some 13), some (some 18), some none, some none, some none, some none, some none, some none, some none, some none, some none, some none, some none, some none, some none, none, none]), .inr (7, [none, none, some (some 2), some (some 3), some (some 4), some (some 5), some (some 6), some (some 7), some (some 8), some (some 9), some (some 10), some (some 11), some (some 12)]), .inl (0, 6), .inl (0, 54), .inl (0, 40), .inl (0, 40), .inl (0, 40), .inl (0, 40), .inl (0, 40), .inl (0, 40), .inl (1, 40), .inl (0, 160), .inl (0, 160), .inr (5, [some (some 1), some (some 14), some (some 15), some (some 16), some (some 17), none]), .inl (0, 54), .inl (0, 40), .inl (0, 108), .inl (0, 12), .inr (2, [some (some 1), some (some 19), none]), .inl (0, 90), .inr (0, [some (some 18), some (some 21)]), .inl (0, 2304)]
def s15_ : fr_H := [.inr (11, [some (some 1), some (some 13), some (some 18), some none, some none, some none, some none, some none, some none, some none, some none, some none, some none, some none, some none, some none, none, none]), .inr (7, [none, none, some (some 2), some (some 3), some (some 4), some (some 5), some (some 6), some (some 7), some (some 8), some (some 9), some (some 10), some (some 11), some (some 12)]), .inl (0, 6), .inl (0, 54), .inl (0, 40), .inl (0, 40), .inl (0, 40), .inl (0, 40), .inl (0, 40), .inl (0, 40), .inl (1, 40), .inl (0, 160), .inl (0, 160), .inr (5, [some (some 1), some (some 14), some (some 15), some (some 16), some (some 17), none]), .inl (0, 54), .inl (0, 40), .inl (0, 108), .inl (0, 12), .inr (2, [some (some 1), some (some 19), none]), .inl (0, 90), .inr (0, [some (some 18), some (some 21)]), .inl (0, 2304)]
def s16_ : fr_H := [.inr (11, [some (some 1), some (some 13), some (some 18), some (some 20), some none, some none, some none, some none, some none, some none, some none, some none, some none, some none, some none, some none, none, none]), .inr (7, [none, none, some (some 2), some (some 3), some (some 4), some (some 5), some (some 6), some (some 7), some (some 8), some (some 9), some (some 10), some (some 11), some (some 12)]), .inl (0, 6), .inl (0, 54), .inl (0, 40), .inl (0, 40), .inl (0, 40), .inl (0, 40), .inl (0, 40), .inl (0, 40), .inl (1, 40), .inl (0, 160), .inl (0, 160), .inr (5, [some (some 1), some (some 14), some (some 15), some (some 16), some (some 17), none]), .inl (0, 54), .inl (0, 40), .inl (0, 108), .inl (0, 12), .inr (2, [some (some 1), some (some 19), none]), .inl (0, 90), .inr (0, [some (some 18), some (some 21)]), .inl (0, 2304), .inr (4, [some none, some none])]
def s17_ : fr_H := [.inr (11, [some (some 1), some (some 13), some (some 18), some (some 20), some none, some none, some none, some none, some none, some none, some none, some none, some none, some none, some none, some none, none, none]), .inr (7, [none, none, some (some 2), some (some 3), some (some 4), some (some 5), some (some 6), some (some 7), some (some 8), some (some 9), some (some 10), some (some 11), some (some 12)]), .inl (0, 6), .inl (0, 54), .inl (0, 40), .inl (0, 40), .inl (0, 40), .inl (0, 40), .inl (0, 40), .inl (0, 40), .inl (1, 40), .inl (0, 160), .inl (0, 160), .inr (5, [some (some 1), some (some 14), some (some 15), some (some 16), some (some 17), none]), .inl (0, 54), .inl (0, 40), .inl (0, 108), .inl (0, 12), .inr (2, [some (some 1), some (some 19), none]), .inl (0, 90), .inr (0, [some (some 18), some (some 21)]), .inl (0, 2304), .inr (4, [some (some 18), some (some 23)]), .inl (0, 9)]
def s18_ : fr_H := [.inr (11, [some (some 1), some (some 13), some (some 18), some (some 20), some none, some none, some none, some none, some none, some none, some none, some none, some none, some none, some none, some none, none, none]), .inr (7, [none, none, some (some 2), some (some 3), some (some 4), some (some 5), some (some 6), some (some 7), some (some 8), some (some 9), some (some 10), some (some 11), some (some 12)]), .inl (0, 6), .inl (0, 54), .inl (0, 40), .inl (0, 40), .inl (0, 40), .inl (0, 40), .inl (0, 40), .inl (0, 40), .inl (1, 40), .inl (0, 160), .inl (0, 160), .inr (5, [some (some 1), some (some 14), some (some 15), some (some 16), some (some 17), none]), .inl (0, 54), .inl (0, 40), .inl (0, 108), .inl (0, 12), .inr (2, [some (some 1), some (some 19), none]), .inl (0, 90), .inr (0, [some (some 18), some (some 21)]), .inl (0, 2304), .inr (4, [some (some 18), some (some 23)]), .inl (0, 9)]
def s19_ : fr_H := [.inr (11, [some (some 1), some (some 13), some (some 18), some (some 20), some (some 22), some none, some none, some none, some none, some none, some none, some none, some none, some none, some none, some none, none, none]), .inr (7, [none, none, some (some 2), some (some 3), some (some 4), some (some 5), some (some 6), some (some 7), some (some 8), some (some 9), some (some 10), some (some 11), some (some 12)]), .inl (0, 6), .inl (0, 54), .inl (0, 40), .inl (0, 40), .inl (0, 40), .inl (0, 40), .inl (0, 40), .inl (0, 40), .inl (1, 40), .inl (0, 160), .inl (0, 160), .inr (5, [some (some 1), some (some 14), some (some 15), some (some 16), some (some 17), none]), .inl (0, 54), .inl (0, 40), .inl (0, 108), .inl (0, 12), .inr (2, [some (some 1), some (some 19), none]), .inl (0, 90), .inr (0, [some (some 18), some (some 21)]), .inl (0, 2304), .inr (4, [some (some 18), some (some 23)]), .inl (0, 9), .inr (1, [some none, some none, some none, some none, some none, none, none, none])]
def s20_ : fr_H := [.inr (11, [some (some 1), some (some 13), some (some 18), some (some 20), some (some 22), some none, some none, some none, some none, some none, some none, some none, some none, some none, some none, some none, none, none]), .inr (7, [none, none, some (some 2), some (some 3), some (some 4), some (some 5), some (some 6), some (some 7), some (some 8), some (some 9), some (some 10), some (some 11), some (some 12)]), .inl (0, 6), .inl (0, 54), .inl (0, 40), .inl (0, 40), .inl (0, 40), .inl (0, 40), .inl (0, 40), .inl (0, 40), .inl (1, 40), .inl (0, 160), .inl (0, 160), .inr (5, [some (some 1), some (some 14), some (some 15), some (some 16), some (some 17), none]), .inl (0, 54), .inl (0, 40), .inl (0, 108), .inl (0, 12), .inr (2, [some (some 1), some (some 19), none]), .inl (0, 90), .inr (0, [some (some 18), some (some 21)]), .inl (0, 2304), .inr (4, [some (some 18), some (some 23)]), .inl (0, 9), .inr (1, [some none, some (some 25), some (some 26), some (some 27), some (some 28), none, none, none]), .inl (0, 9), .inl (0, 9), .inl (1, 18), .inl (1, 9)]
def s21_ : fr_H := [.inr (11, [some (some 1), some (some 13), some (some 18), some (some 20), some (some 22), some none, some none, some none, some none, some none, some none, some none, some none, some none, some none, some none, none, none]), .inr (7, [none, none, some (some 2), some (some 3), some (some 4), some (some 5), some (some 6), some (some 7), some (some 8), some (some 9), some (some 10), some (some 11), some (some 12)]), .inl (0, 6), .inl (0, 54), .inl (0, 40), .inl (0, 40), .inl (0, 40), .inl (0, 40), .inl (0, 40), .inl (0, 40), .inl (1, 40), .inl (0, 160), .inl (0, 160), .inr (5, [some (some 1), some (some 14), some (some 15), some (some 16), some (some 17), none]), .inl (0, 54), .inl (0, 40), .inl (0, 108), .inl (0, 12), .inr (2, [some (some 1), some (some 19), none]), .inl (0, 90), .inr (0, [some (some 18), some (some 21)]), .inl (0, 2304), .inr (4, [some (some 18), some (some 23)]), .inl (0, 9), .inr (1, [some (some 1), some (some 25), some (some 26), some (some 27), some (some 28), none, none, none]), .inl (0, 9), .inl (0, 9), .inl (1, 18), .inl (1, 9)]
def s22_ : fr_H := [.inr (11, [some (some 1), some (some 13), some (some 18), some (some 20), some (some 22), some none, some none, some none, some none, some none, some none, some none, some none, some none, some none, some none, none, none]), .inr (7, [none, none, some (some 2), some (some 3), some (some 4), some (some 5), some (some 6), some (some 7), some (some 8), some (some 9), some (some 10), some (some 11), some (some 12)]), .inl (0, 6), .inl (0, 54), .inl (0, 40), .inl (0, 40), .inl (0, 40), .inl (0, 40), .inl (0, 40), .inl (0, 40), .inl (1, 40), .inl (0, 160), .inl (0, 160), .inr (5, [some (some 1), some (some 14), some (some 15), some (some 16), some (some 17), none]), .inl (0, 54), .inl (0, 40), .inl (0, 108), .inl (0, 12), .inr (2, [some (some 1), some (some 19), none]), .inl (0, 90), .inr (0, [some (some 18), some (some 21)]), .inl (0, 2304), .inr (4, [some (some 18), some (some 23)]), .inl (0, 9), .inr (1, [some (some 1), some (some 25), some (some 26), some (some 27), some (some 28), none, none, none]), .inl (0, 9), .inl (0, 9), .inl (1, 18), .inl (1, 9)]
def s23_ : fr_H := [.inr (11, [some (some 1), some (some 13), some (some 18), some (some 20), some (some 22), some (some 24), some none, some none, some none, some none, some none, some none, some none, some none, some none, some none, none, none]), .inr (7, [none, none, some (some 2), some (some 3), some (some 4), some (some 5), some (some 6), some (some 7), some (some 8), some (some 9), some (some 10), some (some 11), some (some 12)]), .inl (0, 6), .inl (0, 54), .inl (0, 40), .inl (0, 40), .inl (0, 40), .inl (0, 40), .inl (0, 40), .inl (0, 40), .inl (1, 40), .inl (0, 160), .inl (0, 160), .inr (5, [some (some 1), some (some 14), some (some 15), some (some 16), some (some 17), none]), .inl (0, 54), .inl (0, 40), .inl (0, 108), .inl (0, 12), .inr (2, [some (some 1), some (some 19), none]), .inl (0, 90), .inr (0, [some (some 18), some (some 21)]), .inl (0, 2304), .inr (4, [some (some 18), some (some 23)]), .inl (0, 9), .inr (1, [some (some 1), some (some 25), some (some 26), some (some 27), some (some 28), none, none, none]), .inl (0, 9), .inl (0, 9), .inl (1, 18), .inl (1, 9), .inr (3, [some none, some none, some none, some none, some none, some none, some none, some none, some none, some none, some none, none, none, none, none, none, none, none, none])]
def s24_ : fr_H := [.inr (11, [some (some 1), some (some 13), some (some 18), some (some 20), some (some 22), some (some 24), some none, some none, some none, some none, some none, some none, some none, some none, some none, some none, none, none]), .inr (7, [none, none, some (some 2), some (some 3), some (some 4), some (some 5), some (some 6), some (some 7), some (some 8), some (some 9), some (some 10), some (some 11), some (some 12)]), .inl (0, 6), .inl (0, 54), .inl (0, 40), .inl (0, 40), .inl (0, 40), .inl (0, 40), .inl (0, 40), .inl (0, 40), .inl (1, 40), .inl (0, 160), .inl (0, 160), .inr (5, [some (some 1), some (some 14), some (some 15), some (some 16), some (some 17), none]), .inl (0, 54), .inl (0, 40), .inl (0, 108), .inl (0, 12), .inr (2, [some (some 1), some (some 19), none]), .inl (0, 90), .inr (0, [some (some 18), some (some 21)]), .inl (0, 2304), .inr (4, [some (some 18), some (some 23)]), .inl (0, 9), .inr (1, [some (some 1), some (some 25), some (some 26), some (some 27), some (some 28), none, none, none]), .inl (0, 9), .inl (0, 9), .inl (1, 18), .inl (1, 9), .inr (3, [some none, some none, some (some 30), some (some 31), some (some 32), some (some 33), some none, some none, some none, some none, some none, none, none, none, none, none, none, none, none]), .inl (0, 40), .inl (0, 40), .inl (0, 40), .inl (0, 40)]
def s25_ : fr_H := [.inr (11, [some (some 1), some (some 13), some (some 18), some (some 20), some (some 22), some (some 24), some none, some none, some none, some none, some none, some none, some none, some none, some none, some none, none, none]), .inr (7, [none, none, some (some 2), some (some 3), some (some 4), some (some 5), some (some 6), some (some 7), some (some 8), some (some 9), some (some 10), some (some 11), some (some 12)]), .inl (0, 6), .inl (0, 54), .inl (0, 40), .inl (0, 40), .inl (0, 40), .inl (0, 40), .inl (0, 40), .inl (0, 40), .inl (1, 40), .inl (0, 160), .inl (0, 160), .inr (5, [some (some 1), some (some 14), some (some 15), some (some 16), some (some 17), none]), .inl (0, 54), .inl (0, 40), .inl (0, 108), .inl (0, 12), .inr (2, [some (some 1), some (some 19), none]), .inl (0, 90), .inr (0, [some (some 18), some (some 21)]), .inl (0, 2304), .inr (4, [some (some 18), some (some 23)]), .inl (0, 9), .inr (1, [some (some 1), some (some 25), some (some 26), some (some 27), some (some 28), none, none, none]), .inl (0, 9), .inl (0, 9), .inl (1, 18), .inl (1, 9), .inr (3, [some none, some none, some (some 30), some (some 31), some (some 32), some (some 33), some (some 34), some (some 35), some (some 36), some (some 37), some none, none, none, none, none, none, none, none, none]), .inl (0, 40), .inl (0, 40), .inl (0, 40), .inl (0, 40), .inl (0, 80), .inl (0, 80), .inl (1, 80), .inl (1, 40)]
def s26_ : fr_H := [.inr (11, [some (some 1), some (some 13), some (some 18), some (some 20), some (some 22), some (some 24), some none, some none, some none, some none, some none, some none, some none, some none, some none, some none, none, none]), .inr (7, [none, none, some (some 2), some (some 3), some (some 4), some (some 5), some (some 6), some (some 7), some (some 8), some (some 9), some (some 10), some (some 11), some (some 12)]), .inl (0, 6), .inl (0, 54), .inl (0, 40), .inl (0, 40), .inl (0, 40), .inl (0, 40), .inl (0, 40), .inl (0, 40), .inl (1, 40), .inl (0, 160), .inl (0, 160), .inr (5, [some (some 1), some (some 14), some (some 15), some (some 16), some (some 17), none]), .inl (0, 54), .inl (0, 40), .inl (0, 108), .inl (0, 12), .inr (2, [some (some 1), some (some 19), none]), .inl (0, 90), .inr (0, [some (some 18), some (some 21)]), .inl (0, 2304), .inr (4, [some (some 18), some (some 23)]), .inl (0, 9), .inr (1, [some (some 1), some (some 25), some (some 26), some (some 27), some (some 28), none, none, none]), .inl (0, 9), .inl (0, 9), .inl (1, 18), .inl (1, 9), .inr (3, [some (some 1), some (some 13), some (some 30), some (some 31), some (some 32), some (some 33), some (some 34), some (some 35), some (some 36), some (some 37), some (some 38), none, none, none, none, none, none, none, none]), .inl (0, 40), .inl (0, 40), .inl (0, 40), .inl (0, 40), .inl (0, 80), .inl (0, 80), .inl (1, 80), .inl (1, 40), .inl (0, 40)]
def s27_ : fr_H := [.inr (11, [some (some 1), some (some 13), some (some 18), some (some 20), some (some 22), some (some 24), some none, some none, some none, some none, some none, some none, some none, some none, some none, some none, none, none]), .inr (7, [none, none, some (some 2), some (some 3), some (some 4), some (some 5), some (some 6), some (some 7), some (some 8), some (some 9), some (some 10), some (some 11), some (some 12)]), .inl (0, 6), .inl (0, 54), .inl (0, 40), .inl (0, 40), .inl (0, 40), .inl (0, 40), .inl (0, 40), .inl (0, 40), .inl (1, 40), .inl (0, 160), .inl (0, 160), .inr (5, [some (some 1), some (some 14), some (some 15), some (some 16), some (some 17), none]), .inl (0, 54), .inl (0, 40), .inl (0, 108), .inl (0, 12), .inr (2, [some (some 1), some (some 19), none]), .inl (0, 90), .inr (0, [some (some 18), some (some 21)]), .inl (0, 2304), .inr (4, [some (some 18), some (some 23)]), .inl (0, 9), .inr (1, [some (some 1), some (some 25), some (some 26), some (some 27), some (some 28), none, none, none]), .inl (0, 9), .inl (0, 9), .inl (1, 18), .inl (1, 9), .inr (3, [some (some 1), some (some 13), some (some 30), some (some 31), some (some 32), some (some 33), some (some 34), some (some 35), some (some 36), some (some 37), some (some 38), none, none, none, none, none, none, none, none]), .inl (0, 40), .inl (0, 40), .inl (0, 40), .inl (0, 40), .inl (0, 80), .inl (0, 80), .inl (1, 80), .inl (1, 40), .inl (0, 40)]
def s28_ : fr_H := [.inr (11, [some (some 1), some (some 13), some (some 18), some (some 20), some (some 22), some (some 24), some (some 29), some none, some none, some none, some none, some none, some none, some none, some none, some none, none, none]), .inr (7, [none, none, some (some 2), some (some 3), some (some 4), some (some 5), some (some 6), some (some 7), some (some 8), some (some 9), some (some 10), some (some 11), some (some 12)]), .inl (0, 6), .inl (0, 54), .inl (0, 40), .inl (0, 40), .inl (0, 40), .inl (0, 40), .inl (0, 40), .inl (0, 40), .inl (1, 40), .inl (0, 160), .inl (0, 160), .inr (5, [some (some 1), some (some 14), some (some 15), some (some 16), some (some 17), none]), .inl (0, 54), .inl (0, 40), .inl (0, 108), .inl (0, 12), .inr (2, [some (some 1), some (some 19), none]), .inl (0, 90), .inr (0, [some (some 18), some (some 21)]), .inl (0, 2304), .inr (4, [some (some 18), some (some 23)]), .inl (0, 9), .inr (1, [some (some 1), some (some 25), some (some 26), some (some 27), some (some 28), none, none, none]), .inl (0, 9), .inl (0, 9), .inl (1, 18), .inl (1, 9), .inr (3, [some (some 1), some (some 13), some (some 30), some (some 31), some (some 32), some (some 33), some (some 34), some (some 35), some (some 36), some (some 37), some (some 38), none, none, none, none, none, none, none, none]), .inl (0, 40), .inl (0, 40), .inl (0, 40), .inl (0, 40), .inl (0, 80), .inl (0, 80), .inl (1, 80), .inl (1, 40), .inl (0, 40), .inr (6, [some none, some none, some none, some none, none, none])]
def s29_ : fr_H := [.inr (11, [some (some 1), some (some 13), some (some 18), some (some 20), some (some 22), some (some 24), some (some 29), some none, some none, some none, some none, some none, some none, some none, some none, some none, none, none]), .inr (7, [none, none, some (some 2), some (some 3), some (some 4), some (some 5), some (some 6), some (some 7), some (some 8), some (some 9), some (some 10), some (some 11), some (some 12)]), .inl (0, 6), .inl (0, 54), .inl (0, 40), .inl (0, 40), .inl (0, 40), .inl (0, 40), .inl (0, 40), .inl (0, 40), .inl (1, 40), .inl (0, 160), .inl (0, 160), .inr (5, [some (some 1), some (some 14), some (some 15), some (some 16), some (some 17), none]), .inl (0, 54), .inl (0, 40), .inl (0, 108), .inl (0, 12), .inr (2, [some (some 1), some (some 19), none]), .inl (0, 90), .inr (0, [some (some 18), some (some 21)]), .inl (0, 2304), .inr (4, [some (some 18), some (some 23)]), .inl (0, 9), .inr (1, [some (some 1), some (some 25), some (some 26), some (some 27), some (some 28), none, none, none]), .inl (0, 9), .inl (0, 9), .inl (1, 18), .inl (1, 9), .inr (3, [some (some 1), some (some 13), some (some 30), some (some 31), some (some 32), some (some 33), some (some 34), some (some 35), some (some 36), some (some 37), some (some 38), none, none, none, none, none, none, none, none]), .inl (0, 40), .inl (0, 40), .inl (0, 40), .inl (0, 40), .inl (0, 80), .inl (0, 80), .inl (1, 80), .inl (1, 40), .inl (0, 40), .inr (6, [some (some 1), some (some 29), some (some 40), some (some 41), none, none]), .inl (2, 9760), .inl (0, 40)]
def s30_ : fr_H := [.inr (11, [some (some 1), some (some 13), some (some 18), some (some 20), some (some 22), some (some 24), some (some 29), some none, some none, some none, some none, some none, some none, some none, some none, some none, none, none]), .inr (7, [none, none, some (some 2), some (some 3), some (some 4), some (some 5), some (some 6), some (some 7), some (some 8), some (some 9), some (some 10), some (some 11), some (some 12)]), .inl (0, 6), .inl (0, 54), .inl (0, 40), .inl (0, 40), .inl (0, 40), .inl (0, 40), .inl (0, 40), .inl (0, 40), .inl (1, 40), .inl (0, 160), .inl (0, 160), .inr (5, [some (some 1), some (some 14), some (some 15), some (some 16), some (some 17), none]), .inl (0, 54), .inl (0, 40), .inl (0, 108), .inl (0, 12), .inr (2, [some (some 1), some (some 19), none]), .inl (0, 90), .inr (0, [some (some 18), some (some 21)]), .inl (0, 2304), .inr (4, [some (some 18), some (some 23)]), .inl (0, 9), .inr (1, [some (some 1), some (some 25), some (some 26), some (some 27), some (some 28), none, none, none]), .inl (0, 9), .inl (0, 9), .inl (1, 18), .inl (1, 9), .inr (3, [some (some 1), some (some 13), some (some 30), some (some 31), some (some 32), some (some 33), some (some 34), some (some 35), some (some 36), some (some 37), some (some 38), none, none, none, none, none, none, none, none]), .inl (0, 40), .inl (0, 40), .inl (0, 40), .inl (0, 40), .inl (0, 80), .inl (0, 80), .inl (1, 80), .inl (1, 40), .inl (0, 40), .inr (6, [some (some 1), some (some 29), some (some 40), some (some 41), none, none]), .inl (2, 9760), .inl (0, 40)]
def s31_ : fr_H := [.inr (11, [some (some 1), some (some 13), some (some 18), some (some 20), some (some 22), some (some 24), some (some 29), some (some 39), some none, some none, some none, some none, some none, some none, some none, some none, none, none]), .inr (7, [none, none, some (some 2), some (some 3), some (some 4), some (some 5), some (some 6), some (some 7), some (some 8), some (some 9), some (some 10), some (some 11), some (some 12)]), .inl (0, 6), .inl (0, 54), .inl (0, 40), .inl (0, 40), .inl (0, 40), .inl (0, 40), .inl (0, 40), .inl (0, 40), .inl (1, 40), .inl (0, 160), .inl (0, 160), .inr (5, [some (some 1), some (some 14), some (some 15), some (some 16), some (some 17), none]), .inl (0, 54), .inl (0, 40), .inl (0, 108), .inl (0, 12), .inr (2, [some (some 1), some (some 19), none]), .inl (0, 90), .inr (0, [some (some 18), some (some 21)]), .inl (0, 2304), .inr (4, [some (some 18), some (some 23)]), .inl (0, 9), .inr (1, [some (some 1), some (some 25), some (some 26), some (some 27), some (some 28), none, none, none]), .inl (0, 9), .inl (0, 9), .inl (1, 18), .inl (1, 9), .inr (3, [some (some 1), some (some 13), some (some 30), some (some 31), some (some 32), some (some 33), some (some 34), some (some 35), some (some 36), some (some 37), some (some 38), none, none, none, none, none, none, none, none]), .inl (0, 40), .inl (0, 40), .inl (0, 40), .inl (0, 40), .inl (0, 80), .inl (0, 80), .inl (1, 80), .inl (1, 40), .inl (0, 40), .inr (6, [some (some 1), some (some 29), some (some 40), some (some 41), none, none]), .inl (2, 9760), .inl (0, 40), .inr (9, [some none, none])]
def s32_ : fr_H := [.inr (11, [some (some 1), some (some 13), some (some 18), some (some 20), some (some 22), some (some 24), some (some 29), some (some 39), some none, some none, some none, some none, some none, some none, some none, some none, none, none]), .inr (7, [none, none, some (some 2), some (some 3), some (some 4), some (some 5), some (some 6), some (some 7), some (some 8), some (some 9), some (some 10), some (some 11), some (some 12)]), .inl (0, 6), .inl (0, 54), .inl (0, 40), .inl (0, 40), .inl (0, 40), .inl (0, 40), .inl (0, 40), .inl (0, 40), .inl (1, 40), .inl (0, 160), .inl (0, 160), .inr (5, [some (some 1), some (some 14), some (some 15), some (some 16), some (some 17), none]), .inl (0, 54), .inl (0, 40), .inl (0, 108), .inl (0, 12), .inr (2, [some (some 1), some (some 19), none]), .inl (0, 90), .inr (0, [some (some 18), some (some 21)]), .inl (0, 2304), .inr (4, [some (some 18), some (some 23)]), .inl (0, 9), .inr (1, [some (some 1), some (some 25), some (some 26), some (some 27), some (some 28), none, none, none]), .inl (0, 9), .inl (0, 9), .inl (1, 18), .inl (1, 9), .inr (3, [some (some 1), some (some 13), some (some 30), some (some 31), some (some 32), some (some 33), some (some 34), some (some 35), some (some 36), some (some 37), some (some 38), none, none, none, none, none, none, none, none]), .inl (0, 40), .inl (0, 40), .inl (0, 40), .inl (0, 40), .inl (0, 80), .inl (0, 80), .inl (1, 80), .inl (1, 40), .inl (0, 40), .inr (6, [some (some 1), some (some 29), some (some 40), some (some 41), none, none]), .inl (2, 9760), .inl (0, 40), .inr (9, [some (some 43), none]), .inl (2, 200)]
def s33_ : fr_H := [.inr (11, [some (some 1), some (some 13), some (some 18), some (some 20), some (some 22), some (some 24), some (some 29), some (some 39), some none, some none, some none, some none, some none, some none, some none, some none, none, none]), .inr (7, [none, none, some (some 2), some (some 3), some (some 4), some (some 5), some (some 6), some (some 7), some (some 8), some (some 9), some (some 10), some (some 11), some (some 12)]), .inl (0, 6), .inl (0, 54), .inl (0, 40), .inl (0, 40), .inl (0, 40), .inl (0, 40), .inl (0, 40), .inl (0, 40), .inl (1, 40), .inl (0, 160), .inl (0, 160), .inr (5, [some (some 1), some (some 14), some (some 15), some (some 16), some (some 17), none]), .inl (0, 54), .inl (0, 40), .inl (0, 108), .inl (0, 12), .inr (2, [some (some 1), some (some 19), none]), .inl (0, 90), .inr (0, [some (some 18), some (some 21)]), .inl (0, 2304), .inr (4, [some (some 18), some (some 23)]), .inl (0, 9), .inr (1, [some (some 1), some (some 25), some (some 26), some (some 27), some (some 28), none, none, none]), .inl (0, 9), .inl (0, 9), .inl (1, 18), .inl (1, 9), .inr (3, [some (some 1), some (some 13), some (some 30), some (some 31), some (some 32), some (some 33), some (some 34), some (some 35), some (some 36), some (some 37), some (some 38), none, none, none, none, none, none, none, none]), .inl (0, 40), .inl (0, 40), .inl (0, 40), .inl (0, 40), .inl (0, 80), .inl (0, 80), .inl (1, 80), .inl (1, 40), .inl (0, 40), .inr (6, [some (some 1), some (some 29), some (some 40), some (some 41), none, none]), .inl (2, 9760), .inl (0, 40), .inr (9, [some (some 43), none]), .inl (2, 200)]
def s34_ : fr_H := [.inr (11, [some (some 1), some (some 13), some (some 18), some (some 20), some (some 22), some (some 24), some (some 29), some (some 39), some (some 42), some none, some none, some none, some none, some none, some none, some none, none, none]), .inr (7, [none, none, some (some 2), some (some 3), some (some 4), some (some 5), some (some 6), some (some 7), some (some 8), some (some 9), some (some 10), some (some 11), some (some 12)]), .inl (0, 6), .inl (0, 54), .inl (0, 40), .inl (0, 40), .inl (0, 40), .inl (0, 40), .inl (0, 40), .inl (0, 40), .inl (1, 40), .inl (0, 160), .inl (0, 160), .inr (5, [some (some 1), some (some 14), some (some 15), some (some 16), some (some 17), none]), .inl (0, 54), .inl (0, 40), .inl (0, 108), .inl (0, 12), .inr (2, [some (some 1), some (some 19), none]), .inl (0, 90), .inr (0, [some (some 18), some (some 21)]), .inl (0, 2304), .inr (4, [some (some 18), some (some 23)]), .inl (0, 9), .inr (1, [some (some 1), some (some 25), some (some 26), some (some 27), some (some 28), none, none, none]), .inl (0, 9), .inl (0, 9), .inl (1, 18), .inl (1, 9), .inr (3, [some (some 1), some (some 13), some (some 30), some (some 31), some (some 32), some (some 33), some (some 34), some (some 35), some (some 36), some (some 37), some (some 38), none, none, none, none, none, none, none, none]), .inl (0, 40), .inl (0, 40), .inl (0, 40), .inl (0, 40), .inl (0, 80), .inl (0, 80), .inl (1, 80), .inl (1, 40), .inl (0, 40), .inr (6, [some (some 1), some (some 29), some (some 40), some (some 41), none, none]), .inl (2, 9760), .inl (0, 40), .inr (9, [some (some 43), none]), .inl (2, 200), .inr (8, [some none, some none, some none, some none, none, none])]
def s35_ : fr_H := [.inr (11, [some (some 1), some (some 13), some (some 18), some (some 20), some (some 22), some (some 24), some (some 29), some (some 39), some (some 42), some none, some none, some none, some none, some none, some none, some none, none, none]), .inr (7, [none, none, some (some 2), some (some 3), some (some 4), some (some 5), some (some 6), some (some 7), some (some 8), some (some 9), some (some 10), some (some 11), some (some 12)]), .inl (0, 6), .inl (0, 54), .inl (0, 40), .inl (0, 40), .inl (0, 40), .inl (0, 40), .inl (0, 40), .inl (0, 40), .inl (1, 40), .inl (0, 160), .inl (0, 160), .inr (5, [some (some 1), some (some 14), some (some 15), some (some 16), some (some 17), none]), .inl (0, 54), .inl (0, 40), .inl (0, 108), .inl (0, 12), .inr (2, [some (some 1), some (some 19), none]), .inl (0, 90), .inr (0, [some (some 18), some (some 21)]), .inl (0, 2304), .inr (4, [some (some 18), some (some 23)]), .inl (0, 9), .inr (1, [some (some 1), some (some 25), some (some 26), some (some 27), some (some 28), none, none, none]), .inl (0, 9), .inl (0, 9), .inl (1, 18), .inl (1, 9), .inr (3, [some (some 1), some (some 13), some (some 30), some (some 31), some (some 32), some (some 33), some (some 34), some (some 35), some (some 36), some (some 37), some (some 38), none, none, none, none, none, none, none, none]), .inl (0, 40), .inl (0, 40), .inl (0, 40), .inl (0, 40), .inl (0, 80), .inl (0, 80), .inl (1, 80), .inl (1, 40), .inl (0, 40), .inr (6, [some (some 1), some (some 29), some (some 40), some (some 41), none, none]), .inl (2, 9760), .inl (0, 40), .inr (9, [some (some 43), none]), .inl (2, 200), .inr (8, [some (some 1), some (some 29), some (some 39), some (some 42), none, none])]
def s36_ : fr_H := [.inr (11, [some (some 1), some (some 13), some (some 18), some (some 20), some (some 22), some (some 24), some (some 29), some (some 39), some (some 42), some none, some none, some none, some none, some none, some none, some none, none, none]), .inr (7, [none, none, some (some 2), some (some 3), some (some 4), some (some 5), some (some 6), some (some 7), some (some 8), some (some 9), some (some 10), some (some 11), some (some 12)]), .inl (0, 6), .inl (0, 54), .inl (0, 40), .inl (0, 40), .inl (0, 40), .inl (0, 40), .inl (0, 40), .inl (0, 40), .inl (1, 40), .inl (0, 160), .inl (0, 160), .inr (5, [some (some 1), some (some 14), some (some 15), some (some 16), some (some 17), none]), .inl (0, 54), .inl (0, 40), .inl (0, 108), .inl (0, 12), .inr (2, [some (some 1), some (some 19), none]), .inl (0, 90), .inr (0, [some (some 18), some (some 21)]), .inl (0, 2304), .inr (4, [some (some 18), some (some 23)]), .inl (0, 9), .inr (1, [some (some 1), some (some 25), some (some 26), some (some 27), some (some 28), none, none, none]), .inl (0, 9), .inl (0, 9), .inl (1, 18), .inl (1, 9), .inr (3, [some (some 1), some (some 13), some (some 30), some (some 31), some (some 32), some (some 33), some (some 34), some (some 35), some (some 36), some (some 37), some (some 38), none, none, none, none, none, none, none, none]), .inl (0, 40), .inl (0, 40), .inl (0, 40), .inl (0, 40), .inl (0, 80), .inl (0, 80), .inl (1, 80), .inl (1, 40), .inl (0, 40), .inr (6, [some (some 1), some (some 29), some (some 40), some (some 41), none, none]), .inl (2, 9760), .inl (0, 40), .inr (9, [some (some 43), none]), .inl (2, 200), .inr (8, [some (some 1), some (some 29), some (some 39), some (some 42), none, none])]
def s37_ : fr_H := [.inr (11, [some (some 1), some (some 13), some (some 18), some (some 20), some (some 22), some (some 24), some (some 29), some (some 39), some (some 42), some (some 44), some none, some none, some none, some none, some none, some none, none, none]), .inr (7, [none, none, some (some 2), some (some 3), some (some 4), some (some 5), some (some 6), some (some 7), some (some 8), some (some 9), some (some 10), some (some 11), some (some 12)]), .inl (0, 6), .inl (0, 54), .inl (0, 40), .inl (0, 40), .inl (0, 40), .inl (0, 40), .inl (0, 40), .inl (0, 40), .inl (1, 40), .inl (0, 160), .inl (0, 160), .inr (5, [some (some 1), some (some 14), some (some 15), some (some 16), some (some 17), none]), .inl (0, 54), .inl (0, 40), .inl (0, 108), .inl (0, 12), .inr (2, [some (some 1), some (some 19), none]), .inl (0, 90), .inr (0, [some (some 18), some (some 21)]), .inl (0, 2304), .inr (4, [some (some 18), some (some 23)]), .inl (0, 9), .inr (1, [some (some 1), some (some 25), some (some 26), some (some 27), some (some 28), none, none, none]), .inl (0, 9), .inl (0, 9), .inl (1, 18), .inl (1, 9), .inr (3, [some (some 1), some (some 13), some (some 30), some (some 31), some (some 32), some (some 33), some (some 34), some (some 35), some (some 36), some (some 37), some (some 38), none, none, none, none, none, none, none, none]), .inl (0, 40), .inl (0, 40), .inl (0, 40), .inl (0, 40), .inl (0, 80), .inl (0, 80), .inl (1, 80), .inl (1, 40), .inl (0, 40), .inr (6, [some (some 1), some (some 29), some (some 40), some (some 41), none, none]), .inl (2, 9760), .inl (0, 40), .inr (9, [some (some 43), none]), .inl (2, 200), .inr (8, [some (some 1), some (some 29), some (some 39), some (some 42), none, none]), .inr (10, [none, none, none, none, none, none, none, none, none, none, some none, some none, some none, some none, some none, some none])]
def s38_ : fr_H := [.inr (11, [some (some 1), some (some 13), some (some 18), some (some 20), some (some 22), some (some 24), some (some 29), some (some 39), some (some 42), some (some 44), some none, some none, some none, some none, some none, some none, none, none]), .inr (7, [none, none, some (some 2), some (some 3), some (some 4), some (some 5), some (some 6), some (some 7), some (some 8), some (some 9), some (some 10), some (some 11), some (some 12)]), .inl (0, 6), .inl (0, 54), .inl (0, 40), .inl (0, 40), .inl (0, 40), .inl (0, 40), .inl (0, 40), .inl (0, 40), .inl (1, 40), .inl (0, 160), .inl (0, 160), .inr (5, [some (some 1), some (some 14), some (some 15), some (some 16), some (some 17), none]), .inl (0, 54), .inl (0, 40), .inl (0, 108), .inl (0, 12), .inr (2, [some (some 1), some (some 19), none]), .inl (0, 90), .inr (0, [some (some 18), some (some 21)]), .inl (0, 2304), .inr (4, [some (some 18), some (some 23)]), .inl (0, 9), .inr (1, [some (some 1), some (some 25), some (some 26), some (some 27), some (some 28), none, none, none]), .inl (0, 9), .inl (0, 9), .inl (1, 18), .inl (1, 9), .inr (3, [some (some 1), some (some 13), some (some 30), some (some 31), some (some 32), some (some 33), some (some 34), some (some 35), some (some 36), some (some 37), some (some 38), none, none, none, none, none, none, none, none]), .inl (0, 40), .inl (0, 40), .inl (0, 40), .inl (0, 40), .inl (0, 80), .inl (0, 80), .inl (1, 80), .inl (1, 40), .inl (0, 40), .inr (6, [some (some 1), some (some 29), some (some 40), some (some 41), none, none]), .inl (2, 9760), .inl (0, 40), .inr (9, [some (some 43), none]), .inl (2, 200), .inr (8, [some (some 1), some (some 29), some (some 39), some (some 42), none, none]), .inr (10, [none, none, none, none, none, none, none, none, none, none, some (some 46), some (some 47), some (some 48), some (some 49), some none, some none]), .inl (0, 200), .inl (0, 200), .inl (0, 160), .inl (0, 8)]
def s39_ : fr_H := [.inr (11, [some (some 1), some (some 13), some (some 18), some (some 20), some (some 22), some (some 24), some (some 29), some (some 39), some (some 42), some (some 44), some none, some none, some none, some none, some none, some none, none, none]), .inr (7, [none, none, some (some 2), some (some 3), some (some 4), some (some 5), some (some 6), some (some 7), some (some 8), some (some 9), some (some 10), some (some 11), some (some 12)]), .inl (0, 6), .inl (0, 54), .inl (0, 40), .inl (0, 40), .inl (0, 40), .inl (0, 40), .inl (0, 40), .inl (0, 40), .inl (1, 40), .inl (0, 160), .inl (0, 160), .inr (5, [some (some 1), some (some 14), some (some 15), some (some 16), some (some 17), none]), .inl (0, 54), .inl (0, 40), .inl (0, 108), .inl (0, 12), .inr (2, [some (some 1), some (some 19), none]), .inl (0, 90), .inr (0, [some (some 18), some (some 21)]), .inl (0, 2304), .inr (4, [some (some 18), some (some 23)]), .inl (0, 9), .inr (1, [some (some 1), some (some 25), some (some 26), some (some 27), some (some 28), none, none, none]), .inl (0, 9), .inl (0, 9), .inl (1, 18), .inl (1, 9), .inr (3, [some (some 1), some (some 13), some (some 30), some (some 31), some (some 32), some (some 33), some (some 34), some (some 35), some (some 36), some (some 37), some (some 38), none, none, none, none, none, none, none, none]), .inl (0, 40), .inl (0, 40), .inl (0, 40), .inl (0, 40), .inl (0, 80), .inl (0, 80), .inl (1, 80), .inl (1, 40), .inl (0, 40), .inr (6, [some (some 1), some (some 29), some (some 40), some (some 41), none, none]), .inl (2, 9760), .inl (0, 40), .inr (9, [some (some 43), none]), .inl (2, 200), .inr (8, [some (some 1), some (some 29), some (some 39), some (some 42), none, none]), .inr (10, [none, none, none, none, none, none, none, none, none, none, some (some 46), some (some 47), some (some 48), some (some 49), some (some 50), some (some 51)]), .inl (0, 200), .inl (0, 200), .inl (0, 160), .inl (0, 8), .inl (0, 8), .inl (0, 8)]
def s40_ : fr_H := [.inr (11, [some (some 1), some (some 13), some (some 18), some (some 20), some (some 22), some (some 24), some (some 29), some (some 39), some (some 42), some (some 44), some none, some none, some none, some none, some none, some none, none, none]), .inr (7, [none, none, some (some 2), some (some 3), some (some 4), some (some 5), some (some 6), some (some 7), some (some 8), some (some 9), some (some 10), some (some 11), some (some 12)]), .inl (0, 6), .inl (0, 54), .inl (0, 40), .inl (0, 40), .inl (0, 40), .inl (0, 40), .inl (0, 40), .inl (0, 40), .inl (1, 40), .inl (0, 160), .inl (0, 160), .inr (5, [some (some 1), some (some 14), some (some 15), some (some 16), some (some 17), none]), .inl (0, 54), .inl (0, 40), .inl (0, 108), .inl (0, 12), .inr (2, [some (some 1), some (some 19), none]), .inl (0, 90), .inr (0, [some (some 18), some (some 21)]), .inl (0, 2304), .inr (4, [some (some 18), some (some 23)]), .inl (0, 9), .inr (1, [some (some 1), some (some 25), some (some 26), some (some 27), some (some 28), none, none, none]), .inl (0, 9), .inl (0, 9), .inl (1, 18), .inl (1, 9), .inr (3, [some (some 1), some (some 13), some (some 30), some (some 31), some (some 32), some (some 33), some (some 34), some (some 35), some (some 36), some (some 37), some (some 38), none, none, none, none, none, none, none, none]), .inl (0, 40), .inl (0, 40), .inl (0, 40), .inl (0, 40), .inl (0, 80), .inl (0, 80), .inl (1, 80), .inl (1, 40), .inl (0, 40), .inr (6, [some (some 1), some (some 29), some (some 40), some (some 41), none, none]), .inl (2, 9760), .inl (0, 40), .inr (9, [some (some 43), none]), .inl (2, 200), .inr (8, [some (some 1), some (some 29), some (some 39), some (some 42), none, none]), .inr (10, [none, none, none, none, none, none, none, none, none, none, some (some 46), some (some 47), some (some 48), some (some 49), some (some 50), some (some 51)]), .inl (0, 200), .inl (0, 200), .inl (0, 160), .inl (0, 8), .inl (0, 8), .inl (0, 8)]
def s41_ : fr_H := [.inr (11, [some (some 1), some (some 13), some (some 18), some (some 20), some (some 22), some (some 24), some (some 29), some (some 39), some (some 42), some (some 44), some (some 45), some none, some none, some none, some none, some none, none, none]), .inr (7, [none, none, some (some 2), some (some 3), some (some 4), some (some 5), some (some 6), some (some 7), some (some 8), some (some 9), some (some 10), some (some 11), some (some 12)]), .inl (0, 6), .inl (0, 54), .inl (0, 40), .inl (0, 40), .inl (0, 40), .inl (0, 40), .inl (0, 40), .inl (0, 40), .inl (1, 40), .inl (0, 160), .inl (0, 160), .inr (5, [some (some 1), some (some 14), some (some 15), some (some 16), some (some 17), none]), .inl (0, 54), .inl (0, 40), .inl (0, 108), .inl (0, 12), .inr (2, [some (some 1), some (some 19), none]), .inl (0, 90), .inr (0, [some (some 18), some (some 21)]), .inl (0, 2304), .inr (4, [some (some 18), some (some 23)]), .inl (0, 9), .inr (1, [some (some 1), some (some 25), some (some 26), some (some 27), some (some 28), none, none, none]), .inl (0, 9), .inl (0, 9), .inl (1, 18), .inl (1, 9), .inr (3, [some (some 1), some (some 13), some (some 30), some (some 31), some (some 32), some (some 33), some (some 34), some (some 35), some (some 36), some (some 37), some (some 38), none, none, none, none, none, none, none, none]), .inl (0, 40), .inl (0, 40), .inl (0, 40), .inl (0, 40), .inl (0, 80), .inl (0, 80), .inl (1, 80), .inl (1, 40), .inl (0, 40), .inr (6, [some (some 1), some (some 29), some (some 40), some (some 41), none, none]), .inl (2, 9760), .inl (0, 40), .inr (9, [some (some 43), none]), .inl (2, 200), .inr (8, [some (some 1), some (some 29), some (some 39), some (some 42), none, none]), .inr (10, [none, none, none, none, none, none, none, none, none, none, some (some 46), some (some 47), some (some 48), some (some 49), some (some 50), some (some 51)]), .inl (0, 200), .inl (0, 200), .inl (0, 160), .inl (0, 8), .inl (0, 8), .inl (0, 8), .inr (10, [none, none, none, none, none, none, none, none, none, none, some none, some none, some none, some none, some none, some none])]
def s42_ : fr_H := [.inr (11, [some (some 1), some (some 13), some (some 18), some (some 20), some (some 22), some (some 24), some (some 29), some (some 39), some (some 42), some (some 44), some (some 45), some none, some none, some none, some none, some none, none, none]), .inr (7, [none, none, some (some 2), some (some 3), some (some 4), some (some 5), some (some 6), some (some 7), some (some 8), some (some 9), some (some 10), some (some 11), some (some 12)]), .inl (0, 6), .inl (0, 54), .inl (0, 40), .inl (0, 40), .inl (0, 40), .inl (0, 40), .inl (0, 40), .inl (0, 40), .inl (1, 40), .inl (0, 160), .inl (0, 160), .inr (5, [some (some 1), some (some 14), some (some 15), some (some 16), some (some 17), none]), .inl (0, 54), .inl (0, 40), .inl (0, 108), .inl (0, 12), .inr (2, [some (some 1), some (some 19), none]), .inl (0, 90), .inr (0, [some (some 18), some (some 21)]), .inl (0, 2304), .inr (4, [some (some 18), some (some 23)]), .inl (0, 9), .inr (1, [some (some 1), some (some 25), some (some 26), some (some 27), some (some 28), none, none, none]), .inl (0, 9), .inl (0, 9), .inl (1, 18), .inl (1, 9), .inr (3, [some (some 1), some (some 13), some (some 30), some (some 31), some (some 32), some (some 33), some (some 34), some (some 35), some (some 36), some (some 37), some (some 38), none, none, none, none, none, none, none, none]), .inl (0, 40), .inl (0, 40), .inl (0, 40), .inl (0, 40), .inl (0, 80), .inl (0, 80), .inl (1, 80), .inl (1, 40), .inl (0, 40), .inr (6, [some (some 1), some (some 29), some (some 40), some (some 41), none, none]), .inl (2, 9760), .inl (0, 40), .inr (9, [some (some 43), none]), .inl (2, 200), .inr (8, [some (some 1), some (some 29), some (some 39), some (some 42), none, none]), .inr (10, [none, none, none, none, none, none, none, none, none, none, some (some 46), some (some 47), some (some 48), some (some 49), some (some 50), some (some 51)]), .inl (0, 200), .inl (0, 200), .inl (0, 160), .inl (0, 8), .inl (0, 8), .inl (0, 8), .inr (10, [none, none, none, none, none, none, none, none, none, none, some (some 53), some (some 54), some (some 55), some (some 56), some none, some none]), .inl (0, 200), .inl (0, 200), .inl (0, 160), .inl (0, 8)]
def s43_ : fr_H := [.inr (11, [some (some 1), some (some 13), some (some 18), some (some 20), some (some 22), some (some 24), some (some 29), some (some 39), some (some 42), some (some 44), some (some 45), some none, some none, some none, some none, some none, none, none]), .inr (7, [none, none, some (some 2), some (some 3), some (some 4), some (some 5), some (some 6), some (some 7), some (some 8), some (some 9), some (some 10), some (some 11), some (some 12)]), .inl (0, 6), .inl (0, 54), .inl (0, 40), .inl (0, 40), .inl (0, 40), .inl (0, 40), .inl (0, 40), .inl (0, 40), .inl (1, 40), .inl (0, 160), .inl (0, 160), .inr (5, [some (some 1), some (some 14), some (some 15), some (some 16), some (some 17), none]), .inl (0, 54), .inl (0, 40), .inl (0, 108), .inl (0, 12), .inr (2, [some (some 1), some (some 19), none]), .inl (0, 90), .inr (0, [some (some 18), some (some 21)]), .inl (0, 2304), .inr (4, [some (some 18), some (some 23)]), .inl (0, 9), .inr (1, [some (some 1), some (some 25), some (some 26), some (some 27), some (some 28), none, none, none]), .inl (0, 9), .inl (0, 9), .inl (1, 18), .inl (1, 9), .inr (3, [some (some 1), some (some 13), some (some 30), some (some 31), some (some 32), some (some 33), some (some 34), some (some 35), some (some 36), some (some 37), some (some 38), none, none, none, none, none, none, none, none]), .inl (0, 40), .inl (0, 40), .inl (0, 40), .inl (0, 40), .inl (0, 80), .inl (0, 80), .inl (1, 80), .inl (1, 40), .inl (0, 40), .inr (6, [some (some 1), some (some 29), some (some 40), some (some 41), none, none]), .inl (2, 9760), .inl (0, 40), .inr (9, [some (some 43), none]), .inl (2, 200), .inr (8, [some (some 1), some (some 29), some (some 39), some (some 42), none, none]), .inr (10, [none, none, none, none, none, none, none, none, none, none, some (some 46), some (some 47), some (some 48), some (some 49), some (some 50), some (some 51)]), .inl (0, 200), .inl (0, 200), .inl (0, 160), .inl (0, 8), .inl (0, 8), .inl (0, 8), .inr (10, [none, none, none, none, none, none, none, none, none, none, some (some 53), some (some 54), some (some 55), some (some 56), some (some 57), some (some 58)]), .inl (0, 200), .inl (0, 200), .inl (0, 160), .inl (0, 8), .inl (0, 8), .inl (0, 8)]
def s44_ : fr_H := [.inr (11, [some (some 1), some (some 13), some (some 18), some (some 20), some (some 22), some (some 24), some (some 29), some (some 39), some (some 42), some (some 44), some (some 45), some none, some none, some none, some none, some none, none, none]), .inr (7, [none, none, some (some 2), some (some 3), some (some 4), some (some 5), some (some 6), some (some 7), some (some 8), some (some 9), some (some 10), some (some 11), some (some 12)]), .inl (0, 6), .inl (0, 54), .inl (0, 40), .inl (0, 40), .inl (0, 40), .inl (0, 40), .inl (0, 40), .inl (0, 40), .inl (1, 40), .inl (0, 160), .inl (0, 160), .inr (5, [some (some 1), some (some 14), some (some 15), some (some 16), some (some 17), none]), .inl (0, 54), .inl (0, 40), .inl (0, 108), .inl (0, 12), .inr (2, [some (some 1), some (some 19), none]), .inl (0, 90), .inr (0, [some (some 18), some (some 21)]), .inl (0, 2304), .inr (4, [some (some 18), some (some 23)]), .inl (0, 9), .inr (1, [some (some 1), some (some 25), some (some 26), some (some 27), some (some 28), none, none, none]), .inl (0, 9), .inl (0, 9), .inl (1, 18), .inl (1, 9), .inr (3, [some (some 1), some (some 13), some (some 30), some (some 31), some (some 32), some (some 33), some (some 34), some (some 35), some (some 36), some (some 37), some (some 38), none, none, none, none, none, none, none, none]), .inl (0, 40), .inl (0, 40), .inl (0, 40), .inl (0, 40), .inl (0, 80), .inl (0, 80), .inl (1, 80), .inl (1, 40), .inl (0, 40), .inr (6, [some (some 1), some (some 29), some (some 40), some (some 41), none, none]), .inl (2, 9760), .inl (0, 40), .inr (9, [some (some 43), none]), .inl (2, 200), .inr (8, [some (some 1), some (some 29), some (some 39), some (some 42), none, none]), .inr (10, [none, none, none, none, none, none, none, none, none, none, some (some 46), some (some 47), some (some 48), some (some 49), some (some 50), some (some 51)]), .inl (0, 200), .inl (0, 200), .inl (0, 160), .inl (0, 8), .inl (0, 8), .inl (0, 8), .inr (10, [none, none, none, none, none, none, none, none, none, none, some (some 53), some (some 54), some (some 55), some (some 56), some (some 57), some (some 58)]), .inl (0, 200), .inl (0, 200), .inl (0, 160), .inl (0, 8), .inl (0, 8), .inl (0, 8)]
def s45_ : fr_H := [.inr (11, [some (some 1), some (some 13), some (some 18), some (some 20), some (some 22), some (some 24), some (some 29), some (some 39), some (some 42), some (some 44), some (some 45), some (some 52), some none, some none, some none, some none, none, none]), .inr (7, [none, none, some (some 2), some (some 3), some (some 4), some (some 5), some (some 6), some (some 7), some (some 8), some (some 9), some (some 10), some (some 11), some (some 12)]), .inl (0, 6), .inl (0, 54), .inl (0, 40), .inl (0, 40), .inl (0, 40), .inl (0, 40), .inl (0, 40), .inl (0, 40), .inl (1, 40), .inl (0, 160), .inl (0, 160), .inr (5, [some (some 1), some (some 14), some (some 15), some (some 16), some (some 17), none]), .inl (0, 54), .inl (0, 40), .inl (0, 108), .inl (0, 12), .inr (2, [some (some 1), some (some 19), none]), .inl (0, 90), .inr (0, [some (some 18), some (some 21)]), .inl (0, 2304), .inr (4, [some (some 18), some (some 23)]), .inl (0, 9), .inr (1, [some (some 1), some (some 25), some (some 26), some (some 27), some (some 28), none, none, none]), .inl (0, 9), .inl (0, 9), .inl (1, 18), .inl (1, 9), .inr (3, [some (some 1), some (some 13), some (some 30), some (some 31), some (some 32), some (some 33), some (some 34), some (some 35), some (some 36), some (some 37), some (some 38), none, none, none, none, none, none, none, none]), .inl (0, 40), .inl (0, 40), .inl (0, 40), .inl (0, 40), .inl (0, 80), .inl (0, 80), .inl (1, 80), .inl (1, 40), .inl (0, 40), .inr (6, [some (some 1), some (some 29), some (some 40), some (some 41), none, none]), .inl (2, 9760), .inl (0, 40), .inr (9, [some (some 43), none]), .inl (2, 200), .inr (8, [some (some 1), some (some 29), some (some 39), some (some 42), none, none]), .inr (10, [none, none, none, none, none, none, none, none, none, none, some (some 46), some (some 47), some (some 48), some (some 49), some (some 50), some (some 51)]), .inl (0, 200), .inl (0, 200), .inl (0, 160), .inl (0, 8), .inl (0, 8), .inl (0, 8), .inr (10, [none, none, none, none, none, none, none, none, none, none, some (some 53), some (some 54), some (some 55), some (some 56), some (some 57), some (some 58)]), .inl (0, 200), .inl (0, 200), .inl (0, 160), .inl (0, 8), .inl (0, 8), .inl (0, 8), .inr (10, [none, none, none, none, none, none, none, none, none, none, some none, some none, some none, some none, some none, some none])]
def s46_ : fr_H := [.inr (11, [some (some 1), some (some 13), some (some 18), some (some 20), some (some 22), some (some 24), some (some 29), some (some 39), some (some 42), some (some 44), some (some 45), some (some 52), some none, some none, some none, some none, none, none]), .inr (7, [none, none, some (some 2), some (some 3), some (some 4), some (some 5), some (some 6), some (some 7), some (some 8), some (some 9), some (some 10), some (some 11), some (some 12)]), .inl (0, 6), .inl (0, 54), .inl (0, 40), .inl (0, 40), .inl (0, 40), .inl (0, 40), .inl (0, 40), .inl (0, 40), .inl (1, 40), .inl (0, 160), .inl (0, 160), .inr (5, [some (some 1), some (some 14), some (some 15), some (some 16), some (some 17), none]), .inl (0, 54), .inl (0, 40), .inl (0, 108), .inl (0, 12), .inr (2, [some (some 1), some (some 19), none]), .inl (0, 90), .inr (0, [some (some 18), some (some 21)]), .inl (0, 2304), .inr (4, [some (some 18), some (some 23)]), .inl (0, 9), .inr (1, [some (some 1), some (some 25), some (some 26), some (some 27), some (some 28), none, none, none]), .inl (0, 9), .inl (0, 9), .inl (1, 18), .inl (1, 9), .inr (3, [some (some 1), some (some 13), some (some 30), some (some 31), some (some 32), some (some 33), some (some 34), some (some 35), some (some 36), some (some 37), some (some 38), none, none, none, none, none, none, none, none]), .inl (0, 40), .inl (0, 40), .inl (0, 40), .inl (0, 40), .inl (0, 80), .inl (0, 80), .inl (1, 80), .inl (1, 40), .inl (0, 40), .inr (6, [some (some 1), some (some 29), some (some 40), some (some 41), none, none]), .inl (2, 9760), .inl (0, 40), .inr (9, [some (some 43), none]), .inl (2, 200), .inr (8, [some (some 1), some (some 29), some (some 39), some (some 42), none, none]), .inr (10, [none, none, none, none, none, none, none, none, none, none, some (some 46), some (some 47), some (some 48), some (some 49), some (some 50), some (some 51)]), .inl (0, 200), .inl (0, 200), .inl (0, 160), .inl (0, 8), .inl (0, 8), .inl (0, 8), .inr (10, [none, none, none, none, none, none, none, none, none, none, some (some 53), some (some 54), some (some 55), some (some 56), some (some 57), some (some 58)]), .inl (0, 200), .inl (0, 200), .inl (0, 160), .inl (0, 8), .inl (0, 8), .inl (0, 8), .inr (10, [none, none, none, none, none, none, none, none, none, none, some (some 60), some (some 61), some (some 62), some (some 63), some none, some none]), .inl (0, 200), .inl (0, 200), .inl (0, 160), .inl (0, 8)]
def s47_ : fr_H := [.inr (11, [some (some 1), some (some 13), some (some 18), some (some 20), some (some 22), some (some 24), some (some 29), some (some 39), some (some 42), some (some 44), some (some 45), some (some 52), some none, some none, some none, some none, none, none]), .inr (7, [none, none, some (some 2), some (some 3), some (some 4), some (some 5), some (some 6), some (some 7), some (some 8), some (some 9), some (some 10), some (some 11), some (some 12)]), .inl (0, 6), .inl (0, 54), .inl (0, 40), .inl (0, 40), .inl (0, 40), .inl (0, 40), .inl (0, 40), .inl (0, 40), .inl (1, 40), .inl (0, 160), .inl (0, 160), .inr (5, [some (some 1), some (some 14), some (some 15), some (some 16), some (some 17), none]), .inl (0, 54), .inl (0, 40), .inl (0, 108), .inl (0, 12), .inr (2, [some (some 1), some (some 19), none]), .inl (0, 90), .inr (0, [some (some 18), some (some 21)]), .inl (0, 2304), .inr (4, [some (some 18), some (some 23)]), .inl (0, 9), .inr (1, [some (some 1), some (some 25), some (some 26), some (some 27), some (some 28), none, none, none]), .inl (0, 9), .inl (0, 9), .inl (1, 18), .inl (1, 9), .inr (3, [some (some 1), some (some 13), some (some 30), some (some 31), some (some 32), some (some 33), some (some 34), some (some 35), some (some 36), some (some 37), some (some 38), none, none, none, none, none, none, none, none]), .inl (0, 40), .inl (0, 40), .inl (0, 40), .inl (0, 40), .inl (0, 80), .inl (0, 80), .inl (1, 80), .inl (1, 40), .inl (0, 40), .inr (6, [some (some 1), some (some 29), some (some 40), some (some 41), none, none]), .inl (2, 9760), .inl (0, 40), .inr (9, [some (some 43), none]), .inl (2, 200), .inr (8, [some (some 1), some (some 29), some (some 39), some (some 42), none, none]), .inr (10, [none, none, none, none, none, none, none, none, none, none, some (some 46), some (some 47), some (some 48), some (some 49), some (some 50), some (some 51)]), .inl (0, 200), .inl (0, 200), .inl (0, 160), .inl (0, 8), .inl (0, 8), .inl (0, 8), .inr (10, [none, none, none, none, none, none, none, none, none, none, some (some 53), some (some 54), some (some 55), some (some 56), some (some 57), some (some 58)]), .inl (0, 200), .inl (0, 200), .inl (0, 160), .inl (0, 8), .inl (0, 8), .inl (0, 8), .inr (10, [none, none, none, none, none, none, none, none, none, none, some (some 60), some (some 61), some (some 62), some (some 63), some (some 64), some (some 65)]), .inl (0, 200), .inl (0, 200), .inl (0, 160), .inl (0, 8), .inl (0, 8), .inl (0, 8)]
def s48_ : fr_H := [.inr (11, [some (some 1), some (some 13), some (some 18), some (some 20), some (some 22), some (some 24), some (some 29), some (some 39), some (some 42), some (some 44), some (some 45), some (some 52), some none, some none, some none, some none, none, none]), .inr (7, [none, none, some (some 2), some (some 3), some (some 4), some (some 5), some (some 6), some (some 7), some (some 8), some (some 9), some (some 10), some (some 11), some (some 12)]), .inl (0, 6), .inl (0, 54), .inl (0, 40), .inl (0, 40), .inl (0, 40), .inl (0, 40), .inl (0, 40), .inl (0, 40), .inl (1, 40), .inl (0, 160), .inl (0, 160), .inr (5, [some (some 1), some (some 14), some (some 15), some (some 16), some (some 17), none]), .inl (0, 54), .inl (0, 40), .inl (0, 108), .inl (0, 12), .inr (2, [some (some 1), some (some 19), none]), .inl (0, 90), .inr (0, [some (some 18), some (some 21)]), .inl (0, 2304), .inr (4, [some (some 18), some (some 23)]), .inl (0, 9), .inr (1, [some (some 1), some (some 25), some (some 26), some (some 27), some (some 28), none, none, none]), .inl (0, 9), .inl (0, 9), .inl (1, 18), .inl (1, 9), .inr (3, [some (some 1), some (some 13), some (some 30), some (some 31), some (some 32), some (some 33), some (some 34), some (some 35), some (some 36), some (some 37), some (some 38), none, none, none, none, none, none, none, none]), .inl (0, 40), .inl (0, 40), .inl (0, 40), .inl (0, 40), .inl (0, 80), .inl (0, 80), .inl (1, 80), .inl (1, 40), .inl (0, 40), .inr (6, [some (some 1), some (some 29), some (some 40), some (some 41), none, none]), .inl (2, 9760), .inl (0, 40), .inr (9, [some (some 43), none]), .inl (2, 200), .inr (8, [some (some 1), some (some 29), some (some 39), some (some 42), none, none]), .inr (10, [none, none, none, none, none, none, none, none, none, none, some (some 46), some (some 47), some (some 48), some (some 49), some (some 50), some (some 51)]), .inl (0, 200), .inl (0, 200), .inl (0, 160), .inl (0, 8), .inl (0, 8), .inl (0, 8), .inr (10, [none, none, none, none, none, none, none, none, none, none, some (some 53), some (some 54), some (some 55), some (some 56), some (some 57), some (some 58)]), .inl (0, 200), .inl (0, 200), .inl (0, 160), .inl (0, 8), .inl (0, 8), .inl (0, 8), .inr (10, [none, none, none, none, none, none, none, none, none, none, some (some 60), some (some 61), some (some 62), some (some 63), some (some 64), some (some 65)]), .inl (0, 200), .inl (0, 200), .inl (0, 160), .inl (0, 8), .inl (0, 8), .inl (0, 8)]
def s49_ : fr_H := [.inr (11, [some (some 1), some (some 13), some (some 18), some (some 20), some (some 22), some (some 24), some (some 29), some (some 39), some (some 42), some (some 44), some (some 45), some (some 52), some (some 59), some none, some none, some none, none, none]), .inr (7, [none, none, some (some 2), some (some 3), some (some 4), some (some 5), some (some 6), some (some 7), some (some 8), some (some 9), some (some 10), some (some 11), some (some 12)]), .inl (0, 6), .inl (0, 54), .inl (0, 40), .inl (0, 40), .inl (0, 40), .inl (0, 40), .inl (0, 40), .inl (0, 40), .inl (1, 40), .inl (0, 160), .inl (0, 160), .inr (5, [some (some 1), some (some 14), some (some 15), some (some 16), some (some 17), none]), .inl (0, 54), .inl (0, 40), .inl (0, 108), .inl (0, 12), .inr (2, [some (some 1), some (some 19), none]), .inl (0, 90), .inr (0, [some (some 18), some (some 21)]), .inl (0, 2304), .inr (4, [some (some 18), some (some 23)]), .inl (0, 9), .inr (1, [some (some 1), some (some 25), some (some 26), some (some 27), some (some 28), none, none, none]), .inl (0, 9), .inl (0, 9), .inl (1, 18), .inl (1, 9), .inr (3, [some (some 1), some (some 13), some (some 30), some (some 31), some (some 32), some (some 33), some (some 34), some (some 35), some (some 36), some (some 37), some (some 38), none, none, none, none, none, none, none, none]), .inl (0, 40), .inl (0, 40), .inl (0, 40), .inl (0, 40), .inl (0, 80), .inl (0, 80), .inl (1, 80), .inl (1, 40), .inl (0, 40), .inr (6, [some (some 1), some (some 29), some (some 40), some (some 41), none, none]), .inl (2, 9760), .inl (0, 40), .inr (9, [some (some 43), none]), .inl (2, 200), .inr (8, [some (some 1), some (some 29), some (some 39), some (some 42), none, none]), .inr (10, [none, none, none, none, none, none, none, none, none, none, some (some 46), some (some 47), some (some 48), some (some 49), some (some 50), some (some 51)]), .inl (0, 200), .inl (0, 200), .inl (0, 160), .inl (0, 8), .inl (0, 8), .inl (0, 8), .inr (10, [none, none, none, none, none, none, none, none, none, none, some (some 53), some (some 54), some (some 55), some (some 56), some (some 57), some (some 58)]), .inl (0, 200), .inl (0, 200), .inl (0, 160), .inl (0, 8), .inl (0, 8), .inl (0, 8), .inr (10, [none, none, none, none, none, none, none, none, none, none, some (some 60), some (some 61), some (some 62), some (some 63), some (some 64), some (some 65)]), .inl (0, 200), .inl (0, 200), .inl (0, 160), .inl (0, 8), .inl (0, 8), .inl (0, 8), .inr (10, [none, none, none, none, none, none, none, none, none, none, some none, some none, some none, some none, some none, some none])]
def s50_ : fr_H := [.inr (11, [some (some 1), some (some 13), some (some 18), some (some 20), some (some 22), some (some 24), some (some 29), some (some 39), some (some 42), some (some 44), some (some 45), some (some 52), some (some 59), some none, some none, some none, none, none]), .inr (7, [none, none, some (some 2), some (some 3), some (some 4), some (some 5), some (some 6), some (some 7), some (some 8), some (some 9), some (some 10), some (some 11), some (some 12)]), .inl (0, 6), .inl (0, 54), .inl (0, 40), .inl (0, 40), .inl (0, 40), .inl (0, 40), .inl (0, 40), .inl (0, 40), .inl (1, 40), .inl (0, 160), .inl (0, 160), .inr (5, [some (some 1), some (some 14), some (some 15), some (some 16), some (some 17), none]), .inl (0, 54), .inl (0, 40), .inl (0, 108), .inl (0, 12), .inr (2, [some (some 1), some (some 19), none]), .inl (0, 90), .inr (0, [some (some 18), some (some 21)]), .inl (0, 2304), .inr (4, [some (some 18), some (some 23)]), .inl (0, 9), .inr (1, [some (some 1), some (some 25), some (some 26), some (some 27), some (some 28), none, none, none]), .inl (0, 9), .inl (0, 9), .inl (1, 18), .inl (1, 9), .inr (3, [some (some 1), some (some 13), some (some 30), some (some 31), some (some 32), some (some 33), some (some 34), some (some 35), some (some 36), some (some 37), some (some 38), none, none, none, none, none, none, none, none]), .inl (0, 40), .inl (0, 40), .inl (0, 40), .inl (0, 40), .inl (0, 80), .inl (0, 80), .inl (1, 80), .inl (1, 40), .inl (0, 40), .inr (6, [some (some 1), some (some 29), some (some 40), some (some 41), none, none]), .inl (2, 9760), .inl (0, 40), .inr (9, [some (some 43), none]), .inl (2, 200), .inr (8, [some (some 1), some (some 29), some (some 39), some (some 42), none, none]), .inr (10, [none, none, none, none, none, none, none, none, none, none, some (some 46), some (some 47), some (some 48), some (some 49), some (some 50), some (some 51)]), .inl (0, 200), .inl (0, 200), .inl (0, 160), .inl (0, 8), .inl (0, 8), .inl (0, 8), .inr (10, [none, none, none, none, none, none, none, none, none, none, some (some 53), some (some 54), some (some 55), some (some 56), some (some 57), some (some 58)]), .inl (0, 200), .inl (0, 200), .inl (0, 160), .inl (0, 8), .inl (0, 8), .inl (0, 8), .inr (10, [none, none, none, none, none, none, none, none, none, none, some (some 60), some (some 61), some (some 62), some (some 63), some (some 64), some (some 65)]), .inl (0, 200), .inl (0, 200), .inl (0, 160), .inl (0, 8), .inl (0, 8), .inl (0, 8), .inr (10, [none, none, none, none, none, none, none, none, none, none, some (some 67), some (some 68), some (some 69), some (some 70), some none, some none]), .inl (0, 200), .inl (0, 200), .inl (0, 160), .inl (0, 8)]
def s51_ : fr_H := [.inr (11, [some (some 1), some (some 13), some (some 18), some (some 20), some (some 22), some (some 24), some (some 29), some (some 39), some (some 42), some (some 44), some (some 45), some (some 52), some (some 59), some none, some none, some none, none, none]), .inr (7, [none, none, some (some 2), some (some 3), some (some 4), some (some 5), some (some 6), some (some 7), some (some 8), some (some 9), some (some 10), some (some 11), some (some 12)]), .inl (0, 6), .inl (0, 54), .inl (0, 40), .inl (0, 40), .inl (0, 40), .inl (0, 40), .inl (0, 40), .inl (0, 40), .inl (1, 40), .inl (0, 160), .inl (0, 160), .inr (5, [some (some 1), some (some 14), some (some 15), some (some 16), some (some 17), none]), .inl (0, 54), .inl (0, 40), .inl (0, 108), .inl (0, 12), .inr (2, [some (some 1), some (some 19), none]), .inl (0, 90), .inr (0, [some (some 18), some (some 21)]), .inl (0, 2304), .inr (4, [some (some 18), some (some 23)]), .inl (0, 9), .inr (1, [some (some 1), some (some 25), some (some 26), some (some 27), some (some 28), none, none, none]), .inl (0, 9), .inl (0, 9), .inl (1, 18), .inl (1, 9), .inr (3, [some (some 1), some (some 13), some (some 30), some (some 31), some (some 32), some (some 33), some (some 34), some (some 35), some (some 36), some (some 37), some (some 38), none, none, none, none, none, none, none, none]), .inl (0, 40), .inl (0, 40), .inl (0, 40), .inl (0, 40), .inl (0, 80), .inl (0, 80), .inl (1, 80), .inl (1, 40), .inl (0, 40), .inr (6, [some (some 1), some (some 29), some (some 40), some (some 41), none, none]), .inl (2, 9760), .inl (0, 40), .inr (9, [some (some 43), none]), .inl (2, 200), .inr (8, [some (some 1), some (some 29), some (some 39), some (some 42), none, none]), .inr (10, [none, none, none, none, none, none, none, none, none, none, some (some 46), some (some 47), some (some 48), some (some 49), some (some 50), some (some 51)]), .inl (0, 200), .inl (0, 200), .inl (0, 160), .inl (0, 8), .inl (0, 8), .inl (0, 8), .inr (10, [none, none, none, none, none, none, none, none, none, none, some (some 53), some (some 54), some (some 55), some (some 56), some (some 57), some (some 58)]), .inl (0, 200), .inl (0, 200), .inl (0, 160), .inl (0, 8), .inl (0, 8), .inl (0, 8), .inr (10, [none, none, none, none, none, none, none, none, none, none, some (some 60), some (some 61), some (some 62), some (some 63), some (some 64), some (some 65)]), .inl (0, 200), .inl (0, 200), .inl (0, 160), .inl (0, 8), .inl (0, 8), .inl (0, 8), .inr (10, [none, none, none, none, none, none, none, none, none, none, some (some 67), some (some 68), some (some 69), some (some 70), some (some 71), some (some 72)]), .inl (0, 200), .inl (0, 200), .inl (0, 160), .inl (0, 8), .inl (0, 8), .inl (0, 8)]
def s52_ : fr_H := [.inr (11, [some (some 1), some (some 13), some (some 18), some (some 20), some (some 22), some (some 24), some (some 29), some (some 39), some (some 42), some (some 44), some (some 45), some (some 52), some (some 59), some none, some none, some none, none, none]), .inr (7, [none, none, some (some 2), some (some 3), some (some 4), some (some 5), some (some 6), some (some 7), some (some 8), some (some 9), some (some 10), some (some 11), some (some 12)]), .inl (0, 6), .inl (0, 54), .inl (0, 40), .inl (0, 40), .inl (0, 40), .inl (0, 40), .inl (0, 40), .inl (0, 40), .inl (1, 40), .inl (0, 160), .inl (0, 160), .inr (5, [some (some 1), some (some 14), some (some 15), some (some 16), some (some 17), none]), .inl (0, 54), .inl (0, 40), .inl (0, 108), .inl (0, 12), .inr (2, [some (some 1), some (some 19), none]), .inl (0, 90), .inr (0, [some (some 18), some (some 21)]), .inl (0, 2304), .inr (4, [some (some 18), some (some 23)]), .inl (0, 9), .inr (1, [some (some 1), some (some 25), some (some 26), some (some 27), some (some 28), none, none, none]), .inl (0, 9), .inl (0, 9), .inl (1, 18), .inl (1, 9), .inr (3, [some (some 1), some (some 13), some (some 30), some (some 31), some (some 32), some (some 33), some (some 34), some (some 35), some (some 36), some (some 37), some (some 38), none, none, none, none, none, none, none, none]), .inl (0, 40), .inl (0, 40), .inl (0, 40), .inl (0, 40), .inl (0, 80), .inl (0, 80), .inl (1, 80), .inl (1, 40), .inl (0, 40), .inr (6, [some (some 1), some (some 29), some (some 40), some (some 41), none, none]), .inl (2, 9760), .inl (0, 40), .inr (9, [some (some 43), none]), .inl (2, 200), .inr (8, [some (some 1), some (some 29), some (some 39), some (some 42), none, none]), .inr (10, [none, none, none, none, none, none, none, none, none, none, some (some 46), some (some 47), some (some 48), some (some 49), some (some 50), some (some 51)]), .inl (0, 200), .inl (0, 200), .inl (0, 160), .inl (0, 8), .inl (0, 8), .inl (0, 8), .inr (10, [none, none, none, none, none, none, none, none, none, none, some (some 53), some (some 54), some (some 55), some (some 56), some (some 57), some (some 58)]), .inl (0, 200), .inl (0, 200), .inl (0, 160), .inl (0, 8), .inl (0, 8), .inl (0, 8), .inr (10, [none, none, none, none, none, none, none, none, none, none, some (some 60), some (some 61), some (some 62), some (some 63), some (some 64), some (some 65)]), .inl (0, 200), .inl (0, 200), .inl (0, 160), .inl (0, 8), .inl (0, 8), .inl (0, 8), .inr (10, [none, none, none, none, none, none, none, none, none, none, some (some 67), some (some 68), some (some 69), some (some 70), some (some 71), some (some 72)]), .inl (0, 200), .inl (0, 200), .inl (0, 160), .inl (0, 8), .inl (0, 8), .inl (0, 8)]
def s53_ : fr_H := [.inr (11, [some (some 1), some (some 13), some (some 18), some (some 20), some (some 22), some (some 24), some (some 29), some (some 39), some (some 42), some (some 44), some (some 45), some (some 52), some (some 59), some (some 66), some (some 73), some (some 74), none, none]), .inr (7, [none, none, some (some 2), some (some 3), some (some 4), some (some 5), some (some 6), some (some 7), some (some 8), some (some 9), some (some 10), some (some 11), some (some 12)]), .inl (0, 6), .inl (0, 54), .inl (0, 40), .inl (0, 40), .inl (0, 40), .inl (0, 40), .inl (0, 40), .inl (0, 40), .inl (1, 40), .inl (0, 160), .inl (0, 160), .inr (5, [some (some 1), some (some 14), some (some 15), some (some 16), some (some 17), none]), .inl (0, 54), .inl (0, 40), .inl (0, 108), .inl (0, 12), .inr (2, [some (some 1), some (some 19), none]), .inl (0, 90), .inr (0, [some (some 18), some (some 21)]), .inl (0, 2304), .inr (4, [some (some 18), some (some 23)]), .inl (0, 9), .inr (1, [some (some 1), some (some 25), some (some 26), some (some 27), some (some 28), none, none, none]), .inl (0, 9), .inl (0, 9), .inl (1, 18), .inl (1, 9), .inr (3, [some (some 1), some (some 13), some (some 30), some (some 31), some (some 32), some (some 33), some (some 34), some (some 35), some (some 36), some (some 37), some (some 38), none, none, none, none, none, none, none, none]), .inl (0, 40), .inl (0, 40), .inl (0, 40), .inl (0, 40), .inl (0, 80), .inl (0, 80), .inl (1, 80), .inl (1, 40), .inl (0, 40), .inr (6, [some (some 1), some (some 29), some (some 40), some (some 41), none, none]), .inl (2, 9760), .inl (0, 40), .inr (9, [some (some 43), none]), .inl (2, 200), .inr (8, [some (some 1), some (some 29), some (some 39), some (some 42), none, none]), .inr (10, [none, none, none, none, none, none, none, none, none, none, some (some 46), some (some 47), some (some 48), some (some 49), some (some 50), some (some 51)]), .inl (0, 200), .inl (0, 200), .inl (0, 160), .inl (0, 8), .inl (0, 8), .inl (0, 8), .inr (10, [none, none, none, none, none, none, none, none, none, none, some (some 53), some (some 54), some (some 55), some (some 56), some (some 57), some (some 58)]), .inl (0, 200), .inl (0, 200), .inl (0, 160), .inl (0, 8), .inl (0, 8), .inl (0, 8), .inr (10, [none, none, none, none, none, none, none, none, none, none, some (some 60), some (some 61), some (some 62), some (some 63), some (some 64), some (some 65)]), .inl (0, 200), .inl (0, 200), .inl (0, 160), .inl (0, 8), .inl (0, 8), .inl (0, 8), .inr (10, [none, none, none, none, none, none, none, none, none, none, some (some 67), some (some 68), some (some 69), some (some 70), some (some 71), some (some 72)]), .inl (0, 200), .inl (0, 200), .inl (0, 160), .inl (0, 8), .inl (0, 8), .inl (0, 8), .inl (0, 4), .inl (0, 9)]
def s54_ : fr_H := [.inr (11, [some (some 1), some (some 13), some (some 18), some (some 20), some (some 22), some (some 24), some (some 29), some (some 39), some (some 42), some (some 44), some (some 45), some (some 52), some (some 59), some (some 66), some (some 73), some (some 74), none, none]), .inr (7, [none, none, some (some 2), some (some 3), some (some 4), some (some 5), some (some 6), some (some 7), some (some 8), some (some 9), some (some 10), some (some 11), some (some 12)]), .inl (0, 6), .inl (0, 54), .inl (0, 40), .inl (0, 40), .inl (0, 40), .inl (0, 40), .inl (0, 40), .inl (0, 40), .inl (1, 40), .inl (0, 160), .inl (0, 160), .inr (5, [some (some 1), some (some 14), some (some 15), some (some 16), some (some 17), none]), .inl (0, 54), .inl (0, 40), .inl (0, 108), .inl (0, 12), .inr (2, [some (some 1), some (some 19), none]), .inl (0, 90), .inr (0, [some (some 18), some (some 21)]), .inl (0, 2304), .inr (4, [some (some 18), some (some 23)]), .inl (0, 9), .inr (1, [some (some 1), some (some 25), some (some 26), some (some 27), some (some 28), none, none, none]), .inl (0, 9), .inl (0, 9), .inl (1, 18), .inl (1, 9), .inr (3, [some (some 1), some (some 13), some (some 30), some (some 31), some (some 32), some (some 33), some (some 34), some (some 35), some (some 36), some (some 37), some (some 38), none, none, none, none, none, none, none, none]), .inl (0, 40), .inl (0, 40), .inl (0, 40), .inl (0, 40), .inl (0, 80), .inl (0, 80), .inl (1, 80), .inl (1, 40), .inl (0, 40), .inr (6, [some (some 1), some (some 29), some (some 40), some (some 41), none, none]), .inl (2, 9760), .inl (0, 40), .inr (9, [some (some 43), none]), .inl (2, 200), .inr (8, [some (some 1), some (some 29), some (some 39), some (some 42), none, none]), .inr (10, [none, none, none, none, none, none, none, none, none, none, some (some 46), some (some 47), some (some 48), some (some 49), some (some 50), some (some 51)]), .inl (0, 200), .inl (0, 200), .inl (0, 160), .inl (0, 8), .inl (0, 8), .inl (0, 8), .inr (10, [none, none, none, none, none, none, none, none, none, none, some (some 53), some (some 54), some (some 55), some (some 56), some (some 57), some (some 58)]), .inl (0, 200), .inl (0, 200), .inl (0, 160), .inl (0, 8), .inl (0, 8), .inl (0, 8), .inr (10, [none, none, none, none, none, none, none, none, none, none, some (some 60), some (some 61), some (some 62), some (some 63), some (some 64), some (some 65)]), .inl (0, 200), .inl (0, 200), .inl (0, 160), .inl (0, 8), .inl (0, 8), .inl (0, 8), .inr (10, [none, none, none, none, none, none, none, none, none, none, some (some 67), some (some 68), some (some 69), some (some 70), some (some 71), some (some 72)]), .inl (0, 200), .inl (0, 200), .inl (0, 160), .inl (0, 8), .inl (0, 8), .inl (0, 8), .inl (0, 4), .inl (0, 9), .inr (12, [none, some none, some none, some none, none, some none, some none, some none, some none, some none, some none, some none, some none, none, none, none, some none, none, none, some none, some none, some none, some none, some none, some none, some none, some none, some none, none, some none, some none, some none, some none, some none, some none, some none, some none, none, none, none, some none, none, some none, some none, some none, some none, some none, some none, some none, some none, none, some none, none, some none, some none, some none, some none])]
def s55_ : fr_H := [.inr (11, [some (some 1), some (some 13), some (some 18), some (some 20), some (some 22), some (some 24), some (some 29), some (some 39), some (some 42), some (some 44), some (some 45), some (some 52), some (some 59), some (some 66), some (some 73), some (some 74), none, none]), .inr (7, [none, none, some (some 2), some (some 3), some (some 4), some (some 5), some (some 6), some (some 7), some (some 8), some (some 9), some (some 10), some (some 11), some (some 12)]), .inl (0, 6), .inl (0, 54), .inl (0, 40), .inl (0, 40), .inl (0, 40), .inl (0, 40), .inl (0, 40), .inl (0, 40), .inl (1, 40), .inl (0, 160), .inl (0, 160), .inr (5, [some (some 1), some (some 14), some (some 15), some (some 16), some (some 17), none]), .inl (0, 54), .inl (0, 40), .inl (0, 108), .inl (0, 12), .inr (2, [some (some 1), some (some 19), none]), .inl (0, 90), .inr (0, [some (some 18), some (some 21)]), .inl (0, 2304), .inr (4, [some (some 18), some (some 23)]), .inl (0, 9), .inr (1, [some (some 1), some (some 25), some (some 26), some (some 27), some (some 28), none, none, none]), .inl (0, 9), .inl (0, 9), .inl (1, 18), .inl (1, 9), .inr (3, [some (some 1), some (some 13), some (some 30), some (some 31), some (some 32), some (some 33), some (some 34), some (some 35), some (some 36), some (some 37), some (some 38), none, none, none, none, none, none, none, none]), .inl (0, 40), .inl (0, 40), .inl (0, 40), .inl (0, 40), .inl (0, 80), .inl (0, 80), .inl (1, 80), .inl (1, 40), .inl (0, 40), .inr (6, [some (some 1), some (some 29), some (some 40), some (some 41), none, none]), .inl (2, 9760), .inl (0, 40), .inr (9, [some (some 43), none]), .inl (2, 200), .inr (8, [some (some 1), some (some 29), some (some 39), some (some 42), none, none]), .inr (10, [none, none, none, none, none, none, none, none, none, none, some (some 46), some (some 47), some (some 48), some (some 49), some (some 50), some (some 51)]), .inl (0, 200), .inl (0, 200), .inl (0, 160), .inl (0, 8), .inl (0, 8), .inl (0, 8), .inr (10, [none, none, none, none, none, none, none, none, none, none, some (some 53), some (some 54), some (some 55), some (some 56), some (some 57), some (some 58)]), .inl (0, 200), .inl (0, 200), .inl (0, 160), .inl (0, 8), .inl (0, 8), .inl (0, 8), .inr (10, [none, none, none, none, none, none, none, none, none, none, some (some 60), some (some 61), some (some 62), some (some 63), some (some 64), some (some 65)]), .inl (0, 200), .inl (0, 200), .inl (0, 160), .inl (0, 8), .inl (0, 8), .inl (0, 8), .inr (10, [none, none, none, none, none, none, none, none, none, none, some (some 67), some (some 68), some (some 69), some (some 70), some (some 71), some (some 72)]), .inl (0, 200), .inl (0, 200), .inl (0, 160), .inl (0, 8), .inl (0, 8), .inl (0, 8), .inl (0, 4), .inl (0, 9), .inr (12, [none, some (some 76), some (some 77), some (some 78), none, some (some 79), some none, some none, some none, some none, some none, some none, some none, none, none, none, some none, none, none, some none, some none, some none, some none, some none, some none, some none, some none, some none, none, some none, some none, some none, some none, some none, some none, some none, some none, none, none, none, some none, none, some none, some none, some none, some none, some none, some none, some none, some none, none, some none, none, some none, some none, some none, some none]), .inl (0, 6), .inl (0, 54), .inl (0, 54), .inl (0, 40)]
def s56_ : fr_H := [.inr (11, [some (some 1), some (some 13), some (some 18), some (some 20), some (some 22), some (some 24), some (some 29), some (some 39), some (some 42), some (some 44), some (some 45), some (some 52), some (some 59), some (some 66), some (some 73), some (some 74), none, none]), .inr (7, [none, none, some (some 2), some (some 3), some (some 4), some (some 5), some (some 6), some (some 7), some (some 8), some (some 9), some (some 10), some (some 11), some (some 12)]), .inl (0, 6), .inl (0, 54), .inl (0, 40), .inl (0, 40), .inl (0, 40), .inl (0, 40), .inl (0, 40), .inl (0, 40), .inl (1, 40), .inl (0, 160), .inl (0, 160), .inr (5, [some (some 1), some (some 14), some (some 15), some (some 16), some (some 17), none]), .inl (0, 54), .inl (0, 40), .inl (0, 108), .inl (0, 12), .inr (2, [some (some 1), some (some 19), none]), .inl (0, 90), .inr (0, [some (some 18), some (some 21)]), .inl (0, 2304), .inr (4, [some (some 18), some (some 23)]), .inl (0, 9), .inr (1, [some (some 1), some (some 25), some (some 26), some (some 27), some (some 28), none, none, none]), .inl (0, 9), .inl (0, 9), .inl (1, 18), .inl (1, 9), .inr (3, [some (some 1), some (some 13), some (some 30), some (some 31), some (some 32), some (some 33), some (some 34), some (some 35), some (some 36), some (some 37), some (some 38), none, none, none, none, none, none, none, none]), .inl (0, 40), .inl (0, 40), .inl (0, 40), .inl (0, 40), .inl (0, 80), .inl (0, 80), .inl (1, 80), .inl (1, 40), .inl (0, 40), .inr (6, [some (some 1), some (some 29), some (some 40), some (some 41), none, none]), .inl (2, 9760), .inl (0, 40), .inr (9, [some (some 43), none]), .inl (2, 200), .inr (8, [some (some 1), some (some 29), some (some 39), some (some 42), none, none]), .inr (10, [none, none, none, none, none, none, none, none, none, none, some (some 46), some (some 47), some (some 48), some (some 49), some (some 50), some (some 51)]), .inl (0, 200), .inl (0, 200), .inl (0, 160), .inl (0, 8), .inl (0, 8), .inl (0, 8), .inr (10, [none, none, none, none, none, none, none, none, none, none, some (some 53), some (some 54), some (some 55), some (some 56), some (some 57), some (some 58)]), .inl (0, 200), .inl (0, 200), .inl (0, 160), .inl (0, 8), .inl (0, 8), .inl (0, 8), .inr (10, [none, none, none, none, none, none, none, none, none, none, some (some 60), some (some 61), some (some 62), some (some 63), some (some 64), some (some 65)]), .inl (0, 200), .inl (0, 200), .inl (0, 160), .inl (0, 8), .inl (0, 8), .inl (0, 8), .inr (10, [none, none, none, none, none, none, none, none, none, none, some (some 67), some (some 68), some (some 69), some (some 70), some (some 71), some (some 72)]), .inl (0, 200), .inl (0, 200), .inl (0, 160), .inl (0, 8), .inl (0, 8), .inl (0, 8), .inl (0, 4), .inl (0, 9), .inr (12, [none, some (some 76), some (some 77), some (some 78), none, some (some 79), some (some 80), some (some 81), some (some 82), some (some 83), some none, some none, some none, none, none, none, some none, none, none, some none, some none, some none, some none, some none, some none, some none, some none, some none, none, some none, some none, some none, some none, some none, some none, some none, some none, none, none, none, some none, none, some none, some none, some none, some none, some none, some none, some none, some none, none, some none, none, some none, some none, some none, some none]), .inl (0, 6), .inl (0, 54), .inl (0, 54), .inl (0, 40), .inl (0, 40), .inl (1, 40), .inl (0, 40), .inl (0, 40)]
def s57_ : fr_H := [.inr (11, [some (some 1), some (some 13), some (some 18), some (some 20), some (some 22), some (some 24), some (some 29), some (some 39), some (some 42), some (some 44), some (some 45), some (some 52), some (some 59), some (some 66), some (some 73), some (some 74), none, none]), .inr (7, [none, none, some (some 2), some (some 3), some (some 4), some (some 5), some (some 6), some (some 7), some (some 8), some (some 9), some (some 10), some (some 11), some (some 12)]), .inl (0, 6), .inl (0, 54), .inl (0, 40), .inl (0, 40), .inl (0, 40), .inl (0, 40), .inl (0, 40), .inl (0, 40), .inl (1, 40), .inl (0, 160), .inl (0, 160), .inr (5, [some (some 1), some (some 14), some (some 15), some (some 16), some (some 17), none]), .inl (0, 54), .inl (0, 40), .inl (0, 108), .inl (0, 12), .inr (2, [some (some 1), some (some 19), none]), .inl (0, 90), .inr (0, [some (some 18), some (some 21)]), .inl (0, 2304), .inr (4, [some (some 18), some (some 23)]), .inl (0, 9), .inr (1, [some (some 1), some (some 25), some (some 26), some (some 27), some (some 28), none, none, none]), .inl (0, 9), .inl (0, 9), .inl (1, 18), .inl (1, 9), .inr (3, [some (some 1), some (some 13), some (some 30), some (some 31), some (some 32), some (some 33), some (some 34), some (some 35), some (some 36), some (some 37), some (some 38), none, none, none, none, none, none, none, none]), .inl (0, 40), .inl (0, 40), .inl (0, 40), .inl (0, 40), .inl (0, 80), .inl (0, 80), .inl (1, 80), .inl (1, 40), .inl (0, 40), .inr (6, [some (some 1), some (some 29), some (some 40), some (some 41), none, none]), .inl (2, 9760), .inl (0, 40), .inr (9, [some (some 43), none]), .inl (2, 200), .inr (8, [some (some 1), some (some 29), some (some 39), some (some 42), none, none]), .inr (10, [none, none, none, none, none, none, none, none, none, none, some (some 46), some (some 47), some (some 48), some (some 49), some (some 50), some (some 51)]), .inl (0, 200), .inl (0, 200), .inl (0, 160), .inl (0, 8), .inl (0, 8), .inl (0, 8), .inr (10, [none, none, none, none, none, none, none, none, none, none, some (some 53), some (some 54), some (some 55), some (some 56), some (some 57), some (some 58)]), .inl (0, 200), .inl (0, 200), .inl (0, 160), .inl (0, 8), .inl (0, 8), .inl (0, 8), .inr (10, [none, none, none, none, none, none, none, none, none, none, some (some 60), some (some 61), some (some 62), some (some 63), some (some 64), some (some 65)]), .inl (0, 200), .inl (0, 200), .inl (0, 160), .inl (0, 8), .inl (0, 8), .inl (0, 8), .inr (10, [none, none, none, none, none, none, none, none, none, none, some (some 67), some (some 68), some (some 69), some (some 70), some (some 71), some (some 72)]), .inl (0, 200), .inl (0, 200), .inl (0, 160), .inl (0, 8), .inl (0, 8), .inl (0, 8), .inl (0, 4), .inl (0, 9), .inr (12, [none, some (some 76), some (some 77), some (some 78), none, some (some 79), some (some 80), some (some 81), some (some 82), some (some 83), some (some 84), some (some 85), some (some 86), none, none, none, some none, none, none, some none, some none, some none, some none, some none, some none, some none, some none, some none, none, some none, some none, some none, some none, some none, some none, some none, some none, none, none, none, some none, none, some none, some none, some none, some none, some none, some none, some none, some none, none, some none, none, some none, some none, some none, some none]), .inl (0, 6), .inl (0, 54), .inl (0, 54), .inl (0, 40), .inl (0, 40), .inl (1, 40), .inl (0, 40), .inl (0, 40), .inl (0, 160), .inl (0, 160), .inl (0, 40), .inl (0, 200)]
def s58_ : fr_H := [.inr (11, [some (some 1), some (some 13), some (some 18), some (some 20), some (some 22), some (some 24), some (some 29), some (some 39), some (some 42), some (some 44), some (some 45), some (some 52), some (some 59), some (some 66), some (some 73), some (some 74), none, none]), .inr (7, [none, none, some (some 2), some (some 3), some (some 4), some (some 5), some (some 6), some (some 7), some (some 8), some (some 9), some (some 10), some (some 11), some (some 12)]), .inl (0, 6), .inl (0, 54), .inl (0, 40), .inl (0, 40), .inl (0, 40), .inl (0, 40), .inl (0, 40), .inl (0, 40), .inl (1, 40), .inl (0, 160), .inl (0, 160), .inr (5, [some (some 1), some (some 14), some (some 15), some (some 16), some (some 17), none]), .inl (0, 54), .inl (0, 40), .inl (0, 108), .inl (0, 12), .inr (2, [some (some 1), some (some 19), none]), .inl (0, 90), .inr (0, [some (some 18), some (some 21)]), .inl (0, 2304), .inr (4, [some (some 18), some (some 23)]), .inl (0, 9), .inr (1, [some (some 1), some (some 25), some (some 26), some (some 27), some (some 28), none, none, none]), .inl (0, 9), .inl (0, 9), .inl (1, 18), .inl (1, 9), .inr (3, [some (some 1), some (some 13), some (some 30), some (some 31), some (some 32), some (some 33), some (some 34), some (some 35), some (some 36), some (some 37), some (some 38), none, none, none, none, none, none, none, none]), .inl (0, 40), .inl (0, 40), .inl (0, 40), .inl (0, 40), .inl (0, 80), .inl (0, 80), .inl (1, 80), .inl (1, 40), .inl (0, 40), .inr (6, [some (some 1), some (some 29), some (some 40), some (some 41), none, none]), .inl (2, 9760), .inl (0, 40), .inr (9, [some (some 43), none]), .inl (2, 200), .inr (8, [some (some 1), some (some 29), some (some 39), some (some 42), none, none]), .inr (10, [none, none, none, none, none, none, none, none, none, none, some (some 46), some (some 47), some (some 48), some (some 49), some (some 50), some (some 51)]), .inl (0, 200), .inl (0, 200), .inl (0, 160), .inl (0, 8), .inl (0, 8), .inl (0, 8), .inr (10, [none, none, none, none, none, none, none, none, none, none, some (some 53), some (some 54), some (some 55), some (some 56), some (some 57), some (some 58)]), .inl (0, 200), .inl (0, 200), .inl (0, 160), .inl (0, 8), .inl (0, 8), .inl (0, 8), .inr (10, [none, none, none, none, none, none, none, none, none, none, some (some 60), some (some 61), some (some 62), some (some 63), some (some 64), some (some 65)]), .inl (0, 200), .inl (0, 200), .inl (0, 160), .inl (0, 8), .inl (0, 8), .inl (0, 8), .inr (10, [none, none, none, none, none, none, none, none, none, none, some (some 67), some (some 68), some (some 69), some (some 70), some (some 71), some (some 72)]), .inl (0, 200), .inl (0, 200), .inl (0, 160), .inl (0, 8), .inl (0, 8), .inl (0, 8), .inl (0, 4), .inl (0, 9), .inr (12, [none, some (some 76), some (some 77), some (some 78), none, some (some 79), some (some 80), some (some 81), some (some 82), some (some 83), some (some 84), some (some 85), some (some 86), none, none, none, some (some 87), none, none, some (some 88), some (some 89), some (some 90), some none, some none, some none, some none, some none, some none, none, some none, some none, some none, some none, some none, some none, some none, some none, none, none, none, some none, none, some none, some none, some none, some none, some none, some none, some none, some none, none, some none, none, some none, some none, some none, some none]), .inl (0, 6), .inl (0, 54), .inl (0, 54), .inl (0, 40), .inl (0, 40), .inl (1, 40), .inl (0, 40), .inl (0, 40), .inl (0, 160), .inl (0, 160), .inl (0, 40), .inl (0, 200), .inl (0, 12), .inl (0, 108), .inl (0, 4), .inl (0, 4608)]
def s59_ : fr_H := [.inr (11, [some (some 1), some (some 13), some (some 18), some (some 20), some (some 22), some (some 24), some (some 29), some (some 39), some (some 42), some (some 44), some (some 45), some (some 52), some (some 59), some (some 66), some (some 73), some (some 74), none, none]), .inr (7, [none, none, some (some 2), some (some 3), some (some 4), some (some 5), some (some 6), some (some 7), some (some 8), some (some 9), some (some 10), some (some 11), some (some 12)]), .inl (0, 6), .inl (0, 54), .inl (0, 40), .inl (0, 40), .inl (0, 40), .inl (0, 40), .inl (0, 40), .inl (0, 40), .inl (1, 40), .inl (0, 160), .inl (0, 160), .inr (5, [some (some 1), some (some 14), some (some 15), some (some 16), some (some 17), none]), .inl (0, 54), .inl (0, 40), .inl (0, 108), .inl (0, 12), .inr (2, [some (some 1), some (some 19), none]), .inl (0, 90), .inr (0, [some (some 18), some (some 21)]), .inl (0, 2304), .inr (4, [some (some 18), some (some 23)]), .inl (0, 9), .inr (1, [some (some 1), some (some 25), some (some 26), some (some 27), some (some 28), none, none, none]), .inl (0, 9), .inl (0, 9), .inl (1, 18), .inl (1, 9), .inr (3, [some (some 1), some (some 13), some (some 30), some (some 31), some (some 32), some (some 33), some (some 34), some (some 35), some (some 36), some (some 37), some (some 38), none, none, none, none, none, none, none, none]), .inl (0, 40), .inl (0, 40), .inl (0, 40), .inl (0, 40), .inl (0, 80), .inl (0, 80), .inl (1, 80), .inl (1, 40), .inl (0, 40), .inr (6, [some (some 1), some (some 29), some (some 40), some (some 41), none, none]), .inl (2, 9760), .inl (0, 40), .inr (9, [some (some 43), none]), .inl (2, 200), .inr (8, [some (some 1), some (some 29), some (some 39), some (some 42), none, none]), .inr (10, [none, none, none, none, none, none, none, none, none, none, some (some 46), some (some 47), some (some 48), some (some 49), some (some 50), some (some 51)]), .inl (0, 200), .inl (0, 200), .inl (0, 160), .inl (0, 8), .inl (0, 8), .inl (0, 8), .inr (10, [none, none, none, none, none, none, none, none, none, none, some (some 53), some (some 54), some (some 55), some (some 56), some (some 57), some (some 58)]), .inl (0, 200), .inl (0, 200), .inl (0, 160), .inl (0, 8), .inl (0, 8), .inl (0, 8), .inr (10, [none, none, none, none, none, none, none, none, none, none, some (some 60), some (some 61), some (some 62), some (some 63), some (some 64), some (some 65)]), .inl (0, 200), .inl (0, 200), .inl (0, 160), .inl (0, 8), .inl (0, 8), .inl (0, 8), .inr (10, [none, none, none, none, none, none, none, none, none, none, some (some 67), some (some 68), some (some 69), some (some 70), some (some 71), some (some 72)]), .inl (0, 200), .inl (0, 200), .inl (0, 160), .inl (0, 8), .inl (0, 8), .inl (0, 8), .inl (0, 4), .inl (0, 9), .inr (12, [none, some (some 76), some (some 77), some (some 78), none, some (some 79), some (some 80), some (some 81), some (some 82), some (some 83), some (some 84), some (some 85), some (some 86), none, none, none, some (some 87), none, none, some (some 88), some (some 89), some (some 90), some (some 91), some (some 92), some (some 93), some (some 94), some none, some none, none, some none, some none, some none, some none, some none, some none, some none, some none, none, none, none, some none, none, some none, some none, some none, some none, some none, some none, some none, some none, none, some none, none, some none, some none, some none, some none]), .inl (0, 6), .inl (0, 54), .inl (0, 54), .inl (0, 40), .inl (0, 40), .inl (1, 40), .inl (0, 40), .inl (0, 40), .inl (0, 160), .inl (0, 160), .inl (0, 40), .inl (0, 200), .inl (0, 12), .inl (0, 108), .inl (0, 4), .inl (0, 4608), .inl (0, 40), .inl (0, 40), .inl (1, 160), .inl (1, 40)]
def s60_ : fr_H := [.inr (11, [some (some 1), some (some 13), some (some 18), some (some 20), some (some 22), some (some 24), some (some 29), some (some 39), some (some 42), some (some 44), some (some 45), some (some 52), some (some 59), some (some 66), some (some 73), some (some 74), none, none]), .inr (7, [none, none, some (some 2), some (some 3), some (some 4), some (some 5), some (some 6), some (some 7), some (some 8), some (some 9), some (some 10), some (some 11), some (some 12)]), .inl (0, 6), .inl (0, 54), .inl (0, 40), .inl (0, 40), .inl (0, 40), .inl (0, 40), .inl (0, 40), .inl (0, 40), .inl (1, 40), .inl (0, 160), .inl (0, 160), .inr (5, [some (some 1), some (some 14), some (some 15), some (some 16), some (some 17), none]), .inl (0, 54), .inl (0, 40), .inl (0, 108), .inl (0, 12), .inr (2, [some (some 1), some (some 19), none]), .inl (0, 90), .inr (0, [some (some 18), some (some 21)]), .inl (0, 2304), .inr (4, [some (some 18), some (some 23)]), .inl (0, 9), .inr (1, [some (some 1), some (some 25), some (some 26), some (some 27), some (some 28), none, none, none]), .inl (0, 9), .inl (0, 9), .inl (1, 18), .inl (1, 9), .inr (3, [some (some 1), some (some 13), some (some 30), some (some 31), some (some 32), some (some 33), some (some 34), some (some 35), some (some 36), some (some 37), some (some 38), none, none, none, none, none, none, none, none]), .inl (0, 40), .inl (0, 40), .inl (0, 40), .inl (0, 40), .inl (0, 80), .inl (0, 80), .inl (1, 80), .inl (1, 40), .inl (0, 40), .inr (6, [some (some 1), some (some 29), some (some 40), some (some 41), none, none]), .inl (2, 9760), .inl (0, 40), .inr (9, [some (some 43), none]), .inl (2, 200), .inr (8, [some (some 1), some (some 29), some (some 39), some (some 42), none, none]), .inr (10, [none, none, none, none, none, none, none, none, none, none, some (some 46), some (some 47), some (some 48), some (some 49), some (some 50), some (some 51)]), .inl (0, 200), .inl (0, 200), .inl (0, 160), .inl (0, 8), .inl (0, 8), .inl (0, 8), .inr (10, [none, none, none, none, none, none, none, none, none, none, some (some 53), some (some 54), some (some 55), some (some 56), some (some 57), some (some 58)]), .inl (0, 200), .inl (0, 200), .inl (0, 160), .inl (0, 8), .inl (0, 8), .inl (0, 8), .inr (10, [none, none, none, none, none, none, none, none, none, none, some (some 60), some (some 61), some (some 62), some (some 63), some (some 64), some (some 65)]), .inl (0, 200), .inl (0, 200), .inl (0, 160), .inl (0, 8), .inl (0, 8), .inl (0, 8), .inr (10, [none, none, none, none, none, none, none, none, none, none, some (some 67), some (some 68), some (some 69), some (some 70), some (some 71), some (some 72)]), .inl (0, 200), .inl (0, 200), .inl (0, 160), .inl (0, 8), .inl (0, 8), .inl (0, 8), .inl (0, 4), .inl (0, 9), .inr (12, [none, some (some 76), some (some 77), some (some 78), none, some (some 79), some (some 80), some (some 81), some (some 82), some (some 83), some (some 84), some (some 85), some (some 86), none, none, none, some (some 87), none, none, some (some 88), some (some 89), some (some 90), some (some 91), some (some 92), some (some 93), some (some 94), some (some 95), some (some 96), none, some (some 97), some (some 98), some none, some none, some none, some none, some none, some none, none, none, none, some none, none, some none, some none, some none, some none, some none, some none, some none, some none, none, some none, none, some none, some none, some none, some none]), .inl (0, 6), .inl (0, 54), .inl (0, 54), .inl (0, 40), .inl (0, 40), .inl (1, 40), .inl (0, 40), .inl (0, 40), .inl (0, 160), .inl (0, 160), .inl (0, 40), .inl (0, 200), .inl (0, 12), .inl (0, 108), .inl (0, 4), .inl (0, 4608), .inl (0, 40), .inl (0, 40), .inl (1, 160), .inl (1, 40), .inl (0, 40), .inl (0, 40), .inl (0, 40), .inl (0, 40)]
def s61_ : fr_H := [.inr (11, [some (some 1), some (some 13), some (some 18), some (some 20), some (some 22), some (some 24), some (some 29), some (some 39), some (some 42), some (some 44), some (some 45), some (some 52), some (some 59), some (some 66), some (some 73), some (some 74), none, none]), .inr (7, [none, none, some (some 2), some (some 3), some (some 4), some (some 5), some (some 6), some (some 7), some (some 8), some (some 9), some (some 10), some (some 11), some (some 12)]), .inl (0, 6), .inl (0, 54), .inl (0, 40), .inl (0, 40), .inl (0, 40), .inl (0, 40), .inl (0, 40), .inl (0, 40), .inl (1, 40), .inl (0, 160), .inl (0, 160), .inr (5, [some (some 1), some (some 14), some (some 15), some (some 16), some (some 17), none]), .inl (0, 54), .inl (0, 40), .inl (0, 108), .inl (0, 12), .inr (2, [some (some 1), some (some 19), none]), .inl (0, 90), .inr (0, [some (some 18), some (some 21)]), .inl (0, 2304), .inr (4, [some (some 18), some (some 23)]), .inl (0, 9), .inr (1, [some (some 1), some (some 25), some (some 26), some (some 27), some (some 28), none, none, none]), .inl (0, 9), .inl (0, 9), .inl (1, 18), .inl (1, 9), .inr (3, [some (some 1), some (some 13), some (some 30), some (some 31), some (some 32), some (some 33), some (some 34), some (some 35), some (some 36), some (some 37), some (some 38), none, none, none, none, none, none, none, none]), .inl (0, 40), .inl (0, 40), .inl (0, 40), .inl (0, 40), .inl (0, 80), .inl (0, 80), .inl (1, 80), .inl (1, 40), .inl (0, 40), .inr (6, [some (some 1), some (some 29), some (some 40), some (some 41), none, none]), .inl (2, 9760), .inl (0, 40), .inr (9, [some (some 43), none]), .inl (2, 200), .inr (8, [some (some 1), some (some 29), some (some 39), some (some 42), none, none]), .inr (10, [none, none, none, none, none, none, none, none, none, none, some (some 46), some (some 47), some (some 48), some (some 49), some (some 50), some (some 51)]), .inl (0, 200), .inl (0, 200), .inl (0, 160), .inl (0, 8), .inl (0, 8), .inl (0, 8), .inr (10, [none, none, none, none, none, none, none, none, none, none, some (some 53), some (some 54), some (some 55), some (some 56), some (some 57), some (some 58)]), .inl (0, 200), .inl (0, 200), .inl (0, 160), .inl (0, 8), .inl (0, 8), .inl (0, 8), .inr (10, [none, none, none, none, none, none, none, none, none, none, some (some 60), some (some 61), some (some 62), some (some 63), some (some 64), some (some 65)]), .inl (0, 200), .inl (0, 200), .inl (0, 160), .inl (0, 8), .inl (0, 8), .inl (0, 8), .inr (10, [none, none, none, none, none, none, none, none, none, none, some (some 67), some (some 68), some (some 69), some (some 70), some (some 71), some (some 72)]), .inl (0, 200), .inl (0, 200), .inl (0, 160), .inl (0, 8), .inl (0, 8), .inl (0, 8), .inl (0, 4), .inl (0, 9), .inr (12, [none, some (some 76), some (some 77), some (some 78), none, some (some 79), some (some 80), some (some 81), some (some 82), some (some 83), some (some 84), some (some 85), some (some 86), none, none, none, some (some 87), none, none, some (some 88), some (some 89), some (some 90), some (some 91), some (some 92), some (some 93), some (some 94), some (some 95), some (some 96), none, some (some 97), some (some 98), some (some 99), some (some 100), some (some 101), some (some 102), some none, some none, none, none, none, some none, none, some none, some none, some none, some none, some none, some none, some none, some none, none, some none, none, some none, some none, some none, some none]), .inl (0, 6), .inl (0, 54), .inl (0, 54), .inl (0, 40), .inl (0, 40), .inl (1, 40), .inl (0, 40), .inl (0, 40), .inl (0, 160), .inl (0, 160), .inl (0, 40), .inl (0, 200), .inl (0, 12), .inl (0, 108), .inl (0, 4), .inl (0, 4608), .inl (0, 40), .inl (0, 40), .inl (1, 160), .inl (1, 40), .inl (0, 40), .inl (0, 40), .inl (0, 40), .inl (0, 40), .inl (0, 40), .inl (0, 80), .inl (1, 80), .inl (0, 80)]
def s62_ : fr_H := [.inr (11, [some (some 1), some (some 13), some (some 18), some (some 20), some (some 22), some (some 24), some (some 29), some (some 39), some (some 42), some (some 44), some (some 45), some (some 52), some (some 59), some (some 66), some (some 73), some (some 74), none, none]), .inr (7, [none, none, some (some 2), some (some 3), some (some 4), some (some 5), some (some 6), some (some 7), some (some 8), some (some 9), some (some 10), some (some 11), some (some 12)]), .inl (0, 6), .inl (0, 54), .inl (0, 40), .inl (0, 40), .inl (0, 40), .inl (0, 40), .inl (0, 40), .inl (0, 40), .inl (1, 40), .inl (0, 160), .inl (0, 160), .inr (5, [some (some 1), some (some 14), some (some 15), some (some 16), some (some 17), none]), .inl (0, 54), .inl (0, 40), .inl (0, 108), .inl (0, 12), .inr (2, [some (some 1), some (some 19), none]), .inl (0, 90), .inr (0, [some (some 18), some (some 21)]), .inl (0, 2304), .inr (4, [some (some 18), some (some 23)]), .inl (0, 9), .inr (1, [some (some 1), some (some 25), some (some 26), some (some 27), some (some 28), none, none, none]), .inl (0, 9), .inl (0, 9), .inl (1, 18), .inl (1, 9), .inr (3, [some (some 1), some (some 13), some (some 30), some (some 31), some (some 32), some (some 33), some (some 34), some (some 35), some (some 36), some (some 37), some (some 38), none, none, none, none, none, none, none, none]), .inl (0, 40), .inl (0, 40), .inl (0, 40), .inl (0, 40), .inl (0, 80), .inl (0, 80), .inl (1, 80), .inl (1, 40), .inl (0, 40), .inr (6, [some (some 1), some (some 29), some (some 40), some (some 41), none, none]), .inl (2, 9760), .inl (0, 40), .inr (9, [some (some 43), none]), .inl (2, 200), .inr (8, [some (some 1), some (some 29), some (some 39), some (some 42), none, none]), .inr (10, [none, none, none, none, none, none, none, none, none, none, some (some 46), some (some 47), some (some 48), some (some 49), some (some 50), some (some 51)]), .inl (0, 200), .inl (0, 200), .inl (0, 160), .inl (0, 8), .inl (0, 8), .inl (0, 8), .inr (10, [none, none, none, none, none, none, none, none, none, none, some (some 53), some (some 54), some (some 55), some (some 56), some (some 57), some (some 58)]), .inl (0, 200), .inl (0, 200), .inl (0, 160), .inl (0, 8), .inl (0, 8), .inl (0, 8), .inr (10, [none, none, none, none, none, none, none, none, none, none, some (some 60), some (some 61), some (some 62), some (some 63), some (some 64), some (some 65)]), .inl (0, 200), .inl (0, 200), .inl (0, 160), .inl (0, 8), .inl (0, 8), .inl (0, 8), .inr (10, [none, none, none, none, none, none, none, none, none, none, some (some 67), some (some 68), some (some 69), some (some 70), some (some 71), some (some 72)]), .inl (0, 200), .inl (0, 200), .inl (0, 160), .inl (0, 8), .inl (0, 8), .inl (0, 8), .inl (0, 4), .inl (0, 9), .inr (12, [none, some (some 76), some (some 77), some (some 78), none, some (some 79), some (some 80), some (some 81), some (some 82), some (some 83), some (some 84), some (some 85), some (some 86), none, none, none, some (some 87), none, none, some (some 88), some (some 89), some (some 90), some (some 91), some (some 92), some (some 93), some (some 94), some (some 95), some (some 96), none, some (some 97), some (some 98), some (some 99), some (some 100), some (some 101), some (some 102), some (some 103), some (some 104), none, none, none, some (some 105), none, some (some 106), some none, some none, some none, some none, some none, some none, some none, none, some none, none, some none, some none, some none, some none]), .inl (0, 6), .inl (0, 54), .inl (0, 54), .inl (0, 40), .inl (0, 40), .inl (1, 40), .inl (0, 40), .inl (0, 40), .inl (0, 160), .inl (0, 160), .inl (0, 40), .inl (0, 200), .inl (0, 12), .inl (0, 108), .inl (0, 4), .inl (0, 4608), .inl (0, 40), .inl (0, 40), .inl (1, 160), .inl (1, 40), .inl (0, 40), .inl (0, 40), .inl (0, 40), .inl (0, 40), .inl (0, 40), .inl (0, 80), .inl (1, 80), .inl (0, 80), .inl (0, 80), .inl (1, 80), .inl (1, 2), .inl (0, 18)]
def s63_ : fr_H := [.inr (11, [some (some 1), some (some 13), some (some 18), some (some 20), some (some 22), some (some 24), some (some 29), some (some 39), some (some 42), some (some 44), some (some 45), some (some 52), some (some 59), some (some 66), some (some 73), some (some 74), none, none]), .inr (7, [none, none, some (some 2), some (some 3), some (some 4), some (some 5), some (some 6), some (some 7), some (some 8), some (some 9), some (some 10), some (some 11), some (some 12)]), .inl (0, 6), .inl (0, 54), .inl (0, 40), .inl (0, 40), .inl (0, 40), .inl (0, 40), .inl (0, 40), .inl (0, 40), .inl (1, 40), .inl (0, 160), .inl (0, 160), .inr (5, [some (some 1), some (some 14), some (some 15), some (some 16), some (some 17), none]), .inl (0, 54), .inl (0, 40), .inl (0, 108), .inl (0, 12), .inr (2, [some (some 1), some (some 19), none]), .inl (0, 90), .inr (0, [some (some 18), some (some 21)]), .inl (0, 2304), .inr (4, [some (some 18), some (some 23)]), .inl (0, 9), .inr (1, [some (some 1), some (some 25), some (some 26), some (some 27), some (some 28), none, none, none]), .inl (0, 9), .inl (0, 9), .inl (1, 18), .inl (1, 9), .inr (3, [some (some 1), some (some 13), some (some 30), some (some 31), some (some 32), some (some 33), some (some 34), some (some 35), some (some 36), some (some 37), some (some 38), none, none, none, none, none, none, none, none]), .inl (0, 40), .inl (0, 40), .inl (0, 40), .inl (0, 40), .inl (0, 80), .inl (0, 80), .inl (1, 80), .inl (1, 40), .inl (0, 40), .inr (6, [some (some 1), some (some 29), some (some 40), some (some 41), none, none]), .inl (2, 9760), .inl (0, 40), .inr (9, [some (some 43), none]), .inl (2, 200), .inr (8, [some (some 1), some (some 29), some (some 39), some (some 42), none, none]), .inr (10, [none, none, none, none, none, none, none, none, none, none, some (some 46), some (some 47), some (some 48), some (some 49), some (some 50), some (some 51)]), .inl (0, 200), .inl (0, 200), .inl (0, 160), .inl (0, 8), .inl (0, 8), .inl (0, 8), .inr (10, [none, none, none, none, none, none, none, none, none, none, some (some 53), some (some 54), some (some 55), some (some 56), some (some 57), some (some 58)]), .inl (0, 200), .inl (0, 200), .inl (0, 160), .inl (0, 8), .inl (0, 8), .inl (0, 8), .inr (10, [none, none, none, none, none, none, none, none, none, none, some (some 60), some (some 61), some (some 62), some (some 63), some (some 64), some (some 65)]), .inl (0, 200), .inl (0, 200), .inl (0, 160), .inl (0, 8), .inl (0, 8), .inl (0, 8), .inr (10, [none, none, none, none, none, none, none, none, none, none, some (some 67), some (some 68), some (some 69), some (some 70), some (some 71), some (some 72)]), .inl (0, 200), .inl (0, 200), .inl (0, 160), .inl (0, 8), .inl (0, 8), .inl (0, 8), .inl (0, 4), .inl (0, 9), .inr (12, [none, some (some 76), some (some 77), some (some 78), none, some (some 79), some (some 80), some (some 81), some (some 82), some (some 83), some (some 84), some (some 85), some (some 86), none, none, none, some (some 87), none, none, some (some 88), some (some 89), some (some 90), some (some 91), some (some 92), some (some 93), some (some 94), some (some 95), some (some 96), none, some (some 97), some (some 98), some (some 99), some (some 100), some (some 101), some (some 102), some (some 103), some (some 104), none, none, none, some (some 105), none, some (some 106), some (some 107), some (some 108), some (some 109), some (some 110), some none, some none, some none, none, some none, none, some none, some none, some none, some none]), .inl (0, 6), .inl (0, 54), .inl (0, 54), .inl (0, 40), .inl (0, 40), .inl (1, 40), .inl (0, 40), .inl (0, 40), .inl (0, 160), .inl (0, 160), .inl (0, 40), .inl (0, 200), .inl (0, 12), .inl (0, 108), .inl (0, 4), .inl (0, 4608), .inl (0, 40), .inl (0, 40), .inl (1, 160), .inl (1, 40), .inl (0, 40), .inl (0, 40), .inl (0, 40), .inl (0, 40), .inl (0, 40), .inl (0, 80), .inl (1, 80), .inl (0, 80), .inl (0, 80), .inl (1, 80), .inl (1, 2), .inl (0, 18), .inl (0, 400), .inl (0, 160), .inl (0, 200), .inl (0, 9)]
def s64_ : fr_H := [.inr (11, [some (some 1), some (some 13), some (some 18), some (some 20), some (some 22), some (some 24), some (some 29), some (some 39), some (some 42), some (some 44), some (some 45), some (some 52), some (some 59), some (some 66), some (some 73), some (some 74), none, none]), .inr (7, [none, none, some (some 2), some (some 3), some (some 4), some (some 5), some (some 6), some (some 7), some (some 8), some (some 9), some (some 10), some (some 11), some (some 12)]), .inl (0, 6), .inl (0, 54), .inl (0, 40), .inl (0, 40), .inl (0, 40), .inl (0, 40), .inl (0, 40), .inl (0, 40), .inl (1, 40), .inl (0, 160), .inl (0, 160), .inr (5, [some (some 1), some (some 14), some (some 15), some (some 16), some (some 17), none]), .inl (0, 54), .inl (0, 40), .inl (0, 108), .inl (0, 12), .inr (2, [some (some 1), some (some 19), none]), .inl (0, 90), .inr (0, [some (some 18), some (some 21)]), .inl (0, 2304), .inr (4, [some (some 18), some (some 23)]), .inl (0, 9), .inr (1, [some (some 1), some (some 25), some (some 26), some (some 27), some (some 28), none, none, none]), .inl (0, 9), .inl (0, 9), .inl (1, 18), .inl (1, 9), .inr (3, [some (some 1), some (some 13), some (some 30), some (some 31), some (some 32), some (some 33), some (some 34), some (some 35), some (some 36), some (some 37), some (some 38), none, none, none, none, none, none, none, none]), .inl (0, 40), .inl (0, 40), .inl (0, 40), .inl (0, 40), .inl (0, 80), .inl (0, 80), .inl (1, 80), .inl (1, 40), .inl (0, 40), .inr (6, [some (some 1), some (some 29), some (some 40), some (some 41), none, none]), .inl (2, 9760), .inl (0, 40), .inr (9, [some (some 43), none]), .inl (2, 200), .inr (8, [some (some 1), some (some 29), some (some 39), some (some 42), none, none]), .inr (10, [none, none, none, none, none, none, none, none, none, none, some (some 46), some (some 47), some (some 48), some (some 49), some (some 50), some (some 51)]), .inl (0, 200), .inl (0, 200), .inl (0, 160), .inl (0, 8), .inl (0, 8), .inl (0, 8), .inr (10, [none, none, none, none, none, none, none, none, none, none, some (some 53), some (some 54), some (some 55), some (some 56), some (some 57), some (some 58)]), .inl (0, 200), .inl (0, 200), .inl (0, 160), .inl (0, 8), .inl (0, 8), .inl (0, 8), .inr (10, [none, none, none, none, none, none, none, none, none, none, some (some 60), some (some 61), some (some 62), some (some 63), some (some 64), some (some 65)]), .inl (0, 200), .inl (0, 200), .inl (0, 160), .inl (0, 8), .inl (0, 8), .inl (0, 8), .inr (10, [none, none, none, none, none, none, none, none, none, none, some (some 67), some (some 68), some (some 69), some (some 70), some (some 71), some (some 72)]), .inl (0, 200), .inl (0, 200), .inl (0, 160), .inl (0, 8), .inl (0, 8), .inl (0, 8), .inl (0, 4), .inl (0, 9), .inr (12, [none, some (some 76), some (some 77), some (some 78), none, some (some 79), some (some 80), some (some 81), some (some 82), some (some 83), some (some 84), some (some 85), some (some 86), none, none, none, some (some 87), none, none, some (some 88), some (some 89), some (some 90), some (some 91), some (some 92), some (some 93), some (some 94), some (some 95), some (some 96), none, some (some 97), some (some 98), some (some 99), some (some 100), some (some 101), some (some 102), some (some 103), some (some 104), none, none, none, some (some 105), none, some (some 106), some (some 107), some (some 108), some (some 109), some (some 110), some (some 111), some (some 112), some (some 113), none, some (some 114), none, some none, some none, some none, some none]), .inl (0, 6), .inl (0, 54), .inl (0, 54), .inl (0, 40), .inl (0, 40), .inl (1, 40), .inl (0, 40), .inl (0, 40), .inl (0, 160), .inl (0, 160), .inl (0, 40), .inl (0, 200), .inl (0, 12), .inl (0, 108), .inl (0, 4), .inl (0, 4608), .inl (0, 40), .inl (0, 40), .inl (1, 160), .inl (1, 40), .inl (0, 40), .inl (0, 40), .inl (0, 40), .inl (0, 40), .inl (0, 40), .inl (0, 80), .inl (1, 80), .inl (0, 80), .inl (0, 80), .inl (1, 80), .inl (1, 2), .inl (0, 18), .inl (0, 400), .inl (0, 160), .inl (0, 200), .inl (0, 9), .inl (0, 200), .inl (0, 8), .inl (0, 8), .inl (0, 160)]
def s65_ : fr_H := [.inr (11, [some (some 1), some (some 13), some (some 18), some (some 20), some (some 22), some (some 24), some (some 29), some (some 39), some (some 42), some (some 44), some (some 45), some (some 52), some (some 59), some (some 66), some (some 73), some (some 74), none, none]), .inr (7, [none, none, some (some 2), some (some 3), some (some 4), some (some 5), some (some 6), some (some 7), some (some 8), some (some 9), some (some 10), some (some 11), some (some 12)]), .inl (0, 6), .inl (0, 54), .inl (0, 40), .inl (0, 40), .inl (0, 40), .inl (0, 40), .inl (0, 40), .inl (0, 40), .inl (1, 40), .inl (0, 160), .inl (0, 160), .inr (5, [some (some 1), some (some 14), some (some 15), some (some 16), some (some 17), none]), .inl (0, 54), .inl (0, 40), .inl (0, 108), .inl (0, 12), .inr (2, [some (some 1), some (some 19), none]), .inl (0, 90), .inr (0, [some (some 18), some (some 21)]), .inl (0, 2304), .inr (4, [some (some 18), some (some 23)]), .inl (0, 9), .inr (1, [some (some 1), some (some 25), some (some 26), some (some 27), some (some 28), none, none, none]), .inl (0, 9), .inl (0, 9), .inl (1, 18), .inl (1, 9), .inr (3, [some (some 1), some (some 13), some (some 30), some (some 31), some (some 32), some (some 33), some (some 34), some (some 35), some (some 36), some (some 37), some (some 38), none, none, none, none, none, none, none, none]), .inl (0, 40), .inl (0, 40), .inl (0, 40), .inl (0, 40), .inl (0, 80), .inl (0, 80), .inl (1, 80), .inl (1, 40), .inl (0, 40), .inr (6, [some (some 1), some (some 29), some (some 40), some (some 41), none, none]), .inl (2, 9760), .inl (0, 40), .inr (9, [some (some 43), none]), .inl (2, 200), .inr (8, [some (some 1), some (some 29), some (some 39), some (some 42), none, none]), .inr (10, [none, none, none, none, none, none, none, none, none, none, some (some 46), some (some 47), some (some 48), some (some 49), some (some 50), some (some 51)]), .inl (0, 200), .inl (0, 200), .inl (0, 160), .inl (0, 8), .inl (0, 8), .inl (0, 8), .inr (10, [none, none, none, none, none, none, none, none, none, none, some (some 53), some (some 54), some (some 55), some (some 56), some (some 57), some (some 58)]), .inl (0, 200), .inl (0, 200), .inl (0, 160), .inl (0, 8), .inl (0, 8), .inl (0, 8), .inr (10, [none, none, none, none, none, none, none, none, none, none, some (some 60), some (some 61), some (some 62), some (some 63), some (some 64), some (some 65)]), .inl (0, 200), .inl (0, 200), .inl (0, 160), .inl (0, 8), .inl (0, 8), .inl (0, 8), .inr (10, [none, none, none, none, none, none, none, none, none, none, some (some 67), some (some 68), some (some 69), some (some 70), some (some 71), some (some 72)]), .inl (0, 200), .inl (0, 200), .inl (0, 160), .inl (0, 8), .inl (0, 8), .inl (0, 8), .inl (0, 4), .inl (0, 9), .inr (12, [none, some (some 76), some (some 77), some (some 78), none, some (some 79), some (some 80), some (some 81), some (some 82), some (some 83), some (some 84), some (some 85), some (some 86), none, none, none, some (some 87), none, none, some (some 88), some (some 89), some (some 90), some (some 91), some (some 92), some (some 93), some (some 94), some (some 95), some (some 96), none, some (some 97), some (some 98), some (some 99), some (some 100), some (some 101), some (some 102), some (some 103), some (some 104), none, none, none, some (some 105), none, some (some 106), some (some 107), some (some 108), some (some 109), some (some 110), some (some 111), some (some 112), some (some 113), none, some (some 114), none, some (some 115), some (some 116), some (some 117), some (some 118)]), .inl (0, 6), .inl (0, 54), .inl (0, 54), .inl (0, 40), .inl (0, 40), .inl (1, 40), .inl (0, 40), .inl (0, 40), .inl (0, 160), .inl (0, 160), .inl (0, 40), .inl (0, 200), .inl (0, 12), .inl (0, 108), .inl (0, 4), .inl (0, 4608), .inl (0, 40), .inl (0, 40), .inl (1, 160), .inl (1, 40), .inl (0, 40), .inl (0, 40), .inl (0, 40), .inl (0, 40), .inl (0, 40), .inl (0, 80), .inl (1, 80), .inl (0, 80), .inl (0, 80), .inl (1, 80), .inl (1, 2), .inl (0, 18), .inl (0, 400), .inl (0, 160), .inl (0, 200), .inl (0, 9), .inl (0, 200), .inl (0, 8), .inl (0, 8), .inl (0, 160), .inl (0, 200), .inl (0, 200), .inl (0, 4)]
set_option maxHeartbeats 4000000 in
set_option maxRecDepth 100000 in
theorem ci_1_2 {Q : Option fr_V → fr_H → fr_M → Prop} (h : Q none s4_ Z0) : fr_Run 72 none 34 [some (.inr (.inl 1))] [] s3_ Z0 3 360 Q := by
  refine fr_go k72 [] 200 rfl ?_
  repeat' (first | (refine And.intro (by omega) ?_))
  exact q_of (Q := Q) (r := none) h rfl (by repeat (first | (with_reducible exact rfl) | refine e_un ?_ | refine e_up ?_ rfl | refine e_zr ?_ (fun _ => rfl)))

set_option maxHeartbeats 4000000 in
set_option maxRecDepth 100000 in
theorem ci_1_1 {Q : Option fr_V → fr_H → fr_M → Prop} (h : Q none s4_ Z0) : fr_Run 72 none 18 [some (.inr (.inl 1))] [] s2_ Z0 7 520 Q := by
  refine fr_go k72 [34] 200 rfl ?_
  repeat' (first | (refine And.intro (by omega) ?_))
  exact r_of (ci_1_2 h) rfl rfl rfl (by repeat (first | (with_reducible exact rfl) | refine e_un ?_ | refine e_up ?_ rfl | refine e_zr ?_ (fun _ => rfl))) rfl rfl

set_option maxHeartbeats 4000000 in
set_option maxRecDepth 100000 in
theorem ci_1_0 {Q : Option fr_V → fr_H → fr_M → Prop} (h : Q none s4_ Z0) : fr_Run 72 none 0 [some (.inr (.inl 1))] [] s1_ Z0 11 660 Q := by
  refine fr_go k72 [18] 200 rfl ?_
  repeat' (first | (refine And.intro (by omega) ?_))
  exact r_of (ci_1_1 h) rfl rfl rfl (by repeat (first | (with_reducible exact rfl) | refine e_un ?_ | refine e_up ?_ rfl | refine e_zr ?_ (fun _ => rfl))) rfl rfl

theorem ci_1 {Q : Option fr_V → fr_H → fr_M → Prop} (h : Q none s4_ Z0) : fr_Call 72 [.inr (.inl 1)] s1_ Z0 Q := ci_1_0 h

set_option maxHeartbeats 4000000 in
set_option maxRecDepth 100000 in
theorem ci_2_1 {Q : Option fr_V → fr_H → fr_M → Prop} (h : Q none s8_ Z0) : fr_Run 44 none 18 [some (.inr (.inl 13)), some (.inr (.inl 1))] [] s7_ Z0 0 0 Q := by
  refine fr_go k44 [] 200 rfl ?_
  repeat' (first | (refine And.intro (by omega) ?_))
  exact q_of (Q := Q) (r := none) h rfl (by repeat (first | (with_reducible exact rfl) | refine e_un ?_ | refine e_up ?_ rfl | refine e_zr ?_ (fun _ => rfl)))

set_option maxHeartbeats 4000000 in
set_option maxRecDepth 100000 in
theorem ci_2_0 {Q : Option fr_V → fr_H → fr_M → Prop} (h : Q none s8_ Z0) : fr_Run 44 none 0 [some (.inr (.inl 13)), some (.inr (.inl 1))] [] s6_ Z0 4 214 Q := by
  refine fr_go k44 [18] 200 rfl ?_
  repeat' (first | (refine And.intro (by omega) ?_))
  exact r_of (ci_2_1 h) rfl rfl rfl (by repeat (first | (with_reducible exact rfl) | refine e_un ?_ | refine e_up ?_ rfl | refine e_zr ?_ (fun _ => rfl))) rfl rfl

theorem ci_2 {Q : Option fr_V → fr_H → fr_M → Prop} (h : Q none s8_ Z0) : fr_Call 44 [.inr (.inl 13), .inr (.inl 1)] s6_ Z0 Q := ci_2_0 h

set_option maxHeartbeats 4000000 in
set_option maxRecDepth 100000 in
theorem ci_3_0 {Q : Option fr_V → fr_H → fr_M → Prop} (h : Q none s11_ Z0) : fr_Run 20 none 0 [some (.inr (.inl 18)), some (.inr (.inl 1))] [] s10_ Z0 1 90 Q := by
  refine fr_go k20 [] 200 rfl ?_
  repeat' (first | (refine And.intro (by omega) ?_))
  exact q_of (Q := Q) (r := none) h rfl (by repeat (first | (with_reducible exact rfl) | refine e_un ?_ | refine e_up ?_ rfl | refine e_zr ?_ (fun _ => rfl)))

theorem ci_3 {Q : Option fr_V → fr_H → fr_M → Prop} (h : Q none s11_ Z0) : fr_Call 20 [.inr (.inl 18), .inr (.inl 1)] s10_ Z0 Q := ci_3_0 h

set_option maxHeartbeats 4000000 in
set_option maxRecDepth 100000 in
theorem ci_4_0 {Q : Option fr_V → fr_H → fr_M → Prop} (h : Q none s14_ Z0) : fr_Run 0 none 0 [some (.inr (.inl 20)), some (.inr (.inl 18))] [] s13_ Z0 1 2304 Q := by
  refine fr_go k0 [] 200 rfl ?_
  repeat' (first | (refine And.intro (by omega) ?_))
  exact q_of (Q := Q) (r := none) h rfl (by repeat (first | (with_reducible exact rfl) | refine e_un ?_ | refine e_up ?_ rfl | refine e_zr ?_ (fun _ => rfl)))

theorem ci_4 {Q : Option fr_V → fr_H → fr_M → Prop} (h : Q none s14_ Z0) : fr_Call 0 [.inr (.inl 20), .inr (.inl 18)] s13_ Z0 Q := ci_4_0 h

set_option maxHeartbeats 4000000 in
set_option maxRecDepth 100000 in
theorem ci_5_0 {Q : Option fr_V → fr_H → fr_M → Prop} (h : Q none s17_ Z0) : fr_Run 40 none 0 [some (.inr (.inl 22)), some (.inr (.inl 18))] [] s16_ Z0 1 9 Q := by
  refine fr_go k40 [] 200 rfl ?_
  repeat' (first | (refine And.intro (by omega) ?_))
  exact q_of (Q := Q) (r := none) h rfl (by repeat (first | (with_reducible exact rfl) | refine e_un ?_ | refine e_up ?_ rfl | refine e_zr ?_ (fun _ => rfl)))

theorem ci_5 {Q : Option fr_V → fr_H → fr_M → Prop} (h : Q none s17_ Z0) : fr_Call 40 [.inr (.inl 22), .inr (.inl 18)] s16_ Z0 Q := ci_5_0 h

set_option maxHeartbeats 4000000 in
set_option maxRecDepth 100000 in
theorem ci_6_1 {Q : Option fr_V → fr_H → fr_M → Prop} (h : Q none s21_ Z0) : fr_Run 7 none 18 [some (.inr (.inl 24)), some (.inr (.inl 1))] [] s20_ Z0 0 0 Q := by
  refine fr_go k7 [] 200 rfl ?_
  repeat' (first | (refine And.intro (by omega) ?_))
  exact q_of (Q := Q) (r := none) h rfl (by repeat (first | (with_reducible exact rfl) | refine e_un ?_ | refine e_up ?_ rfl | refine e_zr ?_ (fun _ => rfl)))

set_option maxHeartbeats 4000000 in
set_option maxRecDepth 100000 in
theorem ci_6_0 {Q : Option fr_V → fr_H → fr_M → Prop} (h : Q none s21_ Z0) : fr_Run 7 none 0 [some (.inr (.inl 24)), some (.inr (.inl 1))] [] s19_ Z0 4 45 Q := by
  refine fr_go k7 [18] 200 rfl ?_
  repeat' (first | (refine And.intro (by omega) ?_))
  exact r_of (ci_6_1 h) rfl rfl rfl (by repeat (first | (with_reducible exact rfl) | refine e_un ?_ | refine e_up ?_ rfl | refine e_zr ?_ (fun _ => rfl))) rfl rfl

theorem ci_6 {Q : Option fr_V → fr_H → fr_M → Prop} (h : Q none s21_ Z0) : fr_Call 7 [.inr (.inl 24), .inr (.inl 1)] s19_ Z0 Q := ci_6_0 h

set_option maxHeartbeats 4000000 in
set_option maxRecDepth 100000 in
theorem ci_7_2 {Q : Option fr_V → fr_H → fr_M → Prop} (h : Q none s26_ Z1) : fr_Run 25 none 34 [some (.inr (.inl 29)), some (.inr (.inl 1)), some (.inr (.inl 13))] [] s25_ Z0 1 40 Q := by
  refine fr_go k25 [] 200 rfl ?_
  repeat' (first | (refine And.intro (by omega) ?_))
  exact q_of (Q := Q) (r := none) h rfl (by repeat (first | (with_reducible exact rfl) | refine e_un ?_ | refine e_up ?_ rfl | refine e_zr ?_ (fun _ => rfl)))

set_option maxHeartbeats 4000000 in
set_option maxRecDepth 100000 in
theorem ci_7_1 {Q : Option fr_V → fr_H → fr_M → Prop} (h : Q none s26_ Z1) : fr_Run 25 none 18 [some (.inr (.inl 29)), some (.inr (.inl 1)), some (.inr (.inl 13))] [] s24_ Z0 5 320 Q := by
  refine fr_go k25 [34] 200 rfl ?_
  repeat' (first | (refine And.intro (by omega) ?_))
  exact r_of (ci_7_2 h) rfl rfl rfl (by repeat (first | (with_reducible exact rfl) | refine e_un ?_ | refine e_up ?_ rfl | refine e_zr ?_ (fun _ => rfl))) rfl rfl

set_option maxHeartbeats 4000000 in
set_option maxRecDepth 100000 in
theorem ci_7_0 {Q : Option fr_V → fr_H → fr_M → Prop} (h : Q none s26_ Z1) : fr_Run 25 none 0 [some (.inr (.inl 29)), some (.inr (.inl 1)), some (.inr (.inl 13))] [] s23_ Z0 9 480 Q := by
  refine fr_go k25 [18] 200 rfl ?_
  repeat' (first | (refine And.intro (by omega) ?_))
  exact r_of (ci_7_1 h) rfl rfl rfl (by repeat (first | (with_reducible exact rfl) | refine e_un ?_ | refine e_up ?_ rfl | refine e_zr ?_ (fun _ => rfl))) rfl rfl

theorem ci_7 {Q : Option fr_V → fr_H → fr_M → Prop} (h : Q none s26_ Z1) : fr_Call 25 [.inr (.inl 29), .inr (.inl 1), .inr (.inl 13)] s23_ Z0 Q := ci_7_0 h

set_option maxHeartbeats 4000000 in
set_option maxRecDepth 100000 in
theorem ci_8_0 {Q : Option fr_V → fr_H → fr_M → Prop} (h : Q none s29_ Z1) : fr_Run 57 none 0 [some (.inr (.inl 39)), some (.inr (.inl 1)), some (.inr (.inl 29))] [] s28_ Z1 2 9800 Q := by
  refine fr_go k57 [] 200 rfl ?_
  repeat' (first | (refine And.intro (by omega) ?_))
  exact q_of (Q := Q) (r := none) h rfl (by repeat (first | (with_reducible exact rfl) | refine e_un ?_ | refine e_up ?_ rfl | refine e_zr ?_ (fun _ => rfl)))

theorem ci_8 {Q : Option fr_V → fr_H → fr_M → Prop} (h : Q none s29_ Z1) : fr_Call 57 [.inr (.inl 39), .inr (.inl 1), .inr (.inl 29)] s28_ Z1 Q := ci_8_0 h

set_option maxHeartbeats 4000000 in
set_option maxRecDepth 100000 in
theorem ci_9_0 {Q : Option fr_V → fr_H → fr_M → Prop} (h : Q none s32_ Z1) : fr_Run 98 none 0 [some (.inr (.inl 42))] [] s31_ Z1 1 200 Q := by
  refine fr_go k98 [] 200 rfl ?_
  repeat' (first | (refine And.intro (by omega) ?_))
  exact q_of (Q := Q) (r := none) h rfl (by repeat (first | (with_reducible exact rfl) | refine e_un ?_ | refine e_up ?_ rfl | refine e_zr ?_ (fun _ => rfl)))

theorem ci_9 {Q : Option fr_V → fr_H → fr_M → Prop} (h : Q none s32_ Z1) : fr_Call 98 [.inr (.inl 42)] s31_ Z1 Q := ci_9_0 h

set_option maxHeartbeats 4000000 in
set_option maxRecDepth 100000 in
theorem ci_10_0 {Q : Option fr_V → fr_H → fr_M → Prop} (h : Q none s35_ Z1) : fr_Run 79 none 0 [some (.inr (.inl 44)), some (.inr (.inl 1)), some (.inr (.inl 29)), some (.inr (.inl 39)), some (.inr (.inl 42))] [] s34_ Z1 0 0 Q := by
  refine fr_go k79 [] 200 rfl ?_
  repeat' (first | (refine And.intro (by omega) ?_))
  exact q_of (Q := Q) (r := none) h rfl (by repeat (first | (with_reducible exact rfl) | refine e_un ?_ | refine e_up ?_ rfl | refine e_zr ?_ (fun _ => rfl)))

theorem ci_10 {Q : Option fr_V → fr_H → fr_M → Prop} (h : Q none s35_ Z1) : fr_Call 79 [.inr (.inl 44), .inr (.inl 1), .inr (.inl 29), .inr (.inl 39), .inr (.inl 42)] s34_ Z1 Q := ci_10_0 h

set_option maxHeartbeats 4000000 in
set_option maxRecDepth 100000 in
theorem ci_11_1 {Q : Option fr_V → fr_H → fr_M → Prop} (h : Q none s39_ Z1) : fr_Run 100 none 18 [some (.inr (.inl 45))] [] s38_ Z1 2 16 Q := by
  refine fr_go k100 [] 200 rfl ?_
  repeat' (first | (refine And.intro (by omega) ?_))
  exact q_of (Q := Q) (r := none) h rfl (by repeat (first | (with_reducible exact rfl) | refine e_un ?_ | refine e_up ?_ rfl | refine e_zr ?_ (fun _ => rfl)))

set_option maxHeartbeats 4000000 in
set_option maxRecDepth 100000 in
theorem ci_11_0 {Q : Option fr_V → fr_H → fr_M → Prop} (h : Q none s39_ Z1) : fr_Run 100 none 0 [some (.inr (.inl 45))] [] s37_ Z1 6 584 Q := by
  refine fr_go k100 [18] 200 rfl ?_
  repeat' (first | (refine And.intro (by omega) ?_))
  exact r_of (ci_11_1 h) rfl rfl rfl (by repeat (first | (with_reducible exact rfl) | refine e_un ?_ | refine e_up ?_ rfl | refine e_zr ?_ (fun _ => rfl))) rfl rfl

theorem ci_11 {Q : Option fr_V → fr_H → fr_M → Prop} (h : Q none s39_ Z1) : fr_Call 100 [.inr (.inl 45)] s37_ Z1 Q := ci_11_0 h

set_option maxHeartbeats 4000000 in
set_option maxRecDepth 100000 in
theorem ci_12_1 {Q : Option fr_V → fr_H → fr_M → Prop} (h : Q none s43_ Z1) : fr_Run 100 none 18 [some (.inr (.inl 52))] [] s42_ Z1 2 16 Q := by
  refine fr_go k100 [] 200 rfl ?_
  repeat' (first | (refine And.intro (by omega) ?_))
  exact q_of (Q := Q) (r := none) h rfl (by repeat (first | (with_reducible exact rfl) | refine e_un ?_ | refine e_up ?_ rfl | refine e_zr ?_ (fun _ => rfl)))

set_option maxHeartbeats 4000000 in
set_option maxRecDepth 100000 in
theorem ci_12_0 {Q : Option fr_V → fr_H → fr_M → Prop} (h : Q none s43_ Z1) : fr_Run 100 none 0 [some (.inr (.inl 52))] [] s41_ Z1 6 584 Q := by
  refine fr_go k100 [18] 200 rfl ?_
  repeat' (first | (refine And.intro (by omega) ?_))
  exact r_of (ci_12_1 h) rfl rfl rfl (by repeat (first | (with_reducible exact rfl) | refine e_un ?_ | refine e_up ?_ rfl | refine e_zr ?_ (fun _ => rfl))) rfl rfl

theorem ci_12 {Q : Option fr_V → fr_H → fr_M → Prop} (h : Q none s43_ Z1) : fr_Call 100 [.inr (.inl 52)] s41_ Z1 Q := ci_12_0 h

set_option maxHeartbeats 4000000 in
set_option maxRecDepth 100000 in
theorem ci_13_1 {Q : Option fr_V → fr_H → fr_M → Prop} (h : Q none s47_ Z1) : fr_Run 100 none 18 [some (.inr (.inl 59))] [] s46_ Z1 2 16 Q := by
  refine fr_go k100 [] 200 rfl ?_
  repeat' (first | (refine And.intro (by omega) ?_))
  exact q_of (Q := Q) (r := none) h rfl (by repeat (first | (with_reducible exact rfl) | refine e_un ?_ | refine e_up ?_ rfl | refine e_zr ?_ (fun _ => rfl)))

set_option maxHeartbeats 4000000 in
set_option maxRecDepth 100000 in
theorem ci_13_0 {Q : Option fr_V → fr_H → fr_M → Prop} (h : Q none s47_ Z1) : fr_Run 100 none 0 [some (.inr (.inl 59))] [] s45_ Z1 6 584 Q := by
  refine fr_go k100 [18] 200 rfl ?_
  repeat' (first | (refine And.intro (by omega) ?_))
  exact r_of (ci_13_1 h) rfl rfl rfl (by repeat (first | (with_reducible exact rfl) | refine e_un ?_ | refine e_up ?_ rfl | refine e_zr ?_ (fun _ => rfl))) rfl rfl

theorem ci_13 {Q : Option fr_V → fr_H → fr_M → Prop} (h : Q none s47_ Z1) : fr_Call 100 [.inr (.inl 59)] s45_ Z1 Q := ci_13_0 h

set_option maxHeartbeats 4000000 in
set_option maxRecDepth 100000 in
theorem ci_14_1 {Q : Option fr_V → fr_H → fr_M → Prop} (h : Q none s51_ Z1) : fr_Run 100 none 18 [some (.inr (.inl 66))] [] s50_ Z1 2 16 Q := by
  refine fr_go k100 [] 200 rfl ?_
  repeat' (first | (refine And.intro (by omega) ?_))
  exact q_of (Q := Q) (r := none) h rfl (by repeat (first | (with_reducible exact rfl) | refine e_un ?_ | refine e_up ?_ rfl | refine e_zr ?_ (fun _ => rfl)))

set_option maxHeartbeats 4000000 in
set_option maxRecDepth 100000 in
theorem ci_14_0 {Q : Option fr_V → fr_H → fr_M → Prop} (h : Q none s51_ Z1) : fr_Run 100 none 0 [some (.inr (.inl 66))] [] s49_ Z1 6 584 Q := by
  refine fr_go k100 [18] 200 rfl ?_
  repeat' (first | (refine And.intro (by omega) ?_))
  exact r_of (ci_14_1 h) rfl rfl rfl (by repeat (first | (with_reducible exact rfl) | refine e_un ?_ | refine e_up ?_ rfl | refine e_zr ?_ (fun _ => rfl))) rfl rfl

theorem ci_14 {Q : Option fr_V → fr_H → fr_M → Prop} (h : Q none s51_ Z1) : fr_Call 100 [.inr (.inl 66)] s49_ Z1 Q := ci_14_0 h

set_option maxHeartbeats 4000000 in
set_option maxRecDepth 100000 in
theorem ci_0_14 {Q : Option fr_V → fr_H → fr_M → Prop} (h : Q none s53_ Z2) : fr_Run 106 none 97 [some (.inr (.inl 0))] [.inr (.inl 66), .inr (.inl 0)] s52_ Z1 2 13 Q := by
  refine fr_go k106 [] 200 rfl ?_
  repeat' (first | (refine And.intro (by omega) ?_))
  exact q_of (Q := Q) (r := none) h rfl (by repeat (first | (with_reducible exact rfl) | refine e_un ?_ | refine e_up ?_ rfl | refine e_zr ?_ (fun _ => rfl)))

set_option maxHeartbeats 4000000 in
set_option maxRecDepth 100000 in
theorem ci_0_13 {Q : Option fr_V → fr_H → fr_M → Prop} (h : Q none s53_ Z2) : fr_Run 106 none 92 [some (.inr (.inl 0))] [.inr (.inl 59), .inr (.inl 0)] s48_ Z1 9 613 Q := by
  refine fr_go k106 [97] 200 rfl ?_
  repeat' (first | (refine And.intro (by omega) ?_) | (refine c_of (ci_14 ?_) rfl rfl (by repeat (first | (with_reducible exact rfl) | refine e_un ?_ | refine e_up ?_ rfl | refine e_zr ?_ (fun _ => rfl)))))
  exact r_of (ci_0_14 h) rfl rfl rfl (by repeat (first | (with_reducible exact rfl) | refine e_un ?_ | refine e_up ?_ rfl | refine e_zr ?_ (fun _ => rfl))) rfl rfl

set_option maxHeartbeats 4000000 in
set_option maxRecDepth 100000 in
theorem ci_0_12 {Q : Option fr_V → fr_H → fr_M → Prop} (h : Q none s53_ Z2) : fr_Run 106 none 87 [some (.inr (.inl 0))] [.inr (.inl 52), .inr (.inl 0)] s44_ Z1 16 1213 Q := by
  refine fr_go k106 [92] 200 rfl ?_
  repeat' (first | (refine And.intro (by omega) ?_) | (refine c_of (ci_13 ?_) rfl rfl (by repeat (first | (with_reducible exact rfl) | refine e_un ?_ | refine e_up ?_ rfl | refine e_zr ?_ (fun _ => rfl)))))
  exact r_of (ci_0_13 h) rfl rfl rfl (by repeat (first | (with_reducible exact rfl) | refine e_un ?_ | refine e_up ?_ rfl | refine e_zr ?_ (fun _ => rfl))) rfl rfl

set_option maxHeartbeats 4000000 in
set_option maxRecDepth 100000 in
theorem ci_0_11 {Q : Option fr_V → fr_H → fr_M → Prop} (h : Q none s53_ Z2) : fr_Run 106 none 82 [some (.inr (.inl 0))] [.inr (.inl 45), .inr (.inl 0)] s40_ Z1 23 1813 Q := by
  refine fr_go k106 [87] 200 rfl ?_
  repeat' (first | (refine And.intro (by omega) ?_) | (refine c_of (ci_12 ?_) rfl rfl (by repeat (first | (with_reducible exact rfl) | refine e_un ?_ | refine e_up ?_ rfl | refine e_zr ?_ (fun _ => rfl)))))
  exact r_of (ci_0_12 h) rfl rfl rfl (by repeat (first | (with_reducible exact rfl) | refine e_un ?_ | refine e_up ?_ rfl | refine e_zr ?_ (fun _ => rfl))) rfl rfl

set_option maxHeartbeats 4000000 in
set_option maxRecDepth 100000 in
theorem ci_0_10 {Q : Option fr_V → fr_H → fr_M → Prop} (h : Q none s53_ Z2) : fr_Run 106 none 77 [some (.inr (.inl 0))] [.inr (.inl 44), .inr (.inl 0)] s36_ Z1 30 2413 Q := by
  refine fr_go k106 [82] 200 rfl ?_
  repeat' (first | (refine And.intro (by omega) ?_) | (refine c_of (ci_11 ?_) rfl rfl (by repeat (first | (with_reducible exact rfl) | refine e_un ?_ | refine e_up ?_ rfl | refine e_zr ?_ (fun _ => rfl)))))
  exact r_of (ci_0_11 h) rfl rfl rfl (by repeat (first | (with_reducible exact rfl) | refine e_un ?_ | refine e_up ?_ rfl | refine e_zr ?_ (fun _ => rfl))) rfl rfl

set_option maxHeartbeats 4000000 in
set_option maxRecDepth 100000 in
theorem ci_0_9 {Q : Option fr_V → fr_H → fr_M → Prop} (h : Q none s53_ Z2) : fr_Run 106 none 64 [some (.inr (.inl 0))] [.inr (.inl 42), .inr (.inl 0)] s33_ Z1 31 2419 Q := by
  refine fr_go k106 [77] 200 rfl ?_
  repeat' (first | (refine And.intro (by omega) ?_) | (refine c_of (ci_10 ?_) rfl rfl (by repeat (first | (with_reducible exact rfl) | refine e_un ?_ | refine e_up ?_ rfl | refine e_zr ?_ (fun _ => rfl)))))
  exact r_of (ci_0_10 h) rfl rfl rfl (by repeat (first | (with_reducible exact rfl) | refine e_un ?_ | refine e_up ?_ rfl | refine e_zr ?_ (fun _ => rfl))) rfl rfl

set_option maxHeartbeats 4000000 in
set_option maxRecDepth 100000 in
theorem ci_0_8 {Q : Option fr_V → fr_H → fr_M → Prop} (h : Q none s53_ Z2) : fr_Run 106 none 59 [some (.inr (.inl 0))] [.inr (.inl 39), .inr (.inl 0)] s30_ Z1 33 2621 Q := by
  refine fr_go k106 [64] 200 rfl ?_
  repeat' (first | (refine And.intro (by omega) ?_) | (refine c_of (ci_9 ?_) rfl rfl (by repeat (first | (with_reducible exact rfl) | refine e_un ?_ | refine e_up ?_ rfl | refine e_zr ?_ (fun _ => rfl)))))
  exact r_of (ci_0_9 h) rfl rfl rfl (by repeat (first | (with_reducible exact rfl) | refine e_un ?_ | refine e_up ?_ rfl | refine e_zr ?_ (fun _ => rfl))) rfl rfl

set_option maxHeartbeats 4000000 in
set_option maxRecDepth 100000 in
theorem ci_0_7 {Q : Option fr_V → fr_H → fr_M → Prop} (h : Q none s53_ Z2) : fr_Run 106 none 50 [some (.inr (.inl 0))] [.inr (.inl 29), .inr (.inl 0)] s27_ Z1 36 12427 Q := by
  refine fr_go k106 [59] 200 rfl ?_
  repeat' (first | (refine And.intro (by omega) ?_) | (refine c_of (ci_8 ?_) rfl rfl (by repeat (first | (with_reducible exact rfl) | refine e_un ?_ | refine e_up ?_ rfl | refine e_zr ?_ (fun _ => rfl)))))
  exact r_of (ci_0_8 h) rfl rfl rfl (by repeat (first | (with_reducible exact rfl) | refine e_un ?_ | refine e_up ?_ rfl | refine e_zr ?_ (fun _ => rfl))) rfl rfl

set_option maxHeartbeats 4000000 in
set_option maxRecDepth 100000 in
theorem ci_0_6 {Q : Option fr_V → fr_H → fr_M → Prop} (h : Q none s53_ Z2) : fr_Run 106 none 41 [some (.inr (.inl 0))] [.inr (.inl 24), .inr (.inl 0)] s22_ Z0 46 12926 Q := by
  refine fr_go k106 [50] 200 rfl ?_
  repeat' (first | (refine And.intro (by omega) ?_) | (refine c_of (ci_7 ?_) rfl rfl (by repeat (first | (with_reducible exact rfl) | refine e_un ?_ | refine e_up ?_ rfl | refine e_zr ?_ (fun _ => rfl)))))
  exact r_of (ci_0_7 h) rfl rfl rfl (by repeat (first | (with_reducible exact rfl) | refine e_un ?_ | refine e_up ?_ rfl | refine e_zr ?_ (fun _ => rfl))) rfl rfl

set_option maxHeartbeats 4000000 in
set_option maxRecDepth 100000 in
theorem ci_0_5 {Q : Option fr_V → fr_H → fr_M → Prop} (h : Q none s53_ Z2) : fr_Run 106 none 34 [some (.inr (.inl 0))] [.inr (.inl 22), .inr (.inl 0)] s18_ Z0 51 12979 Q := by
  refine fr_go k106 [41] 200 rfl ?_
  repeat' (first | (refine And.intro (by omega) ?_) | (refine c_of (ci_6 ?_) rfl rfl (by repeat (first | (with_reducible exact rfl) | refine e_un ?_ | refine e_up ?_ rfl | refine e_zr ?_ (fun _ => rfl)))))
  exact r_of (ci_0_6 h) rfl rfl rfl (by repeat (first | (with_reducible exact rfl) | refine e_un ?_ | refine e_up ?_ rfl | refine e_zr ?_ (fun _ => rfl))) rfl rfl

set_option maxHeartbeats 4000000 in
set_option maxRecDepth 100000 in
theorem ci_0_4 {Q : Option fr_V → fr_H → fr_M → Prop} (h : Q none s53_ Z2) : fr_Run 106 none 27 [some (.inr (.inl 0))] [.inr (.inl 20), .inr (.inl 0)] s15_ Z0 53 12990 Q := by
  refine fr_go k106 [34] 200 rfl ?_
  repeat' (first | (refine And.intro (by omega) ?_) | (refine c_of (ci_5 ?_) rfl rfl (by repeat (first | (with_reducible exact rfl) | refine e_un ?_ | refine e_up ?_ rfl | refine e_zr ?_ (fun _ => rfl)))))
  exact r_of (ci_0_5 h) rfl rfl rfl (by repeat (first | (with_reducible exact rfl) | refine e_un ?_ | refine e_up ?_ rfl | refine e_zr ?_ (fun _ => rfl))) rfl rfl

set_option maxHeartbeats 4000000 in
set_option maxRecDepth 100000 in
theorem ci_0_3 {Q : Option fr_V → fr_H → fr_M → Prop} (h : Q none s53_ Z2) : fr_Run 106 none 20 [some (.inr (.inl 0))] [.inr (.inl 18), .inr (.inl 0)] s12_ Z0 55 15296 Q := by
  refine fr_go k106 [27] 200 rfl ?_
  repeat' (first | (refine And.intro (by omega) ?_) | (refine c_of (ci_4 ?_) rfl rfl (by repeat (first | (with_reducible exact rfl) | refine e_un ?_ | refine e_up ?_ rfl | refine e_zr ?_ (fun _ => rfl)))))
  exact r_of (ci_0_4 h) rfl rfl rfl (by repeat (first | (with_reducible exact rfl) | refine e_un ?_ | refine e_up ?_ rfl | refine e_zr ?_ (fun _ => rfl))) rfl rfl

set_option maxHeartbeats 4000000 in
set_option maxRecDepth 100000 in
theorem ci_0_2 {Q : Option fr_V → fr_H → fr_M → Prop} (h : Q none s53_ Z2) : fr_Run 106 none 13 [some (.inr (.inl 0))] [.inr (.inl 13), .inr (.inl 0)] s9_ Z0 57 15389 Q := by
  refine fr_go k106 [20] 200 rfl ?_
  repeat' (first | (refine And.intro (by omega) ?_) | (refine c_of (ci_3 ?_) rfl rfl (by repeat (first | (with_reducible exact rfl) | refine e_un ?_ | refine e_up ?_ rfl | refine e_zr ?_ (fun _ => rfl)))))
  exact r_of (ci_0_3 h) rfl rfl rfl (by repeat (first | (with_reducible exact rfl) | refine e_un ?_ | refine e_up ?_ rfl | refine e_zr ?_ (fun _ => rfl))) rfl rfl

set_option maxHeartbeats 4000000 in
set_option maxRecDepth 100000 in
theorem ci_0_1 {Q : Option fr_V → fr_H → fr_M → Prop} (h : Q none s53_ Z2) : fr_Run 106 none 6 [some (.inr (.inl 0))] [.inr (.inl 1), .inr (.inl 0)] s5_ Z0 62 15609 Q := by
  refine fr_go k106 [13] 200 rfl ?_
  repeat' (first | (refine And.intro (by omega) ?_) | (refine c_of (ci_2 ?_) rfl rfl (by repeat (first | (with_reducible exact rfl) | refine e_un ?_ | refine e_up ?_ rfl | refine e_zr ?_ (fun _ => rfl)))))
  exact r_of (ci_0_2 h) rfl rfl rfl (by repeat (first | (with_reducible exact rfl) | refine e_un ?_ | refine e_up ?_ rfl | refine e_zr ?_ (fun _ => rfl))) rfl rfl

set_option maxHeartbeats 4000000 in
set_option maxRecDepth 100000 in
theorem ci_0_0 {Q : Option fr_V → fr_H → fr_M → Prop} (h : Q none s53_ Z2) : fr_Run 106 none 0 [some (.inr (.inl 0))] [] s0_ Z0 74 16282 Q := by
  refine fr_go k106 [6] 200 rfl ?_
  repeat' (first | (refine And.intro (by omega) ?_) | (refine c_of (ci_1 ?_) rfl rfl (by repeat (first | (with_reducible exact rfl) | refine e_un ?_ | refine e_up ?_ rfl | refine e_zr ?_ (fun _ => rfl)))))
  exact r_of (ci_0_1 h) rfl rfl rfl (by repeat (first | (with_reducible exact rfl) | refine e_un ?_ | refine e_up ?_ rfl | refine e_zr ?_ (fun _ => rfl))) rfl rfl

theorem ci_0 {Q : Option fr_V → fr_H → fr_M → Prop} (h : Q none s53_ Z2) : fr_Call 106 [.inr (.inl 0)] s0_ Z0 Q := ci_0_0 h

set_option maxHeartbeats 4000000 in
set_option maxRecDepth 100000 in
theorem ci_15_10 {Q : Option fr_V → fr_H → fr_M → Prop} (h : Q none s65_ Z4) : fr_Run 139 none 167 [some (.inr (.inl 75))] [.inr (.inl 115), .inr (.inl 75)] s64_ Z4 3 404 Q := by
  refine fr_go k139 [] 200 rfl ?_
  repeat' (first | (refine And.intro (by omega) ?_))
  exact q_of (Q := Q) (r := none) h rfl (by repeat (first | (with_reducible exact rfl) | refine e_un ?_ | refine e_up ?_ rfl | refine e_zr ?_ (fun _ => rfl)))

set_option maxHeartbeats 4000000 in
set_option maxRecDepth 100000 in
theorem ci_15_9 {Q : Option fr_V → fr_H → fr_M → Prop} (h : Q none s65_ Z4) : fr_Run 139 none 151 [some (.inr (.inl 75))] [.inr (.inl 111), .inr (.inl 75)] s63_ Z4 7 780 Q := by
  refine fr_go k139 [167] 200 rfl ?_
  repeat' (first | (refine And.intro (by omega) ?_))
  exact r_of (ci_15_10 h) rfl rfl rfl (by repeat (first | (with_reducible exact rfl) | refine e_un ?_ | refine e_up ?_ rfl | refine e_zr ?_ (fun _ => rfl))) rfl rfl

set_option maxHeartbeats 4000000 in
set_option maxRecDepth 100000 in
theorem ci_15_8 {Q : Option fr_V → fr_H → fr_M → Prop} (h : Q none s65_ Z4) : fr_Run 139 none 135 [some (.inr (.inl 75))] [.inr (.inl 107), .inr (.inl 75)] s62_ Z4 11 1549 Q := by
  refine fr_go k139 [151] 200 rfl ?_
  repeat' (first | (refine And.intro (by omega) ?_))
  exact r_of (ci_15_9 h) rfl rfl rfl (by repeat (first | (with_reducible exact rfl) | refine e_un ?_ | refine e_up ?_ rfl | refine e_zr ?_ (fun _ => rfl))) rfl rfl

set_option maxHeartbeats 4000000 in
set_option maxRecDepth 100000 in
theorem ci_15_7 {Q : Option fr_V → fr_H → fr_M → Prop} (h : Q none s65_ Z4) : fr_Run 139 none 119 [some (.inr (.inl 75))] [.inr (.inl 103), .inr (.inl 75)] s61_ Z4 15 1729 Q := by
  refine fr_go k139 [135] 200 rfl ?_
  repeat' (first | (refine And.intro (by omega) ?_))
  exact r_of (ci_15_8 h) rfl rfl rfl (by repeat (first | (with_reducible exact rfl) | refine e_un ?_ | refine e_up ?_ rfl | refine e_zr ?_ (fun _ => rfl))) rfl rfl

set_option maxHeartbeats 4000000 in
set_option maxRecDepth 100000 in
theorem ci_15_6 {Q : Option fr_V → fr_H → fr_M → Prop} (h : Q none s65_ Z4) : fr_Run 139 none 103 [some (.inr (.inl 75))] [.inr (.inl 99), .inr (.inl 75)] s60_ Z4 19 2009 Q := by
  refine fr_go k139 [119] 200 rfl ?_
  repeat' (first | (refine And.intro (by omega) ?_))
  exact r_of (ci_15_7 h) rfl rfl rfl (by repeat (first | (with_reducible exact rfl) | refine e_un ?_ | refine e_up ?_ rfl | refine e_zr ?_ (fun _ => rfl))) rfl rfl

set_option maxHeartbeats 4000000 in
set_option maxRecDepth 100000 in
theorem ci_15_5 {Q : Option fr_V → fr_H → fr_M → Prop} (h : Q none s65_ Z4) : fr_Run 139 none 87 [some (.inr (.inl 75))] [.inr (.inl 95), .inr (.inl 75)] s59_ Z4 23 2169 Q := by
  refine fr_go k139 [103] 200 rfl ?_
  repeat' (first | (refine And.intro (by omega) ?_))
  exact r_of (ci_15_6 h) rfl rfl rfl (by repeat (first | (with_reducible exact rfl) | refine e_un ?_ | refine e_up ?_ rfl | refine e_zr ?_ (fun _ => rfl))) rfl rfl

set_option maxHeartbeats 4000000 in
set_option maxRecDepth 100000 in
theorem ci_15_4 {Q : Option fr_V → fr_H → fr_M → Prop} (h : Q none s65_ Z4) : fr_Run 139 none 71 [some (.inr (.inl 75))] [.inr (.inl 91), .inr (.inl 75)] s58_ Z4 27 2449 Q := by
  refine fr_go k139 [87] 200 rfl ?_
  repeat' (first | (refine And.intro (by omega) ?_))
  exact r_of (ci_15_5 h) rfl rfl rfl (by repeat (first | (with_reducible exact rfl) | refine e_un ?_ | refine e_up ?_ rfl | refine e_zr ?_ (fun _ => rfl))) rfl rfl

set_option maxHeartbeats 4000000 in
set_option maxRecDepth 100000 in
theorem ci_15_3 {Q : Option fr_V → fr_H → fr_M → Prop} (h : Q none s65_ Z4) : fr_Run 139 none 55 [some (.inr (.inl 75))] [.inr (.inl 87), .inr (.inl 75)] s57_ Z4 31 7181 Q := by
  refine fr_go k139 [71] 200 rfl ?_
  repeat' (first | (refine And.intro (by omega) ?_))
  exact r_of (ci_15_4 h) rfl rfl rfl (by repeat (first | (with_reducible exact rfl) | refine e_un ?_ | refine e_up ?_ rfl | refine e_zr ?_ (fun _ => rfl))) rfl rfl

set_option maxHeartbeats 4000000 in
set_option maxRecDepth 100000 in
theorem ci_15_2 {Q : Option fr_V → fr_H → fr_M → Prop} (h : Q none s65_ Z4) : fr_Run 139 none 34 [some (.inr (.inl 75))] [] s56_ Z2 35 7741 Q := by
  refine fr_go k139 [55] 200 rfl ?_
  repeat' (first | (refine And.intro (by omega) ?_))
  exact r_of (ci_15_3 h) rfl rfl rfl (by repeat (first | (with_reducible exact rfl) | refine e_un ?_ | refine e_up ?_ rfl | refine e_zr ?_ (fun _ => rfl))) rfl rfl

set_option maxHeartbeats 4000000 in
set_option maxRecDepth 100000 in
theorem ci_15_1 {Q : Option fr_V → fr_H → fr_M → Prop} (h : Q none s65_ Z4) : fr_Run 139 none 18 [some (.inr (.inl 75))] [] s55_ Z2 39 7901 Q := by
  refine fr_go k139 [34] 200 rfl ?_
  repeat' (first | (refine And.intro (by omega) ?_))
  exact r_of (ci_15_2 h) rfl rfl rfl (by repeat (first | (with_reducible exact rfl) | refine e_un ?_ | refine e_up ?_ rfl | refine e_zr ?_ (fun _ => rfl))) rfl rfl

set_option maxHeartbeats 4000000 in
set_option maxRecDepth 100000 in
theorem ci_15_0 {Q : Option fr_V → fr_H → fr_M → Prop} (h : Q none s65_ Z4) : fr_Run 139 none 0 [some (.inr (.inl 75))] [] s54_ Z2 43 8055 Q := by
  refine fr_go k139 [18] 200 rfl ?_
  repeat' (first | (refine And.intro (by omega) ?_))
  exact r_of (ci_15_1 h) rfl rfl rfl (by repeat (first | (with_reducible exact rfl) | refine e_un ?_ | refine e_up ?_ rfl | refine e_zr ?_ (fun _ => rfl))) rfl rfl

theorem ci_15 {Q : Option fr_V → fr_H → fr_M → Prop} (h : Q none s65_ Z4) : fr_Call 139 [.inr (.inl 75)] s54_ Z2 Q := ci_15_0 h
end
section
theorem up_s {M : fr_M} {k : Nat} {i x j : Int} : fr_up M k i x k j = if j = i then x else M k j := fr_up_s j
theorem up_n {M : fr_M} {k k' : Nat} {i x j : Int} (h : k' ≠ k) : fr_up M k i x k' j = M k' j := by rw [fr_up_o h]
/-! ===== what holds between the class's cells and the reference's ===== -/
def P1 (M : fr_M) : Prop := M 1 0 = M 75 0 ∧ 0 ≤ M 75 0 ∧ M 75 0 ≤ 6 ∧ M 1 1 = M 75 4 ∧ 0 ≤ M 75 4 ∧ M 75 4 ≤ 40
def P2 (M : fr_M) : Prop := ∀ r, 0 ≤ r → r < 6 → M 2 r = M 76 r ∧ 0 ≤ M 76 r ∧ M 76 r ≤ 9 ∧ (M 75 0 ≤ r → M 76 r = 0)
def P3 (M : fr_M) : Prop := ∀ r k, 0 ≤ r → r < 6 → 0 ≤ k → k < M 76 r → M 3 (r * 9 + k) = M 77 (9 * r + k) ∧ 0 ≤ M 77 (9 * r + k) ∧ M 77 (9 * r + k) < M 75 4 ∧ M 79 (M 77 (9 * r + k)) = r ∧ M 5 (M 77 (9 * r + k)) = k
/-- of a BLOCK: its ROUTINE, its rank, SIZE -/
def P4 (M : fr_M) : Prop := ∀ b, 0 ≤ b → b < M 75 4 → M 4 b = M 79 b ∧ 0 ≤ M 79 b ∧ M 79 b < M 75 0 ∧ 0 ≤ M 5 b ∧ M 5 b < M 76 (M 79 b) ∧ M 77 (9 * M 79 b + M 5 b) = b ∧ M 6 b = M 80 b ∧ 1 ≤ M 80 b ∧ M 80 b ≤ 200 ∧ M 10 b = M 81 b ∧ 0 ≤ M 81 b ∧ M 81 b ≤ 1
/-- its END -/
def P5 (M : fr_M) : Prop := ∀ b, 0 ≤ b → b < M 75 4 → M 7 b = M 82 b ∧ 0 ≤ M 82 b ∧ M 82 b ≤ 6 ∧ M 8 b = M 83 b ∧ (M 82 b ≤ 1 → M 83 b = 0) ∧ (M 82 b = 2 ∨ M 82 b = 5 → M 83 b = 1) ∧ (M 82 b = 3 ∨ M 82 b = 6 → M 83 b = 2) ∧ (M 82 b = 4 → 1 ≤ M 83 b ∧ M 83 b ≤ 4) ∧ (M 82 b = 5 → M 9 b = M 86 b ∧ 0 ≤ M 86 b ∧ M 86 b < M 75 0 ∧ 0 < M 76 (M 86 b)) ∧ (M 82 b ≠ 5 → M 86 b = -9)
def P6 (M : fr_M) : Prop := ∀ b w, 0 ≤ b → b < M 75 4 → 0 ≤ w → w < M 83 b → M 11 (b * 4 + w) = M 84 (4 * b + w) ∧ 0 ≤ M 84 (4 * b + w) ∧ M 84 (4 * b + w) < M 75 4 ∧ M 79 (M 84 (4 * b + w)) = M 79 b
def P7 (M : fr_M) : Prop := ∀ i, 0 ≤ i → i < 160 → M 12 i = M 85 i ∧ 0 ≤ M 85 i ∧ M 85 i ≤ 1000000
def P8 (M : fr_M) : Prop := ∀ b, M 75 4 ≤ b → b < 40 → M 8 b = 0 ∧ M 10 b = 0 ∧ M 81 b = 0
/-- the orders -/
def O1 (M : fr_M) : Prop := ∀ r i, 0 ≤ r → r < 6 → 0 ≤ i → i < M 76 r → M 14 (r * 9 + i) = M 78 (9 * r + i) ∧ 0 ≤ M 78 (9 * r + i) ∧ M 78 (9 * r + i) < M 75 4 ∧ M 79 (M 78 (9 * r + i)) = r ∧ M 15 (M 78 (9 * r + i)) = i
def O2 (M : fr_M) : Prop := ∀ b, 0 ≤ b → b < M 75 4 → 0 ≤ M 15 b ∧ M 15 b < M 76 (M 79 b) ∧ M 78 (9 * M 79 b + M 15 b) = b
def O3 (M : fr_M) : Prop := ∀ r, 0 ≤ r → r < 6 → 0 < M 76 r → M 78 (9 * r) = M 77 (9 * r)
/-- what undo has -/
def K1 (M : fr_M) : Prop := M 13 5 = M 75 18 ∧ 0 ≤ M 75 18 ∧ M 75 18 ≤ 12
def K2 (M : fr_M) : Prop := ∀ u, 0 ≤ u → u < M 75 18 → M 17 u = M 88 u ∧ 0 ≤ M 88 u ∧ M 88 u < M 75 0 ∧ 0 < M 76 (M 88 u) ∧ M 89 (9 * u) = M 77 (9 * M 88 u)
def K3 (M : fr_M) : Prop := ∀ u i, 0 ≤ u → u < M 75 18 → 0 ≤ i → i < M 76 (M 88 u) → M 16 (u * 9 + i) = M 89 (9 * u + i) ∧ 0 ≤ M 89 (9 * u + i) ∧ M 89 (9 * u + i) < M 75 4 ∧ M 79 (M 89 (9 * u + i)) = M 88 u
def K4 (M : fr_M) : Prop := ∀ u i j, 0 ≤ u → u < M 75 18 → 0 ≤ i → i < M 76 (M 88 u) → 0 ≤ j → j < M 76 (M 88 u) → M 89 (9 * u + i) = M 89 (9 * u + j) → i = j
def K5 (M : fr_M) : Prop := ∀ u b, 0 ≤ u → u < M 75 18 → 0 ≤ b → b < M 75 4 → M 79 b = M 88 u → ∃ i, 0 ≤ i ∧ i < M 76 (M 88 u) ∧ M 89 (9 * u + i) = b
/-- THE TAPE -/
def T1 (M : fr_M) : Prop := M 42 1 = M 75 17 ∧ 0 ≤ M 75 17 ∧ M 75 17 ≤ 200
def T2 (M : fr_M) : Prop := ∀ i, 0 ≤ i → i < M 75 17 → 0 ≤ M 87 i ∧ M 87 i ≤ 255 ∧ M 43 i = (if M 87 i < 128 then M 87 i else M 87 i - 256)
/-- settings -/
def S1 (M : fr_M) : Prop := M 29 12 = M 75 13 ∧ (M 75 13 = 0 ∨ M 75 13 = 1) ∧ M 29 11 = M 75 14 ∧ (M 75 14 = 1 ∨ M 75 14 = 2 ∨ M 75 14 = 4 ∨ M 75 14 = 8 ∨ M 75 14 = 16) ∧ M 0 16 = M 75 15 ∧ 0 ≤ M 75 15 ∧ M 75 15 ≤ 8
/-- runs: w = 0 the PLAIN one (cell 45), 1 the LAID one (cell 52) -/
def R1 (M : fr_M) (t : Nat) (w : Int) : Prop := M t 0 = M 106 w ∧ (M 106 w = 0 ∨ M 106 w = 1) ∧ 0 ≤ M t 2 ∧ M t 2 ≤ 200 ∧ (M 106 w = 0 → M t 2 = 0) ∧ (M 106 w = 1 → M 107 (9 * w + 0) = M t 1 ∧ M 107 (9 * w + 1) = M t 2 ∧ M 107 (9 * w + 2) = M t 3 ∧ M 107 (9 * w + 3) = M t 5 ∧ M 107 (9 * w + 4) = 2 * M t 6 + 3 * M t 7 + M t 8 + 50 * M t 9 ∧ M 107 (9 * w + 5) = M t 6 ∧ M 107 (9 * w + 6) = M t 7 ∧ M 107 (9 * w + 7) = M t 8 ∧ M 107 (9 * w + 8) = M t 9 ∧ (0 ≤ M t 6 ∧ M t 6 ≤ 1000) ∧ (0 ≤ M t 7 ∧ M t 7 ≤ 1000) ∧ (0 ≤ M t 8 ∧ M t 8 ≤ 1000) ∧ (0 ≤ M t 9 ∧ M t 9 ≤ 1000))
def R2 (M : fr_M) (t row : Nat) (w : Int) : Prop := ∀ i, 0 ≤ i → i < M t 2 → M 108 (200 * w + i) = M row i
def R3 (M : fr_M) : Prop := (M 0 17 = 0 ∨ M 0 17 = 1) ∧ (M 75 41 = 0 ∨ M 75 41 = 1) ∧ (M 75 41 = 1 ↔ (M 45 0 = 1 ∧ M 0 17 = 1)) ∧ (M 45 0 = 1 → ∀ i, 0 ≤ i → i < 160 → M 48 i = M 109 i ∧ 0 ≤ M 109 i ∧ M 109 i ≤ 1000)
def R4 (M : fr_M) : Prop := ∀ i, 0 ≤ i → i < M 52 2 → M 54 i = M 110 i
/-- what the layout that is kept depends on -/
def rl (k : Nat) (i : Int) : Bool := (decide (2 ≤ k) && decide (k ≤ 11)) || (decide (k = 1) && decide (i = 1)) || decide (k = 14) || (decide (29 ≤ k) && decide (k ≤ 41)) || (decide (k = 75) && (decide (i = 4) || decide (i = 13) || decide (i = 14))) || (decide (76 ≤ k) && decide (k ≤ 84)) || decide (k = 86)
def msk (M : fr_M) : fr_M := fun k i => if rl k i then M k i else 0
def LayOK (M : fr_M) : Prop := True
def PicOK (M : fr_M) : Prop := True
def RLx (n : Int) (M : fr_M) : Prop := (M 29 18 = 0 ∨ M 29 18 = 1) ∧ 0 ≤ M 29 17 ∧ M 29 17 ≤ n ∧ 0 ≤ M 39 4 ∧ M 39 4 ≤ M 29 17 ∧ (M 29 18 = 1 → LayOK M) ∧ (M 29 18 = 1 → M 39 4 = M 29 17 → PicOK M)
def RL (n : Int) (M : fr_M) : Prop := RLx n (msk M)
theorem RL.off {n : Int} {M M' : fr_M} (h : RL n M) (h18 : M' 29 18 = 0) (h17 : M' 29 17 = M 29 17) (h4 : M' 39 4 = M 39 4) : RL (n + 1) M' := by
  obtain ⟨a1, a2, a3, a4, a5, -, -⟩ := h
  have a2 : 0 ≤ M 29 17 := a2
  have a3 : M 29 17 ≤ n := a3
  have a4 : 0 ≤ M 39 4 := a4
  have a5 : M 39 4 ≤ M 29 17 := a5
  refine ⟨Or.inl h18, ?_, ?_, ?_, ?_, fun q => ?_, fun q => ?_⟩
  · show 0 ≤ M' 29 17; omega
  · show M' 29 17 ≤ n + 1; omega
  · show 0 ≤ M' 39 4; omega
  · show M' 39 4 ≤ M' 29 17; omega
  · have q : M' 29 18 = 1 := q
    omega
  · have q : M' 29 18 = 1 := q
    omega
theorem RL.keep {n : Int} {M M' : fr_M} (h : RL n M) (e : ∀ k i, rl k i = true → M' k i = M k i) : RL (n + 1) M' := by
  have em : msk M' = msk M := by
    funext k i
    unfold msk
    split
    · next q => exact e k i q
    · rfl
  unfold RL
  rw [em]
  obtain ⟨a1, a2, a3, a4, a5, a6, a7⟩ := h
  exact ⟨a1, a2, by omega, a4, a5, a6, a7⟩
theorem kp_r {M : fr_M} : ∀ k i, rl k i = true → M k i = M k i := fun _ _ _ => rfl
theorem kp_u {M M' : fr_M} {a : Nat} {j v : Int} (h : ∀ k i, rl k i = true → M' k i = M k i) (q : rl a j = false) : ∀ k i, rl k i = true → fr_up M' a j v k i = M k i := by
  intro k i hk
  unfold fr_up
  split
  · next e =>
    subst e
    split
    · next e2 => subst e2; rw [q] at hk; cases hk
    · exact h k i hk
  · exact h k i hk
def Rel (n : Int) (M : fr_M) : Prop := 0 ≤ n ∧ P1 M ∧ P2 M ∧ P3 M ∧ P4 M ∧ P5 M ∧ P6 M ∧ P7 M ∧ P8 M ∧ O1 M ∧ O2 M ∧ O3 M ∧ K1 M ∧ K2 M ∧ K3 M ∧ K4 M ∧ K5 M ∧ T1 M ∧ T2 M ∧ S1 M ∧ R1 M 45 0 ∧ R1 M 52 1 ∧ R2 M 45 46 0 ∧ R2 M 52 53 1 ∧ R3 M ∧ R4 M ∧ RL n M
theorem Rel.next {n : Int} {M : fr_M} (h : Rel n M) : Rel (n + 1) M := by
  obtain ⟨h0, h1, h2, h3, h4, h5, h6, h7, h8, o1, o2, o3, k1, k2, k3, k4, k5, t1, t2, s1, r1, r1', r2, r2', r3, r4, l⟩ := h
  exact ⟨by omega, h1, h2, h3, h4, h5, h6, h7, h8, o1, o2, o3, k1, k2, k3, k4, k5, t1, t2, s1, r1, r1', r2, r2', r3, r4, l.keep (fun _ _ _ => rfl)⟩
theorem rel_init : Rel 0 Z4 := by
  refine ⟨by decide, ⟨rfl, by decide, by decide, rfl, by decide, by decide⟩, ?_, ?_, ?_, ?_, ?_, ?_, ?_, ?_, ?_, ?_, ⟨rfl, by decide, by decide⟩, ?_, ?_, ?_, ?_, ⟨rfl, by decide, by decide⟩, ?_, ⟨rfl, Or.inl rfl, rfl, Or.inl rfl, rfl, by decide, by decide⟩, ?_, ?_, ?_, ?_, ?_, ?_, ?_⟩
  · intro r h0 h1; exact ⟨rfl, Int.le_refl 0, (by decide : (0 : Int) ≤ 9), fun _ => rfl⟩
  · intro r k h0 h1 h2 h3; have h3 : k < 0 := h3; omega
  · intro b h0 h1; have h1 : b < 0 := h1; omega
  · intro b h0 h1; have h1 : b < 0 := h1; omega
  · intro b w h0 h1; have h1 : b < 0 := h1; omega
  · intro i h0 h1; exact ⟨rfl, Int.le_refl 0, (by decide : (0 : Int) ≤ 1000000)⟩
  · intro b h0 h1; exact ⟨rfl, rfl, rfl⟩
  · intro r k h0 h1 h2 h3; have h3 : k < 0 := h3; omega
  · intro b h0 h1; have h1 : b < 0 := h1; omega
  · intro r h0 h1 h2; have h2 : (0 : Int) < 0 := h2; omega
  · intro u h0 h1; have h1 : u < 0 := h1; omega
  · intro u i h0 h1; have h1 : u < 0 := h1; omega
  · intro u i j h0 h1; have h1 : u < 0 := h1; omega
  · intro u b h0 h1; have h1 : u < 0 := h1; omega
  · intro i h0 h1; have h1 : i < 0 := h1; omega
  · exact ⟨rfl, Or.inl rfl, Int.le_refl 0, (by decide : (0 : Int) ≤ 200), fun _ => rfl, fun h => absurd (show (0 : Int) = 1 from h) (by decide)⟩
  · exact ⟨rfl, Or.inl rfl, Int.le_refl 0, (by decide : (0 : Int) ≤ 200), fun _ => rfl, fun h => absurd (show (0 : Int) = 1 from h) (by decide)⟩
  · intro i h0 h1; have h1 : i < 0 := h1; omega
  · intro i h0 h1; have h1 : i < 0 := h1; omega
  · exact ⟨Or.inl rfl, Or.inl rfl, ⟨fun h => absurd (show (0 : Int) = 1 from h) (by decide), fun h => absurd (show (0 : Int) = 1 from h.1) (by decide)⟩, fun h => absurd (show (0 : Int) = 1 from h) (by decide)⟩
  · intro i h0 h1; have h1 : i < 0 := h1; omega
  · exact ⟨Or.inl rfl, Int.le_refl 0, Int.le_refl 0, Int.le_refl 0, Int.le_refl 0, fun h => absurd (show (0 : Int) = 1 from h) (by decide), fun h => absurd (show (0 : Int) = 1 from h) (by decide)⟩
end
section
/-! ===== small methods ===== -/
set_option maxHeartbeats 4000000 in
set_option maxRecDepth 100000 in
theorem c_isRoutine {M : fr_M} {r : Int} {Q : Option fr_V → fr_H → fr_M → Prop} (h1 : 0 ≤ r ∧ r < M 1 0 → Q (some (.inl 1)) sh0 M) (h0 : ¬ (0 ≤ r ∧ r < M 1 0) → Q (some (.inl 0)) sh0 M) : fr_Call 73 [.inr (.inl 1), .inl r] sh0 M Q := by
  refine fr_cgo k73 [some (.inr (.inl 1)), some (.inl r)] 0 0 [] 400 rfl rfl rfl rfl ?_
  repeat' (first | (refine And.intro (by first | omega | (simp (disch := decide) only [up_n, up_s, if_true, if_false, ite_true, ite_false, reduceIte, not_true_eq_false, not_false_eq_true]; omega)) ?_) | (refine And.intro (fun hc => ?_) (fun hc => ?_) <;> (try (simp (disch := decide) only [up_n, up_s, if_true, if_false, ite_true, ite_false, reduceIte, not_true_eq_false, not_false_eq_true] at hc)) <;> (try (exfalso; omega))) | (refine fun (hc : ¬ _) => ?_; try (simp (disch := decide) only [up_n, up_s, if_true, if_false, ite_true, ite_false, reduceIte, not_true_eq_false, not_false_eq_true] at hc)) | (refine fun (hc : _ = _) => ?_; try (simp (disch := decide) only [up_n, up_s, if_true, if_false, ite_true, ite_false, reduceIte, not_true_eq_false, not_false_eq_true] at hc)))
  all_goals first | exact h1 (by omega) | exact h0 (by omega)
set_option maxHeartbeats 4000000 in
set_option maxRecDepth 100000 in
theorem c_hasBlocks {M : fr_M} {r : Int} {Q : Option fr_V → fr_H → fr_M → Prop} (hP : 0 ≤ M 1 0 ∧ M 1 0 ≤ 6) (h1 : (0 ≤ r ∧ r < M 1 0) ∧ 0 < M 2 r → Q (some (.inl 1)) sh0 M) (h0 : ¬ ((0 ≤ r ∧ r < M 1 0) ∧ 0 < M 2 r) → Q (some (.inl 0)) sh0 M) : fr_Call 74 [.inr (.inl 1), .inl r] sh0 M Q := by
  refine fr_cgo k74 [some (.inr (.inl 1)), some (.inl r)] 0 0 [] 400 rfl rfl rfl rfl ?_
  repeat' (first | (refine And.intro (by first | omega | (simp (disch := decide) only [up_n, up_s, if_true, if_false, ite_true, ite_false, reduceIte, not_true_eq_false, not_false_eq_true]; omega)) ?_) | (refine c_isRoutine (fun hc => ?_) (fun hc => ?_)) | (refine And.intro (fun hc => ?_) (fun hc => ?_) <;> (try (simp (disch := decide) only [up_n, up_s, if_true, if_false, ite_true, ite_false, reduceIte, not_true_eq_false, not_false_eq_true] at hc)) <;> (try (exfalso; omega))) | (refine fun (hc : ¬ _) => ?_; try (simp (disch := decide) only [up_n, up_s, if_true, if_false, ite_true, ite_false, reduceIte, not_true_eq_false, not_false_eq_true] at hc)) | (refine fun (hc : _ = _) => ?_; try (simp (disch := decide) only [up_n, up_s, if_true, if_false, ite_true, ite_false, reduceIte, not_true_eq_false, not_false_eq_true] at hc)))
  all_goals first | exact h1 (by omega) | exact h0 (by omega) | omega
set_option maxHeartbeats 4000000 in
set_option maxRecDepth 100000 in
theorem c_isBlock {M : fr_M} {b : Int} {Q : Option fr_V → fr_H → fr_M → Prop} (h1 : 0 ≤ b ∧ b < M 1 1 → Q (some (.inl 1)) sh0 M) (h0 : ¬ (0 ≤ b ∧ b < M 1 1) → Q (some (.inl 0)) sh0 M) : fr_Call 61 [.inr (.inl 1), .inl b] sh0 M Q := by
  refine fr_cgo k61 [some (.inr (.inl 1)), some (.inl b)] 0 0 [] 400 rfl rfl rfl rfl ?_
  repeat' (first | (refine And.intro (by first | omega | (simp (disch := decide) only [up_n, up_s, if_true, if_false, ite_true, ite_false, reduceIte, not_true_eq_false, not_false_eq_true]; omega)) ?_) | (refine And.intro (fun hc => ?_) (fun hc => ?_) <;> (try (simp (disch := decide) only [up_n, up_s, if_true, if_false, ite_true, ite_false, reduceIte, not_true_eq_false, not_false_eq_true] at hc)) <;> (try (exfalso; omega))) | (refine fun (hc : ¬ _) => ?_; try (simp (disch := decide) only [up_n, up_s, if_true, if_false, ite_true, ite_false, reduceIte, not_true_eq_false, not_false_eq_true] at hc)) | (refine fun (hc : _ = _) => ?_; try (simp (disch := decide) only [up_n, up_s, if_true, if_false, ite_true, ite_false, reduceIte, not_true_eq_false, not_false_eq_true] at hc)))
  all_goals first | exact h1 (by omega) | exact h0 (by omega)
set_option maxHeartbeats 4000000 in
set_option maxRecDepth 100000 in
theorem c_isBlockOf {M : fr_M} {r b : Int} {Q : Option fr_V → fr_H → fr_M → Prop} (hP : 0 ≤ M 1 1 ∧ M 1 1 ≤ 40) (h1 : (0 ≤ b ∧ b < M 1 1) ∧ M 4 b = r → Q (some (.inl 1)) sh0 M) (h0 : ¬ ((0 ≤ b ∧ b < M 1 1) ∧ M 4 b = r) → Q (some (.inl 0)) sh0 M) : fr_Call 75 [.inr (.inl 1), .inl r, .inl b] sh0 M Q := by
  refine fr_cgo k75 [some (.inr (.inl 1)), some (.inl r), some (.inl b)] 0 0 [] 400 rfl rfl rfl rfl ?_
  repeat' (first | (refine And.intro (by first | omega | (simp (disch := decide) only [up_n, up_s, if_true, if_false, ite_true, ite_false, reduceIte, not_true_eq_false, not_false_eq_true]; omega)) ?_) | (refine c_isBlock (fun hc => ?_) (fun hc => ?_)) | (refine And.intro (fun hc => ?_) (fun hc => ?_) <;> (try (simp (disch := decide) only [up_n, up_s, if_true, if_false, ite_true, ite_false, reduceIte, not_true_eq_false, not_false_eq_true] at hc)) <;> (try (exfalso; omega))) | (refine fun (hc : ¬ _) => ?_; try (simp (disch := decide) only [up_n, up_s, if_true, if_false, ite_true, ite_false, reduceIte, not_true_eq_false, not_false_eq_true] at hc)) | (refine fun (hc : _ = _) => ?_; try (simp (disch := decide) only [up_n, up_s, if_true, if_false, ite_true, ite_false, reduceIte, not_true_eq_false, not_false_eq_true] at hc)))
  all_goals first | exact h1 (by omega) | exact h0 (by omega) | omega
set_option maxHeartbeats 4000000 in
set_option maxRecDepth 100000 in
theorem c_ownBlock {M : fr_M} {r w : Int} {Q : Option fr_V → fr_H → fr_M → Prop} (hr : 0 ≤ r ∧ r < 6) (hw : 0 ≤ w ∧ w < 9) (h : Q (some (.inl (M 3 (r * 9 + w)))) sh0 M) : fr_Call 8 [.inr (.inl 1), .inl r, .inl w] sh0 M Q := by
  refine fr_cgo k8 [some (.inr (.inl 1)), some (.inl r), some (.inl w)] 0 0 [] 400 rfl rfl rfl rfl ?_
  repeat' (first | (refine And.intro (by first | omega | (simp (disch := decide) only [up_n, up_s, if_true, if_false, ite_true, ite_false, reduceIte, not_true_eq_false, not_false_eq_true]; omega)) ?_) | (refine And.intro (fun hc => ?_) (fun hc => ?_) <;> (try (simp (disch := decide) only [up_n, up_s, if_true, if_false, ite_true, ite_false, reduceIte, not_true_eq_false, not_false_eq_true] at hc)) <;> (try (exfalso; omega))) | (refine fun (hc : ¬ _) => ?_; try (simp (disch := decide) only [up_n, up_s, if_true, if_false, ite_true, ite_false, reduceIte, not_true_eq_false, not_false_eq_true] at hc)) | (refine fun (hc : _ = _) => ?_; try (simp (disch := decide) only [up_n, up_s, if_true, if_false, ite_true, ite_false, reduceIte, not_true_eq_false, not_false_eq_true] at hc)))
  exact h
set_option maxHeartbeats 4000000 in
set_option maxRecDepth 100000 in
theorem c_wayOf {M : fr_M} {b w : Int} {Q : Option fr_V → fr_H → fr_M → Prop} (hb : 0 ≤ b ∧ b < 40) (hw : 0 ≤ w ∧ w < 4) (h1 : w < M 8 b → Q (some (.inl (M 11 (b * 4 + w)))) sh0 M) (h0 : ¬ w < M 8 b → Q (some (.inl (-1))) sh0 M) : fr_Call 13 [.inr (.inl 1), .inl b, .inl w] sh0 M Q := by
  refine fr_cgo k13 [some (.inr (.inl 1)), some (.inl b), some (.inl w)] 0 0 [] 400 rfl rfl rfl rfl ?_
  repeat' (first | (refine And.intro (by first | omega | (simp (disch := decide) only [up_n, up_s, if_true, if_false, ite_true, ite_false, reduceIte, not_true_eq_false, not_false_eq_true]; omega)) ?_) | (refine And.intro (fun hc => ?_) (fun hc => ?_) <;> (try (simp (disch := decide) only [up_n, up_s, if_true, if_false, ite_true, ite_false, reduceIte, not_true_eq_false, not_false_eq_true] at hc)) <;> (try (exfalso; omega))) | (refine fun (hc : ¬ _) => ?_; try (simp (disch := decide) only [up_n, up_s, if_true, if_false, ite_true, ite_false, reduceIte, not_true_eq_false, not_false_eq_true] at hc)) | (refine fun (hc : _ = _) => ?_; try (simp (disch := decide) only [up_n, up_s, if_true, if_false, ite_true, ite_false, reduceIte, not_true_eq_false, not_false_eq_true] at hc)))
  all_goals first | exact h1 (by omega) | exact h0 (by omega)
set_option maxHeartbeats 4000000 in
set_option maxRecDepth 100000 in
theorem c_countOf {M : fr_M} {b w : Int} {Q : Option fr_V → fr_H → fr_M → Prop} (hb : 0 ≤ b ∧ b < 40) (hw : 0 ≤ w ∧ w < 4) (h1 : w < M 8 b → Q (some (.inl (M 12 (b * 4 + w)))) sh0 M) (h0 : ¬ w < M 8 b → Q (some (.inl 0)) sh0 M) : fr_Call 10 [.inr (.inl 1), .inl b, .inl w] sh0 M Q := by
  refine fr_cgo k10 [some (.inr (.inl 1)), some (.inl b), some (.inl w)] 0 0 [] 400 rfl rfl rfl rfl ?_
  repeat' (first | (refine And.intro (by first | omega | (simp (disch := decide) only [up_n, up_s, if_true, if_false, ite_true, ite_false, reduceIte, not_true_eq_false, not_false_eq_true]; omega)) ?_) | (refine And.intro (fun hc => ?_) (fun hc => ?_) <;> (try (simp (disch := decide) only [up_n, up_s, if_true, if_false, ite_true, ite_false, reduceIte, not_true_eq_false, not_false_eq_true] at hc)) <;> (try (exfalso; omega))) | (refine fun (hc : ¬ _) => ?_; try (simp (disch := decide) only [up_n, up_s, if_true, if_false, ite_true, ite_false, reduceIte, not_true_eq_false, not_false_eq_true] at hc)) | (refine fun (hc : _ = _) => ?_; try (simp (disch := decide) only [up_n, up_s, if_true, if_false, ite_true, ite_false, reduceIte, not_true_eq_false, not_false_eq_true] at hc)))
  all_goals first | exact h1 (by omega) | exact h0 (by omega)
set_option maxHeartbeats 4000000 in
set_option maxRecDepth 100000 in
theorem c_goesOn {M : fr_M} {b : Int} {Q : Option fr_V → fr_H → fr_M → Prop} (hb : 0 ≤ b ∧ b < 40) (h1 : M 7 b = 2 ∨ M 7 b = 5 ∨ M 7 b = 6 → Q (some (.inl 1)) sh0 M) (h0 : ¬ (M 7 b = 2 ∨ M 7 b = 5 ∨ M 7 b = 6) → Q (some (.inl 0)) sh0 M) : fr_Call 9 [.inr (.inl 1), .inl b] sh0 M Q := by
  refine fr_cgo k9 [some (.inr (.inl 1)), some (.inl b)] 0 0 [] 400 rfl rfl rfl rfl ?_
  repeat' (first | (refine And.intro (by first | omega | (simp (disch := decide) only [up_n, up_s, if_true, if_false, ite_true, ite_false, reduceIte, not_true_eq_false, not_false_eq_true]; omega)) ?_) | (refine And.intro (fun hc => ?_) (fun hc => ?_) <;> (try (simp (disch := decide) only [up_n, up_s, if_true, if_false, ite_true, ite_false, reduceIte, not_true_eq_false, not_false_eq_true] at hc)) <;> (try (exfalso; omega))) | (refine fun (hc : ¬ _) => ?_; try (simp (disch := decide) only [up_n, up_s, if_true, if_false, ite_true, ite_false, reduceIte, not_true_eq_false, not_false_eq_true] at hc)) | (refine fun (hc : _ = _) => ?_; try (simp (disch := decide) only [up_n, up_s, if_true, if_false, ite_true, ite_false, reduceIte, not_true_eq_false, not_false_eq_true] at hc)))
  all_goals first | exact h1 (by omega) | exact h0 (by omega)
set_option maxHeartbeats 4000000 in
set_option maxRecDepth 100000 in
theorem c_disturb {M : fr_M} {Q : Option fr_V → fr_H → fr_M → Prop} (h : Q none sh0 (fr_up M 29 18 0)) : fr_Call 26 [.inr (.inl 29)] sh0 M Q := by
  refine fr_cgo k26 [some (.inr (.inl 29))] 0 0 [] 400 rfl rfl rfl rfl ?_
  repeat' (first | (refine And.intro (by first | omega | (simp (disch := decide) only [up_n, up_s, if_true, if_false, ite_true, ite_false, reduceIte, not_true_eq_false, not_false_eq_true]; omega)) ?_) | (refine And.intro (fun hc => ?_) (fun hc => ?_) <;> (try (simp (disch := decide) only [up_n, up_s, if_true, if_false, ite_true, ite_false, reduceIte, not_true_eq_false, not_false_eq_true] at hc)) <;> (try (exfalso; omega))) | (refine fun (hc : ¬ _) => ?_; try (simp (disch := decide) only [up_n, up_s, if_true, if_false, ite_true, ite_false, reduceIte, not_true_eq_false, not_false_eq_true] at hc)) | (refine fun (hc : _ = _) => ?_; try (simp (disch := decide) only [up_n, up_s, if_true, if_false, ite_true, ite_false, reduceIte, not_true_eq_false, not_false_eq_true] at hc)))
  exact h
set_option maxHeartbeats 4000000 in
set_option maxRecDepth 100000 in
theorem c_put {M : fr_M} {r p b : Int} {Q : Option fr_V → fr_H → fr_M → Prop} (hr : 0 ≤ r ∧ r < 6) (hw : 0 ≤ p ∧ p < 9) (hb : 0 ≤ b ∧ b < 40) (h : Q none sh0 (fr_up (fr_up M 14 (r * 9 + p) b) 15 b p)) : fr_Call 45 [.inr (.inl 13), .inl r, .inl p, .inl b] sh0 M Q := by
  refine fr_cgo k45 [some (.inr (.inl 13)), some (.inl r), some (.inl p), some (.inl b)] 0 0 [] 400 rfl rfl rfl rfl ?_
  repeat' (first | (refine And.intro (by first | omega | (simp (disch := decide) only [up_n, up_s, if_true, if_false, ite_true, ite_false, reduceIte, not_true_eq_false, not_false_eq_true]; omega)) ?_) | (refine And.intro (fun hc => ?_) (fun hc => ?_) <;> (try (simp (disch := decide) only [up_n, up_s, if_true, if_false, ite_true, ite_false, reduceIte, not_true_eq_false, not_false_eq_true] at hc)) <;> (try (exfalso; omega))) | (refine fun (hc : ¬ _) => ?_; try (simp (disch := decide) only [up_n, up_s, if_true, if_false, ite_true, ite_false, reduceIte, not_true_eq_false, not_false_eq_true] at hc)) | (refine fun (hc : _ = _) => ?_; try (simp (disch := decide) only [up_n, up_s, if_true, if_false, ite_true, ite_false, reduceIte, not_true_eq_false, not_false_eq_true] at hc)))
  exact h
set_option maxHeartbeats 4000000 in
set_option maxRecDepth 100000 in
theorem c_asNumber {M : fr_M} {z : Int} {Q : Option fr_V → fr_H → fr_M → Prop} (hz : z = 0 ∨ z = 1) (h : Q (some (.inl z)) sh0 M) : fr_Call 113 [.inl z] sh0 M Q := by
  refine fr_cgo k113 [some (.inl z)] 0 0 [] 400 rfl rfl rfl rfl ?_
  repeat' (first | (refine And.intro (by first | omega | (simp (disch := decide) only [up_n, up_s, if_true, if_false, ite_true, ite_false, reduceIte, not_true_eq_false, not_false_eq_true]; omega)) ?_) | (refine And.intro (fun hc => ?_) (fun hc => ?_) <;> (try (simp (disch := decide) only [up_n, up_s, if_true, if_false, ite_true, ite_false, reduceIte, not_true_eq_false, not_false_eq_true] at hc)) <;> (try (exfalso; omega))) | (refine fun (hc : ¬ _) => ?_; try (simp (disch := decide) only [up_n, up_s, if_true, if_false, ite_true, ite_false, reduceIte, not_true_eq_false, not_false_eq_true] at hc)) | (refine fun (hc : _ = _) => ?_; try (simp (disch := decide) only [up_n, up_s, if_true, if_false, ite_true, ite_false, reduceIte, not_true_eq_false, not_false_eq_true] at hc)))
  all_goals (rcases hz with rfl | rfl <;> first | exact h | omega)
set_option maxHeartbeats 4000000 in
set_option maxRecDepth 100000 in
theorem c_isMovable {M : fr_M} {b : Int} {Q : Option fr_V → fr_H → fr_M → Prop} (hP : 0 ≤ M 1 1 ∧ M 1 1 ≤ 40) (h1 : (0 ≤ b ∧ b < M 1 1) ∧ 0 < M 5 b → Q (some (.inl 1)) sh0 M) (h0 : ¬ ((0 ≤ b ∧ b < M 1 1) ∧ 0 < M 5 b) → Q (some (.inl 0)) sh0 M) : fr_Call 112 [.inr (.inl 0), .inl b] sh0 M Q := by
  refine fr_cgo k112 [some (.inr (.inl 0)), some (.inl b)] 0 0 [] 400 rfl rfl rfl rfl ?_
  repeat' (first | (refine And.intro (by first | omega | (simp (disch := decide) only [up_n, up_s, if_true, if_false, ite_true, ite_false, reduceIte, not_true_eq_false, not_false_eq_true]; omega)) ?_) | (refine c_isBlock (fun hc => ?_) (fun hc => ?_)) | (refine And.intro (fun hc => ?_) (fun hc => ?_) <;> (try (simp (disch := decide) only [up_n, up_s, if_true, if_false, ite_true, ite_false, reduceIte, not_true_eq_false, not_false_eq_true] at hc)) <;> (try (exfalso; omega))) | (refine fun (hc : ¬ _) => ?_; try (simp (disch := decide) only [up_n, up_s, if_true, if_false, ite_true, ite_false, reduceIte, not_true_eq_false, not_false_eq_true] at hc)) | (refine fun (hc : _ = _) => ?_; try (simp (disch := decide) only [up_n, up_s, if_true, if_false, ite_true, ite_false, reduceIte, not_true_eq_false, not_false_eq_true] at hc)))
  all_goals first | exact h1 (by omega) | exact h0 (by omega) | omega
/-! the reference's -/
set_option maxHeartbeats 4000000 in
set_option maxRecDepth 100000 in
theorem m_in {M : fr_M} {v lo hi : Int} {Q : Option fr_V → fr_H → fr_M → Prop} (h1 : lo ≤ v ∧ v ≤ hi → Q (some (.inl 1)) sh0 M) (h0 : ¬ (lo ≤ v ∧ v ≤ hi) → Q (some (.inl 0)) sh0 M) : fr_Call 140 [.inl v, .inl lo, .inl hi] sh0 M Q := by
  refine fr_cgo k140 [some (.inl v), some (.inl lo), some (.inl hi)] 0 0 [] 400 rfl rfl rfl rfl ?_
  repeat' (first | (refine And.intro (by first | omega | (simp (disch := decide) only [up_n, up_s, if_true, if_false, ite_true, ite_false, reduceIte, not_true_eq_false, not_false_eq_true]; omega)) ?_) | (refine And.intro (fun hc => ?_) (fun hc => ?_) <;> (try (simp (disch := decide) only [up_n, up_s, if_true, if_false, ite_true, ite_false, reduceIte, not_true_eq_false, not_false_eq_true] at hc)) <;> (try (exfalso; omega))) | (refine fun (hc : ¬ _) => ?_; try (simp (disch := decide) only [up_n, up_s, if_true, if_false, ite_true, ite_false, reduceIte, not_true_eq_false, not_false_eq_true] at hc)) | (refine fun (hc : _ = _) => ?_; try (simp (disch := decide) only [up_n, up_s, if_true, if_false, ite_true, ite_false, reduceIte, not_true_eq_false, not_false_eq_true] at hc)))
  all_goals first | exact h1 (by omega) | exact h0 (by omega)
set_option maxHeartbeats 4000000 in
set_option maxRecDepth 100000 in
theorem m_isRoutine {M : fr_M} {r : Int} {Q : Option fr_V → fr_H → fr_M → Prop} (hP : 0 ≤ M 75 0 ∧ M 75 0 ≤ 6) (h1 : 0 ≤ r ∧ r < M 75 0 → Q (some (.inl 1)) sh0 M) (h0 : ¬ (0 ≤ r ∧ r < M 75 0) → Q (some (.inl 0)) sh0 M) : fr_Call 141 [.inr (.inl 75), .inl r] sh0 M Q := by
  refine fr_cgo k141 [some (.inr (.inl 75)), some (.inl r)] 0 0 [] 400 rfl rfl rfl rfl ?_
  repeat' (first | (refine And.intro (by first | omega | (simp (disch := decide) only [up_n, up_s, if_true, if_false, ite_true, ite_false, reduceIte, not_true_eq_false, not_false_eq_true]; omega)) ?_) | (refine m_in (fun hc => ?_) (fun hc => ?_)) | (refine And.intro (fun hc => ?_) (fun hc => ?_) <;> (try (simp (disch := decide) only [up_n, up_s, if_true, if_false, ite_true, ite_false, reduceIte, not_true_eq_false, not_false_eq_true] at hc)) <;> (try (exfalso; omega))) | (refine fun (hc : ¬ _) => ?_; try (simp (disch := decide) only [up_n, up_s, if_true, if_false, ite_true, ite_false, reduceIte, not_true_eq_false, not_false_eq_true] at hc)) | (refine fun (hc : _ = _) => ?_; try (simp (disch := decide) only [up_n, up_s, if_true, if_false, ite_true, ite_false, reduceIte, not_true_eq_false, not_false_eq_true] at hc)))
  all_goals first | exact h1 (by omega) | exact h0 (by omega)
set_option maxHeartbeats 4000000 in
set_option maxRecDepth 100000 in
theorem m_isBlock {M : fr_M} {b : Int} {Q : Option fr_V → fr_H → fr_M → Prop} (hP : 0 ≤ M 75 4 ∧ M 75 4 ≤ 40) (h1 : 0 ≤ b ∧ b < M 75 4 → Q (some (.inl 1)) sh0 M) (h0 : ¬ (0 ≤ b ∧ b < M 75 4) → Q (some (.inl 0)) sh0 M) : fr_Call 142 [.inr (.inl 75), .inl b] sh0 M Q := by
  refine fr_cgo k142 [some (.inr (.inl 75)), some (.inl b)] 0 0 [] 400 rfl rfl rfl rfl ?_
  repeat' (first | (refine And.intro (by first | omega | (simp (disch := decide) only [up_n, up_s, if_true, if_false, ite_true, ite_false, reduceIte, not_true_eq_false, not_false_eq_true]; omega)) ?_) | (refine m_in (fun hc => ?_) (fun hc => ?_)) | (refine And.intro (fun hc => ?_) (fun hc => ?_) <;> (try (simp (disch := decide) only [up_n, up_s, if_true, if_false, ite_true, ite_false, reduceIte, not_true_eq_false, not_false_eq_true] at hc)) <;> (try (exfalso; omega))) | (refine fun (hc : ¬ _) => ?_; try (simp (disch := decide) only [up_n, up_s, if_true, if_false, ite_true, ite_false, reduceIte, not_true_eq_false, not_false_eq_true] at hc)) | (refine fun (hc : _ = _) => ?_; try (simp (disch := decide) only [up_n, up_s, if_true, if_false, ite_true, ite_false, reduceIte, not_true_eq_false, not_false_eq_true] at hc)))
  all_goals first | exact h1 (by omega) | exact h0 (by omega)
set_option maxHeartbeats 4000000 in
set_option maxRecDepth 100000 in
theorem m_isFirst {M : fr_M} {b : Int} {Q : Option fr_V → fr_H → fr_M → Prop} (hb : 0 ≤ b ∧ b < 40) (hr : 0 ≤ M 79 b ∧ M 79 b < 6) (h1 : M 77 (9 * M 79 b) = b → Q (some (.inl 1)) sh0 M) (h0 : ¬ M 77 (9 * M 79 b) = b → Q (some (.inl 0)) sh0 M) : fr_Call 143 [.inr (.inl 75), .inl b] sh0 M Q := by
  refine fr_cgo k143 [some (.inr (.inl 75)), some (.inl b)] 0 0 [] 400 rfl rfl rfl rfl ?_
  repeat' (first | (refine And.intro (by first | omega | (simp (disch := decide) only [up_n, up_s, if_true, if_false, ite_true, ite_false, reduceIte, not_true_eq_false, not_false_eq_true]; omega)) ?_) | (refine And.intro (fun hc => ?_) (fun hc => ?_) <;> (try (simp (disch := decide) only [up_n, up_s, if_true, if_false, ite_true, ite_false, reduceIte, not_true_eq_false, not_false_eq_true] at hc)) <;> (try (exfalso; omega))) | (refine fun (hc : ¬ _) => ?_; try (simp (disch := decide) only [up_n, up_s, if_true, if_false, ite_true, ite_false, reduceIte, not_true_eq_false, not_false_eq_true] at hc)) | (refine fun (hc : _ = _) => ?_; try (simp (disch := decide) only [up_n, up_s, if_true, if_false, ite_true, ite_false, reduceIte, not_true_eq_false, not_false_eq_true] at hc)))
  all_goals first | exact h1 (by omega) | exact h0 (by omega)
end
section
theorem sv {a b : Int} (h : a = b) : (some (.inl a) : Option fr_V) = some (.inl b) := by rw [h]
theorem Two.of {mx mm : Nat} {as : List fr_V} {M : fr_M} {N : fr_M → Prop} (h : fr_Call mx (.inr (.inl 0) :: as) sh0 M (fun r sh M1 => sh = sh0 ∧ ∃ v, r = some (.inl v) ∧ fr_Call mm (.inr (.inl 75) :: as) sh0 M1 (fun r2 sh2 M2 => sh2 = sh0 ∧ r2 = some (.inl v) ∧ N M2))) : Two mx mm as M N := h
set_option maxHeartbeats 4000000 in
set_option maxRecDepth 100000 in
theorem c_addRoutine {M : fr_M} {Q : Option fr_V → fr_H → fr_M → Prop} (hP : 0 ≤ M 1 0 ∧ M 1 0 ≤ 6) (h : Q (some (.inl (M 1 0))) sh0 (fr_up M 1 0 (M 1 0 + 1))) : fr_Call 76 [.inr (.inl 1)] sh0 M Q := by
  refine fr_cgo k76 [some (.inr (.inl 1)), none] 0 0 [] 400 rfl rfl rfl rfl ?_
  repeat' (first | (refine And.intro (by first | omega | (simp (disch := decide) only [up_n, up_s, if_true, if_false, ite_true, ite_false, reduceIte, not_true_eq_false, not_false_eq_true]; omega)) ?_) | (refine And.intro (fun hc => ?_) (fun hc => ?_) <;> (try (simp (disch := decide) only [up_n, up_s, if_true, if_false, ite_true, ite_false, reduceIte, not_true_eq_false, not_false_eq_true] at hc)) <;> (try (exfalso; omega))) | (refine fun (hc : ¬ _) => ?_; try (simp (disch := decide) only [up_n, up_s, if_true, if_false, ite_true, ite_false, reduceIte, not_true_eq_false, not_false_eq_true] at hc)) | (refine fun (hc : _ = _) => ?_; try (simp (disch := decide) only [up_n, up_s, if_true, if_false, ite_true, ite_false, reduceIte, not_true_eq_false, not_false_eq_true] at hc)))
  exact h
set_option maxHeartbeats 4000000 in
set_option maxRecDepth 100000 in
theorem op_routine {n : Int} {M : fr_M} (hR : Rel n M) (hn : n ≤ 512) : Two 107 144 [] M (Rel (n + 1)) := by
  obtain ⟨h0, h1, h2, h3, h4, h5, h6, h7, h8, o1, o2, o3, k1, k2, k3, k4, k5, t1, t2, s1, r1, r1', r2, r2', r3, r4, l⟩ := id hR
  obtain ⟨p1, p2, p3, p4, p5, p6⟩ := id h1
  refine Two.of ?_
  refine fr_cgo k107 [some (.inr (.inl 0))] 0 0 [] 400 rfl rfl rfl rfl ?_
  repeat' (first | (refine And.intro (by first | omega | (simp (disch := decide) only [up_n, up_s, if_true, if_false, ite_true, ite_false, reduceIte, not_true_eq_false, not_false_eq_true]; omega)) ?_) | (refine c_addRoutine (by omega) ?_) | (refine And.intro (fun hc => ?_) (fun hc => ?_) <;> (try (simp (disch := decide) only [up_n, up_s, if_true, if_false, ite_true, ite_false, reduceIte, not_true_eq_false, not_false_eq_true] at hc)) <;> (try (exfalso; omega))) | (refine fun (hc : ¬ _) => ?_; try (simp (disch := decide) only [up_n, up_s, if_true, if_false, ite_true, ite_false, reduceIte, not_true_eq_false, not_false_eq_true] at hc)) | (refine fun (hc : _ = _) => ?_; try (simp (disch := decide) only [up_n, up_s, if_true, if_false, ite_true, ite_false, reduceIte, not_true_eq_false, not_false_eq_true] at hc)))
  · refine ⟨rfl, _, rfl, ?_⟩
    refine fr_cgo k144 [some (.inr (.inl 75))] 0 0 [] 400 rfl rfl rfl rfl ?_
    repeat' (first | (refine And.intro (by first | omega | (simp (disch := decide) only [up_n, up_s, if_true, if_false, ite_true, ite_false, reduceIte, not_true_eq_false, not_false_eq_true]; omega)) ?_) | (refine And.intro (fun hc => ?_) (fun hc => ?_) <;> (try (simp (disch := decide) only [up_n, up_s, if_true, if_false, ite_true, ite_false, reduceIte, not_true_eq_false, not_false_eq_true] at hc)) <;> (try (exfalso; omega))) | (refine fun (hc : ¬ _) => ?_; try (simp (disch := decide) only [up_n, up_s, if_true, if_false, ite_true, ite_false, reduceIte, not_true_eq_false, not_false_eq_true] at hc)) | (refine fun (hc : _ = _) => ?_; try (simp (disch := decide) only [up_n, up_s, if_true, if_false, ite_true, ite_false, reduceIte, not_true_eq_false, not_false_eq_true] at hc)))
    all_goals first | (exfalso; omega) | skip
    · refine ⟨rfl, sv ?_, ?_⟩
      · show M 75 0 + 1 - 1 = M 1 0
        omega
      · refine ⟨by omega, ?_, ?_, h3, ?_, ?_, h6, h7, h8, o1, o2, o3, k1, ?_, k3, k4, k5, t1, t2, s1, r1, r1', r2, r2', r3, r4, l.keep (kp_u (kp_u kp_r rfl) rfl)⟩
        · show M 1 0 + 1 = M 75 0 + 1 ∧ 0 ≤ M 75 0 + 1 ∧ M 75 0 + 1 ≤ 6 ∧ M 1 1 = M 75 4 ∧ 0 ≤ M 75 4 ∧ M 75 4 ≤ 40
          omega
        · intro r q0 q1
          have e := h2 r q0 q1
          simp (disch := decide) only [up_n, up_s, if_true, if_false, ite_true, ite_false, reduceIte, not_true_eq_false, not_false_eq_true]
          omega
        · intro b q0 q1
          have e := h4 b q0 q1
          simp (disch := decide) only [up_n, up_s, if_true, if_false, ite_true, ite_false, reduceIte, not_true_eq_false, not_false_eq_true]
          omega
        · intro b q0 q1
          have e := h5 b q0 q1
          simp (disch := decide) only [up_n, up_s, if_true, if_false, ite_true, ite_false, reduceIte, not_true_eq_false, not_false_eq_true]
          omega
        · intro u q0 q1
          have e := k2 u q0 q1
          simp (disch := decide) only [up_n, up_s, if_true, if_false, ite_true, ite_false, reduceIte, not_true_eq_false, not_false_eq_true]
          omega
  · refine ⟨rfl, _, rfl, ?_⟩
    refine fr_cgo k144 [some (.inr (.inl 75))] 0 0 [] 400 rfl rfl rfl rfl ?_
    repeat' (first | (refine And.intro (by first | omega | (simp (disch := decide) only [up_n, up_s, if_true, if_false, ite_true, ite_false, reduceIte, not_true_eq_false, not_false_eq_true]; omega)) ?_) | (refine And.intro (fun hc => ?_) (fun hc => ?_) <;> (try (simp (disch := decide) only [up_n, up_s, if_true, if_false, ite_true, ite_false, reduceIte, not_true_eq_false, not_false_eq_true] at hc)) <;> (try (exfalso; omega))) | (refine fun (hc : ¬ _) => ?_; try (simp (disch := decide) only [up_n, up_s, if_true, if_false, ite_true, ite_false, reduceIte, not_true_eq_false, not_false_eq_true] at hc)) | (refine fun (hc : _ = _) => ?_; try (simp (disch := decide) only [up_n, up_s, if_true, if_false, ite_true, ite_false, reduceIte, not_true_eq_false, not_false_eq_true] at hc)))
    all_goals first | (exfalso; omega) | exact ⟨rfl, rfl, hR.next⟩
set_option maxHeartbeats 4000000 in
set_option maxRecDepth 100000 in
theorem op_tear {n : Int} {M : fr_M} (hR : Rel n M) (hn : n ≤ 512) : Two 129 191 [] M (Rel (n + 1)) := by
  obtain ⟨h0, h1, h2, h3, h4, h5, h6, h7, h8, o1, o2, o3, k1, k2, k3, k4, k5, t1, t2, s1, r1, r1', r2, r2', r3, r4, l⟩ := id hR
  refine Two.of ?_
  refine fr_cgo k129 [some (.inr (.inl 0)), none] 0 0 [] 400 rfl rfl rfl rfl ?_
  repeat' (first | (refine And.intro (by first | omega | (simp (disch := decide) only [up_n, up_s, if_true, if_false, ite_true, ite_false, reduceIte, not_true_eq_false, not_false_eq_true]; omega)) ?_) | (refine And.intro (fun hc => ?_) (fun hc => ?_) <;> (try (simp (disch := decide) only [up_n, up_s, if_true, if_false, ite_true, ite_false, reduceIte, not_true_eq_false, not_false_eq_true] at hc)) <;> (try (exfalso; omega))) | (refine fun (hc : ¬ _) => ?_; try (simp (disch := decide) only [up_n, up_s, if_true, if_false, ite_true, ite_false, reduceIte, not_true_eq_false, not_false_eq_true] at hc)) | (refine fun (hc : _ = _) => ?_; try (simp (disch := decide) only [up_n, up_s, if_true, if_false, ite_true, ite_false, reduceIte, not_true_eq_false, not_false_eq_true] at hc)))
  refine ⟨rfl, _, rfl, ?_⟩
  refine fr_cgo k191 [some (.inr (.inl 75)), none] 0 0 [] 400 rfl rfl rfl rfl ?_
  repeat' (first | (refine And.intro (by first | omega | (simp (disch := decide) only [up_n, up_s, if_true, if_false, ite_true, ite_false, reduceIte, not_true_eq_false, not_false_eq_true]; omega)) ?_) | (refine And.intro (fun hc => ?_) (fun hc => ?_) <;> (try (simp (disch := decide) only [up_n, up_s, if_true, if_false, ite_true, ite_false, reduceIte, not_true_eq_false, not_false_eq_true] at hc)) <;> (try (exfalso; omega))) | (refine fun (hc : ¬ _) => ?_; try (simp (disch := decide) only [up_n, up_s, if_true, if_false, ite_true, ite_false, reduceIte, not_true_eq_false, not_false_eq_true] at hc)) | (refine fun (hc : _ = _) => ?_; try (simp (disch := decide) only [up_n, up_s, if_true, if_false, ite_true, ite_false, reduceIte, not_true_eq_false, not_false_eq_true] at hc)))
  refine ⟨rfl, sv t1.1.symm, ?_⟩
  exact ⟨by omega, h1, h2, h3, h4, h5, h6, h7, h8, o1, o2, o3, k1, k2, k3, k4, k5, ⟨rfl, (by decide : (0 : Int) ≤ 0), (by decide : (0 : Int) ≤ 200)⟩, fun i q0 q1 => absurd (show i < 0 from q1) (by omega), s1, r1, r1', r2, r2', r3, r4, l.keep (kp_u (kp_u kp_r rfl) rfl)⟩
set_option maxHeartbeats 4000000 in
set_option maxRecDepth 100000 in
theorem op_has {n : Int} {M : fr_M} (hR : Rel n M) (hn : n ≤ 512) (a0 : Int) (g0 : fr_in a0) : Two 138 205 [.inl a0] M (Rel (n + 1)) := by
  obtain ⟨h0, h1, h2, h3, h4, h5, h6, h7, h8, o1, o2, o3, k1, k2, k3, k4, k5, t1, t2, s1, r1, r1', r2, r2', r3, r4, l⟩ := id hR
  obtain ⟨p1, p2, p3, p4, p5, p6⟩ := id h1
  obtain ⟨s2, s3, s4, s5, s6, s7⟩ := id s1
  have t11 := t1.1
  have k11 := k1.1
  refine Two.of ?_
  refine fr_cgo k138 [some (.inr (.inl 0)), some (.inl a0)] 0 0 [] 400 rfl rfl rfl rfl ?_
  repeat' (first | (refine And.intro (by first | omega | (simp (disch := decide) only [up_n, up_s, if_true, if_false, ite_true, ite_false, reduceIte, not_true_eq_false, not_false_eq_true]; omega)) ?_) | (refine c_asNumber (by rw [s2]; exact s3) ?_) | (refine And.intro (fun hc => ?_) (fun hc => ?_) <;> (try (simp (disch := decide) only [up_n, up_s, if_true, if_false, ite_true, ite_false, reduceIte, not_true_eq_false, not_false_eq_true] at hc)) <;> (try (exfalso; omega))) | (refine fun (hc : ¬ _) => ?_; try (simp (disch := decide) only [up_n, up_s, if_true, if_false, ite_true, ite_false, reduceIte, not_true_eq_false, not_false_eq_true] at hc)) | (refine fun (hc : _ = _) => ?_; try (simp (disch := decide) only [up_n, up_s, if_true, if_false, ite_true, ite_false, reduceIte, not_true_eq_false, not_false_eq_true] at hc)))
  all_goals first | (exfalso; omega) | refine ⟨rfl, _, rfl, ?_⟩
  all_goals (refine fr_cgo k205 [some (.inr (.inl 75)), some (.inl a0)] 0 0 [] 400 rfl rfl rfl rfl ?_)
  all_goals (repeat' (first | (refine And.intro (by first | omega | (simp (disch := decide) only [up_n, up_s, if_true, if_false, ite_true, ite_false, reduceIte, not_true_eq_false, not_false_eq_true]; omega)) ?_) | (refine And.intro (fun hc => ?_) (fun hc => ?_) <;> (try (simp (disch := decide) only [up_n, up_s, if_true, if_false, ite_true, ite_false, reduceIte, not_true_eq_false, not_false_eq_true] at hc)) <;> (try (exfalso; omega))) | (refine fun (hc : ¬ _) => ?_; try (simp (disch := decide) only [up_n, up_s, if_true, if_false, ite_true, ite_false, reduceIte, not_true_eq_false, not_false_eq_true] at hc)) | (refine fun (hc : _ = _) => ?_; try (simp (disch := decide) only [up_n, up_s, if_true, if_false, ite_true, ite_false, reduceIte, not_true_eq_false, not_false_eq_true] at hc))))
  all_goals first | (exfalso; omega) | (refine ⟨rfl, sv (by omega), hR.next⟩)
end
section
theorem first_iff {M : fr_M} (h3 : P3 M) (h4 : P4 M) (h1 : P1 M) {b : Int} (q0 : 0 ≤ b) (q1 : b < M 75 4) : M 77 (9 * M 79 b) = b ↔ M 5 b = 0 := by
  obtain ⟨e1, e2, e3, e4, e5, e6, -⟩ := h4 b q0 q1
  obtain ⟨p1, p2, p3, -⟩ := h1
  constructor
  · intro h
    obtain ⟨-, -, -, -, f⟩ := h3 (M 79 b) 0 e2 (by omega) (by omega) (by omega)
    rw [Int.add_zero, h] at f
    exact f
  · intro h
    rw [h, Int.add_zero] at e6
    exact e6
set_option maxHeartbeats 4000000 in
set_option maxRecDepth 100000 in
theorem op_count {n : Int} {M : fr_M} (hR : Rel n M) (hn : n ≤ 512) (a0 : Int) (a1 : Int) (a2 : Int) (g0 : fr_in a0) (g1 : fr_in a1) (g2 : fr_in a2) : Two 111 149 [.inl a0, .inl a1, .inl a2] M (Rel (n + 1)) := by
  obtain ⟨h0, h1, h2, h3, h4, h5, h6, h7, h8, o1, o2, o3, k1, k2, k3, k4, k5, t1, t2, s1, r1, r1', r2, r2', r3, r4, l⟩ := id hR
  obtain ⟨p1, p2, p3, p4, p5, p6⟩ := id h1
  have e5 := h5 a0
  have e7 := h7 (4 * a0 + a1)
  have ei : a0 * 4 + a1 = 4 * a0 + a1 := by omega
  refine Two.of ?_
  refine fr_cgo k111 [some (.inr (.inl 0)), some (.inl a0), some (.inl a1), some (.inl a2), none] 0 0 [] 400 rfl rfl rfl rfl ?_
  repeat' (first | (refine And.intro (by first | omega | (simp (disch := decide) only [up_n, up_s, if_true, if_false, ite_true, ite_false, reduceIte, not_true_eq_false, not_false_eq_true]; omega)) ?_) | (refine c_isBlock (fun hc => ?_) (fun hc => ?_)) | (refine And.intro (fun hc => ?_) (fun hc => ?_) <;> (try (simp (disch := decide) only [up_n, up_s, if_true, if_false, ite_true, ite_false, reduceIte, not_true_eq_false, not_false_eq_true] at hc)) <;> (try (exfalso; omega))) | (refine fun (hc : ¬ _) => ?_; try (simp (disch := decide) only [up_n, up_s, if_true, if_false, ite_true, ite_false, reduceIte, not_true_eq_false, not_false_eq_true] at hc)) | (refine fun (hc : _ = _) => ?_; try (simp (disch := decide) only [up_n, up_s, if_true, if_false, ite_true, ite_false, reduceIte, not_true_eq_false, not_false_eq_true] at hc)))
  all_goals first | (exfalso; omega) | refine ⟨rfl, _, rfl, ?_⟩
  all_goals (refine fr_cgo k149 [some (.inr (.inl 75)), some (.inl a0), some (.inl a1), some (.inl a2), none] 0 0 [] 400 rfl rfl rfl rfl ?_)
  all_goals (repeat' (first | (refine And.intro (by first | omega | (simp (disch := decide) only [up_n, up_s, if_true, if_false, ite_true, ite_false, reduceIte, not_true_eq_false, not_false_eq_true]; omega)) ?_) | (refine m_isBlock (by first | omega | (simp (disch := decide) only [up_n, up_s, if_true, if_false, ite_true, ite_false, reduceIte, not_true_eq_false, not_false_eq_true]; omega)) (fun hc => ?_) (fun hc => ?_)) | (refine m_in (fun hc => ?_) (fun hc => ?_)) | (refine And.intro (fun hc => ?_) (fun hc => ?_) <;> (try (simp (disch := decide) only [up_n, up_s, if_true, if_false, ite_true, ite_false, reduceIte, not_true_eq_false, not_false_eq_true] at hc)) <;> (try (exfalso; omega))) | (refine fun (hc : ¬ _) => ?_; try (simp (disch := decide) only [up_n, up_s, if_true, if_false, ite_true, ite_false, reduceIte, not_true_eq_false, not_false_eq_true] at hc)) | (refine fun (hc : _ = _) => ?_; try (simp (disch := decide) only [up_n, up_s, if_true, if_false, ite_true, ite_false, reduceIte, not_true_eq_false, not_false_eq_true] at hc))))
  all_goals first | (exfalso; omega) | (exfalso; simp (disch := decide) only [up_n, up_s, if_true, if_false, ite_true, ite_false, reduceIte, not_true_eq_false, not_false_eq_true] at *; omega) | exact ⟨rfl, rfl, hR.next⟩ | skip
  refine ⟨rfl, sv ?_, by omega, h1, h2, h3, h4, h5, h6, ?_, h8, o1, o2, o3, k1, k2, k3, k4, k5, t1, t2, s1, r1, r1', r2, r2', r3, r4, l.keep (kp_u (kp_u kp_r rfl) rfl)⟩
  · simp (disch := decide) only [up_n, up_s, if_true, if_false, ite_true, ite_false, reduceIte, not_true_eq_false, not_false_eq_true]
    rw [ei]
    omega
  · intro i q0 q1
    have e := h7 i q0 q1
    simp (disch := decide) only [up_n, up_s, if_true, if_false, ite_true, ite_false, reduceIte, not_true_eq_false, not_false_eq_true]
    rw [ei]
    split <;> omega
end
section
set_option maxHeartbeats 4000000 in
set_option maxRecDepth 100000 in
theorem c_isSort {M : fr_M} {w : Int} {Q : Option fr_V → fr_H → fr_M → Prop} (h1 : w = 0 ∨ w = 1 → Q (some (.inl 1)) sh0 M) (h0 : ¬ (w = 0 ∨ w = 1) → Q (some (.inl 0)) sh0 M) : fr_Call 130 [.inl w] sh0 M Q := by
  refine fr_cgo k130 [some (.inl w)] 0 0 [] 400 rfl rfl rfl rfl ?_
  repeat' (first | (refine And.intro (by first | omega | (simp (disch := decide) only [up_n, up_s, if_true, if_false, ite_true, ite_false, reduceIte, not_true_eq_false, not_false_eq_true]; omega)) ?_) | (refine And.intro (fun hc => ?_) (fun hc => ?_) <;> (try (simp (disch := decide) only [up_n, up_s, if_true, if_false, ite_true, ite_false, reduceIte, not_true_eq_false, not_false_eq_true] at hc)) <;> (try (exfalso; omega))) | (refine fun (hc : ¬ _) => ?_; try (simp (disch := decide) only [up_n, up_s, if_true, if_false, ite_true, ite_false, reduceIte, not_true_eq_false, not_false_eq_true] at hc)) | (refine fun (hc : _ = _) => ?_; try (simp (disch := decide) only [up_n, up_s, if_true, if_false, ite_true, ite_false, reduceIte, not_true_eq_false, not_false_eq_true] at hc)))
  all_goals first | exact h1 (by omega) | exact h0 (by omega)
set_option maxHeartbeats 4000000 in
set_option maxRecDepth 100000 in
theorem c_traceOf0 {M : fr_M} {Q : Option fr_V → fr_H → fr_M → Prop} (h : Q (some (.inr (.inl 45))) sh0 M) : fr_Call 132 [.inr (.inl 0), .inl 0] sh0 M Q := by
  refine fr_cgo k132 [some (.inr (.inl 0)), some (.inl 0)] 0 0 [] 400 rfl rfl rfl rfl ?_
  repeat' (first | (refine And.intro (by first | omega | (simp (disch := decide) only [up_n, up_s, if_true, if_false, ite_true, ite_false, reduceIte, not_true_eq_false, not_false_eq_true]; omega)) ?_) | (refine And.intro (fun hc => ?_) (fun hc => ?_) <;> (try (simp (disch := decide) only [up_n, up_s, if_true, if_false, ite_true, ite_false, reduceIte, not_true_eq_false, not_false_eq_true] at hc)) <;> (try (exfalso; omega))) | (refine fun (hc : ¬ _) => ?_; try (simp (disch := decide) only [up_n, up_s, if_true, if_false, ite_true, ite_false, reduceIte, not_true_eq_false, not_false_eq_true] at hc)) | (refine fun (hc : _ = _) => ?_; try (simp (disch := decide) only [up_n, up_s, if_true, if_false, ite_true, ite_false, reduceIte, not_true_eq_false, not_false_eq_true] at hc)))
  all_goals first | (exfalso; omega) | exact h
set_option maxHeartbeats 4000000 in
set_option maxRecDepth 100000 in
theorem c_traceOf1 {M : fr_M} {Q : Option fr_V → fr_H → fr_M → Prop} (h : Q (some (.inr (.inl 52))) sh0 M) : fr_Call 132 [.inr (.inl 0), .inl 1] sh0 M Q := by
  refine fr_cgo k132 [some (.inr (.inl 0)), some (.inl 1)] 0 0 [] 400 rfl rfl rfl rfl ?_
  repeat' (first | (refine And.intro (by first | omega | (simp (disch := decide) only [up_n, up_s, if_true, if_false, ite_true, ite_false, reduceIte, not_true_eq_false, not_false_eq_true]; omega)) ?_) | (refine And.intro (fun hc => ?_) (fun hc => ?_) <;> (try (simp (disch := decide) only [up_n, up_s, if_true, if_false, ite_true, ite_false, reduceIte, not_true_eq_false, not_false_eq_true] at hc)) <;> (try (exfalso; omega))) | (refine fun (hc : ¬ _) => ?_; try (simp (disch := decide) only [up_n, up_s, if_true, if_false, ite_true, ite_false, reduceIte, not_true_eq_false, not_false_eq_true] at hc)) | (refine fun (hc : _ = _) => ?_; try (simp (disch := decide) only [up_n, up_s, if_true, if_false, ite_true, ite_false, reduceIte, not_true_eq_false, not_false_eq_true] at hc)))
  all_goals first | (exfalso; omega) | exact h
set_option maxHeartbeats 4000000 in
set_option maxRecDepth 100000 in
theorem c_cost0 {M : fr_M} {Q : Option fr_V → fr_H → fr_M → Prop} (b : (0 ≤ M 45 6 ∧ M 45 6 ≤ 1000) ∧ (0 ≤ M 45 7 ∧ M 45 7 ≤ 1000) ∧ (0 ≤ M 45 8 ∧ M 45 8 ≤ 1000) ∧ (0 ≤ M 45 9 ∧ M 45 9 ≤ 1000)) (h : Q (some (.inl (2 * M 45 6 + 3 * M 45 7 + M 45 8 + 50 * M 45 9))) sh0 M) : fr_Call 101 [.inr (.inl 45)] sh0 M Q := by
  refine fr_cgo k101 [some (.inr (.inl 45))] 0 0 [] 400 rfl rfl rfl rfl ?_
  repeat' (first | (refine And.intro (by first | omega | (simp (disch := decide) only [up_n, up_s, if_true, if_false, ite_true, ite_false, reduceIte, not_true_eq_false, not_false_eq_true]; omega)) ?_) | (refine And.intro (fun hc => ?_) (fun hc => ?_) <;> (try (simp (disch := decide) only [up_n, up_s, if_true, if_false, ite_true, ite_false, reduceIte, not_true_eq_false, not_false_eq_true] at hc)) <;> (try (exfalso; omega))) | (refine fun (hc : ¬ _) => ?_; try (simp (disch := decide) only [up_n, up_s, if_true, if_false, ite_true, ite_false, reduceIte, not_true_eq_false, not_false_eq_true] at hc)) | (refine fun (hc : _ = _) => ?_; try (simp (disch := decide) only [up_n, up_s, if_true, if_false, ite_true, ite_false, reduceIte, not_true_eq_false, not_false_eq_true] at hc)))
  exact h
set_option maxHeartbeats 4000000 in
set_option maxRecDepth 100000 in
theorem c_cost1 {M : fr_M} {Q : Option fr_V → fr_H → fr_M → Prop} (b : (0 ≤ M 52 6 ∧ M 52 6 ≤ 1000) ∧ (0 ≤ M 52 7 ∧ M 52 7 ≤ 1000) ∧ (0 ≤ M 52 8 ∧ M 52 8 ≤ 1000) ∧ (0 ≤ M 52 9 ∧ M 52 9 ≤ 1000)) (h : Q (some (.inl (2 * M 52 6 + 3 * M 52 7 + M 52 8 + 50 * M 52 9))) sh0 M) : fr_Call 101 [.inr (.inl 52)] sh0 M Q := by
  refine fr_cgo k101 [some (.inr (.inl 52))] 0 0 [] 400 rfl rfl rfl rfl ?_
  repeat' (first | (refine And.intro (by first | omega | (simp (disch := decide) only [up_n, up_s, if_true, if_false, ite_true, ite_false, reduceIte, not_true_eq_false, not_false_eq_true]; omega)) ?_) | (refine And.intro (fun hc => ?_) (fun hc => ?_) <;> (try (simp (disch := decide) only [up_n, up_s, if_true, if_false, ite_true, ite_false, reduceIte, not_true_eq_false, not_false_eq_true] at hc)) <;> (try (exfalso; omega))) | (refine fun (hc : ¬ _) => ?_; try (simp (disch := decide) only [up_n, up_s, if_true, if_false, ite_true, ite_false, reduceIte, not_true_eq_false, not_false_eq_true] at hc)) | (refine fun (hc : _ = _) => ?_; try (simp (disch := decide) only [up_n, up_s, if_true, if_false, ite_true, ite_false, reduceIte, not_true_eq_false, not_false_eq_true] at hc)))
  exact h
set_option maxHeartbeats 4000000 in
set_option maxRecDepth 100000 in
theorem op_ran0 {n : Int} {M : fr_M} (hN : Rel (n + 1) M) (r1 : R1 M 45 0) (a1 : Int) (hw : 0 ≤ a1 ∧ a1 ≤ 8) : Two 133 200 [.inl 0, .inl a1] M (Rel (n + 1)) := by
  obtain ⟨x1, x2, x3, x4, x5, x6⟩ := r1
  refine Two.of ?_
  rcases x2 with x2 | x2
  · clear x6
    refine fr_cgo k133 [some (.inr (.inl 0)), some (.inl 0), some (.inl a1), none] 0 0 [] 400 rfl rfl rfl rfl ?_
    repeat' (first | (refine And.intro (by first | omega | (simp (disch := decide) only [up_n, up_s, if_true, if_false, ite_true, ite_false, reduceIte, not_true_eq_false, not_false_eq_true]; omega)) ?_) | (refine c_isSort (fun hc => ?_) (fun hc => ?_)) | (refine c_traceOf0 ?_) | (refine And.intro (fun hc => ?_) (fun hc => ?_) <;> (try (simp (disch := decide) only [up_n, up_s, if_true, if_false, ite_true, ite_false, reduceIte, not_true_eq_false, not_false_eq_true] at hc)) <;> (try (exfalso; omega))) | (refine fun (hc : ¬ _) => ?_; try (simp (disch := decide) only [up_n, up_s, if_true, if_false, ite_true, ite_false, reduceIte, not_true_eq_false, not_false_eq_true] at hc)) | (refine fun (hc : _ = _) => ?_; try (simp (disch := decide) only [up_n, up_s, if_true, if_false, ite_true, ite_false, reduceIte, not_true_eq_false, not_false_eq_true] at hc)))
    all_goals first | (exfalso; omega) | refine ⟨rfl, _, rfl, ?_⟩
    all_goals (refine fr_cgo k200 [some (.inr (.inl 75)), some (.inl 0), some (.inl a1)] 0 0 [] 400 rfl rfl rfl rfl ?_)
    all_goals (repeat' (first | (refine And.intro (by first | omega | (simp (disch := decide) only [up_n, up_s, if_true, if_false, ite_true, ite_false, reduceIte, not_true_eq_false, not_false_eq_true]; omega)) ?_) | (refine m_in (fun hc => ?_) (fun hc => ?_)) | (refine And.intro (fun hc => ?_) (fun hc => ?_) <;> (try (simp (disch := decide) only [up_n, up_s, if_true, if_false, ite_true, ite_false, reduceIte, not_true_eq_false, not_false_eq_true] at hc)) <;> (try (exfalso; omega))) | (refine fun (hc : ¬ _) => ?_; try (simp (disch := decide) only [up_n, up_s, if_true, if_false, ite_true, ite_false, reduceIte, not_true_eq_false, not_false_eq_true] at hc)) | (refine fun (hc : _ = _) => ?_; try (simp (disch := decide) only [up_n, up_s, if_true, if_false, ite_true, ite_false, reduceIte, not_true_eq_false, not_false_eq_true] at hc))))
    all_goals first | (exfalso; omega) | exact ⟨rfl, rfl, hN⟩
  · obtain ⟨z0, z1, z2, z3, z4, z5, z6, z7, z8, b1, b2, b3, b4⟩ := x6 x2
    clear x5 x6
    rcases (show a1 = 0 ∨ a1 = 1 ∨ a1 = 2 ∨ a1 = 3 ∨ a1 = 4 ∨ a1 = 5 ∨ a1 = 6 ∨ a1 = 7 ∨ a1 = 8 by omega) with rfl | rfl | rfl | rfl | rfl | rfl | rfl | rfl | rfl
    all_goals (refine fr_cgo k133 [some (.inr (.inl 0)), some (.inl 0), some (.inl _), none] 0 0 [] 400 rfl rfl rfl rfl ?_)
    all_goals (repeat' (first | (refine And.intro (by first | omega | (simp (disch := decide) only [up_n, up_s, if_true, if_false, ite_true, ite_false, reduceIte, not_true_eq_false, not_false_eq_true]; omega)) ?_) | (refine c_isSort (fun hc => ?_) (fun hc => ?_)) | (refine c_traceOf0 ?_) | (refine c_cost0 ⟨b1, b2, b3, b4⟩ ?_) | (refine And.intro (fun hc => ?_) (fun hc => ?_) <;> (try (simp (disch := decide) only [up_n, up_s, if_true, if_false, ite_true, ite_false, reduceIte, not_true_eq_false, not_false_eq_true] at hc)) <;> (try (exfalso; omega))) | (refine fun (hc : ¬ _) => ?_; try (simp (disch := decide) only [up_n, up_s, if_true, if_false, ite_true, ite_false, reduceIte, not_true_eq_false, not_false_eq_true] at hc)) | (refine fun (hc : _ = _) => ?_; try (simp (disch := decide) only [up_n, up_s, if_true, if_false, ite_true, ite_false, reduceIte, not_true_eq_false, not_false_eq_true] at hc))))
    all_goals first | (exfalso; omega) | refine ⟨rfl, _, rfl, ?_⟩
    all_goals (refine fr_cgo k200 [some (.inr (.inl 75)), some (.inl 0), some (.inl _)] 0 0 [] 400 rfl rfl rfl rfl ?_)
    all_goals (repeat' (first | (refine And.intro (by first | omega | (simp (disch := decide) only [up_n, up_s, if_true, if_false, ite_true, ite_false, reduceIte, not_true_eq_false, not_false_eq_true]; omega)) ?_) | (refine m_in (fun hc => ?_) (fun hc => ?_)) | (refine And.intro (fun hc => ?_) (fun hc => ?_) <;> (try (simp (disch := decide) only [up_n, up_s, if_true, if_false, ite_true, ite_false, reduceIte, not_true_eq_false, not_false_eq_true] at hc)) <;> (try (exfalso; omega))) | (refine fun (hc : ¬ _) => ?_; try (simp (disch := decide) only [up_n, up_s, if_true, if_false, ite_true, ite_false, reduceIte, not_true_eq_false, not_false_eq_true] at hc)) | (refine fun (hc : _ = _) => ?_; try (simp (disch := decide) only [up_n, up_s, if_true, if_false, ite_true, ite_false, reduceIte, not_true_eq_false, not_false_eq_true] at hc))))
    all_goals first | (exfalso; omega) | exact ⟨rfl, sv (by assumption), hN⟩
set_option maxHeartbeats 4000000 in
set_option maxRecDepth 100000 in
theorem op_ran1 {n : Int} {M : fr_M} (hN : Rel (n + 1) M) (r1 : R1 M 52 1) (a1 : Int) (hw : 0 ≤ a1 ∧ a1 ≤ 8) : Two 133 200 [.inl 1, .inl a1] M (Rel (n + 1)) := by
  obtain ⟨x1, x2, x3, x4, x5, x6⟩ := r1
  refine Two.of ?_
  rcases x2 with x2 | x2
  · clear x6
    refine fr_cgo k133 [some (.inr (.inl 0)), some (.inl 1), some (.inl a1), none] 0 0 [] 400 rfl rfl rfl rfl ?_
    repeat' (first | (refine And.intro (by first | omega | (simp (disch := decide) only [up_n, up_s, if_true, if_false, ite_true, ite_false, reduceIte, not_true_eq_false, not_false_eq_true]; omega)) ?_) | (refine c_isSort (fun hc => ?_) (fun hc => ?_)) | (refine c_traceOf1 ?_) | (refine And.intro (fun hc => ?_) (fun hc => ?_) <;> (try (simp (disch := decide) only [up_n, up_s, if_true, if_false, ite_true, ite_false, reduceIte, not_true_eq_false, not_false_eq_true] at hc)) <;> (try (exfalso; omega))) | (refine fun (hc : ¬ _) => ?_; try (simp (disch := decide) only [up_n, up_s, if_true, if_false, ite_true, ite_false, reduceIte, not_true_eq_false, not_false_eq_true] at hc)) | (refine fun (hc : _ = _) => ?_; try (simp (disch := decide) only [up_n, up_s, if_true, if_false, ite_true, ite_false, reduceIte, not_true_eq_false, not_false_eq_true] at hc)))
    all_goals first | (exfalso; omega) | refine ⟨rfl, _, rfl, ?_⟩
    all_goals (refine fr_cgo k200 [some (.inr (.inl 75)), some (.inl 1), some (.inl a1)] 0 0 [] 400 rfl rfl rfl rfl ?_)
    all_goals (repeat' (first | (refine And.intro (by first | omega | (simp (disch := decide) only [up_n, up_s, if_true, if_false, ite_true, ite_false, reduceIte, not_true_eq_false, not_false_eq_true]; omega)) ?_) | (refine m_in (fun hc => ?_) (fun hc => ?_)) | (refine And.intro (fun hc => ?_) (fun hc => ?_) <;> (try (simp (disch := decide) only [up_n, up_s, if_true, if_false, ite_true, ite_false, reduceIte, not_true_eq_false, not_false_eq_true] at hc)) <;> (try (exfalso; omega))) | (refine fun (hc : ¬ _) => ?_; try (simp (disch := decide) only [up_n, up_s, if_true, if_false, ite_true, ite_false, reduceIte, not_true_eq_false, not_false_eq_true] at hc)) | (refine fun (hc : _ = _) => ?_; try (simp (disch := decide) only [up_n, up_s, if_true, if_false, ite_true, ite_false, reduceIte, not_true_eq_false, not_false_eq_true] at hc))))
    all_goals first | (exfalso; omega) | exact ⟨rfl, rfl, hN⟩
  · obtain ⟨z0, z1, z2, z3, z4, z5, z6, z7, z8, b1, b2, b3, b4⟩ := x6 x2
    clear x5 x6
    rcases (show a1 = 0 ∨ a1 = 1 ∨ a1 = 2 ∨ a1 = 3 ∨ a1 = 4 ∨ a1 = 5 ∨ a1 = 6 ∨ a1 = 7 ∨ a1 = 8 by omega) with rfl | rfl | rfl | rfl | rfl | rfl | rfl | rfl | rfl
    all_goals (refine fr_cgo k133 [some (.inr (.inl 0)), some (.inl 1), some (.inl _), none] 0 0 [] 400 rfl rfl rfl rfl ?_)
    all_goals (repeat' (first | (refine And.intro (by first | omega | (simp (disch := decide) only [up_n, up_s, if_true, if_false, ite_true, ite_false, reduceIte, not_true_eq_false, not_false_eq_true]; omega)) ?_) | (refine c_isSort (fun hc => ?_) (fun hc => ?_)) | (refine c_traceOf1 ?_) | (refine c_cost1 ⟨b1, b2, b3, b4⟩ ?_) | (refine And.intro (fun hc => ?_) (fun hc => ?_) <;> (try (simp (disch := decide) only [up_n, up_s, if_true, if_false, ite_true, ite_false, reduceIte, not_true_eq_false, not_false_eq_true] at hc)) <;> (try (exfalso; omega))) | (refine fun (hc : ¬ _) => ?_; try (simp (disch := decide) only [up_n, up_s, if_true, if_false, ite_true, ite_false, reduceIte, not_true_eq_false, not_false_eq_true] at hc)) | (refine fun (hc : _ = _) => ?_; try (simp (disch := decide) only [up_n, up_s, if_true, if_false, ite_true, ite_false, reduceIte, not_true_eq_false, not_false_eq_true] at hc))))
    all_goals first | (exfalso; omega) | refine ⟨rfl, _, rfl, ?_⟩
    all_goals (refine fr_cgo k200 [some (.inr (.inl 75)), some (.inl 1), some (.inl _)] 0 0 [] 400 rfl rfl rfl rfl ?_)
    all_goals (repeat' (first | (refine And.intro (by first | omega | (simp (disch := decide) only [up_n, up_s, if_true, if_false, ite_true, ite_false, reduceIte, not_true_eq_false, not_false_eq_true]; omega)) ?_) | (refine m_in (fun hc => ?_) (fun hc => ?_)) | (refine And.intro (fun hc => ?_) (fun hc => ?_) <;> (try (simp (disch := decide) only [up_n, up_s, if_true, if_false, ite_true, ite_false, reduceIte, not_true_eq_false, not_false_eq_true] at hc)) <;> (try (exfalso; omega))) | (refine fun (hc : ¬ _) => ?_; try (simp (disch := decide) only [up_n, up_s, if_true, if_false, ite_true, ite_false, reduceIte, not_true_eq_false, not_false_eq_true] at hc)) | (refine fun (hc : _ = _) => ?_; try (simp (disch := decide) only [up_n, up_s, if_true, if_false, ite_true, ite_false, reduceIte, not_true_eq_false, not_false_eq_true] at hc))))
    all_goals first | (exfalso; omega) | exact ⟨rfl, sv (by assumption), hN⟩
set_option maxHeartbeats 4000000 in
set_option maxRecDepth 100000 in
theorem op_passed0 {n : Int} {M : fr_M} (hN : Rel (n + 1) M) (r1 : R1 M 45 0) (r2 : R2 M 45 46 0) (a1 : Int) : Two 134 201 [.inl 0, .inl a1] M (Rel (n + 1)) := by
  obtain ⟨x1, x2, x3, x4, x5, x6⟩ := r1
  have z := r2 a1
  clear r2
  refine Two.of ?_
  rcases x2 with x2 | x2
  · have x5 := x5 x2
    clear x6 z
    refine fr_cgo k134 [some (.inr (.inl 0)), some (.inl 0), some (.inl a1), none] 0 0 [] 400 rfl rfl rfl rfl ?_
    repeat' (first | (refine And.intro (by first | omega | (simp (disch := decide) only [up_n, up_s, if_true, if_false, ite_true, ite_false, reduceIte, not_true_eq_false, not_false_eq_true]; omega)) ?_) | (refine c_isSort (fun hc => ?_) (fun hc => ?_)) | (refine c_traceOf0 ?_) | (refine And.intro (fun hc => ?_) (fun hc => ?_) <;> (try (simp (disch := decide) only [up_n, up_s, if_true, if_false, ite_true, ite_false, reduceIte, not_true_eq_false, not_false_eq_true] at hc)) <;> (try (exfalso; omega))) | (refine fun (hc : ¬ _) => ?_; try (simp (disch := decide) only [up_n, up_s, if_true, if_false, ite_true, ite_false, reduceIte, not_true_eq_false, not_false_eq_true] at hc)) | (refine fun (hc : _ = _) => ?_; try (simp (disch := decide) only [up_n, up_s, if_true, if_false, ite_true, ite_false, reduceIte, not_true_eq_false, not_false_eq_true] at hc)))
    all_goals first | (exfalso; omega) | refine ⟨rfl, _, rfl, ?_⟩
    all_goals (refine fr_cgo k201 [some (.inr (.inl 75)), some (.inl 0), some (.inl a1)] 0 0 [] 400 rfl rfl rfl rfl ?_)
    all_goals (repeat' (first | (refine And.intro (by first | omega | (simp (disch := decide) only [up_n, up_s, if_true, if_false, ite_true, ite_false, reduceIte, not_true_eq_false, not_false_eq_true]; omega)) ?_) | (refine m_in (fun hc => ?_) (fun hc => ?_)) | (refine And.intro (fun hc => ?_) (fun hc => ?_) <;> (try (simp (disch := decide) only [up_n, up_s, if_true, if_false, ite_true, ite_false, reduceIte, not_true_eq_false, not_false_eq_true] at hc)) <;> (try (exfalso; omega))) | (refine fun (hc : ¬ _) => ?_; try (simp (disch := decide) only [up_n, up_s, if_true, if_false, ite_true, ite_false, reduceIte, not_true_eq_false, not_false_eq_true] at hc)) | (refine fun (hc : _ = _) => ?_; try (simp (disch := decide) only [up_n, up_s, if_true, if_false, ite_true, ite_false, reduceIte, not_true_eq_false, not_false_eq_true] at hc))))
    all_goals first | (exfalso; omega) | exact ⟨rfl, rfl, hN⟩
  · obtain ⟨-, z1, -⟩ := x6 x2
    clear x5 x6
    refine fr_cgo k134 [some (.inr (.inl 0)), some (.inl 0), some (.inl a1), none] 0 0 [] 400 rfl rfl rfl rfl ?_
    repeat' (first | (refine And.intro (by first | omega | (simp (disch := decide) only [up_n, up_s, if_true, if_false, ite_true, ite_false, reduceIte, not_true_eq_false, not_false_eq_true]; omega)) ?_) | (refine c_isSort (fun hc => ?_) (fun hc => ?_)) | (refine c_traceOf0 ?_) | (refine And.intro (fun hc => ?_) (fun hc => ?_) <;> (try (simp (disch := decide) only [up_n, up_s, if_true, if_false, ite_true, ite_false, reduceIte, not_true_eq_false, not_false_eq_true] at hc)) <;> (try (exfalso; omega))) | (refine fun (hc : ¬ _) => ?_; try (simp (disch := decide) only [up_n, up_s, if_true, if_false, ite_true, ite_false, reduceIte, not_true_eq_false, not_false_eq_true] at hc)) | (refine fun (hc : _ = _) => ?_; try (simp (disch := decide) only [up_n, up_s, if_true, if_false, ite_true, ite_false, reduceIte, not_true_eq_false, not_false_eq_true] at hc)))
    all_goals first | (exfalso; omega) | refine ⟨rfl, _, rfl, ?_⟩
    all_goals (refine fr_cgo k201 [some (.inr (.inl 75)), some (.inl 0), some (.inl a1)] 0 0 [] 400 rfl rfl rfl rfl ?_)
    all_goals (repeat' (first | (refine And.intro (by first | omega | (simp (disch := decide) only [up_n, up_s, if_true, if_false, ite_true, ite_false, reduceIte, not_true_eq_false, not_false_eq_true]; omega)) ?_) | (refine m_in (fun hc => ?_) (fun hc => ?_)) | (refine And.intro (fun hc => ?_) (fun hc => ?_) <;> (try (simp (disch := decide) only [up_n, up_s, if_true, if_false, ite_true, ite_false, reduceIte, not_true_eq_false, not_false_eq_true] at hc)) <;> (try (exfalso; omega))) | (refine fun (hc : ¬ _) => ?_; try (simp (disch := decide) only [up_n, up_s, if_true, if_false, ite_true, ite_false, reduceIte, not_true_eq_false, not_false_eq_true] at hc)) | (refine fun (hc : _ = _) => ?_; try (simp (disch := decide) only [up_n, up_s, if_true, if_false, ite_true, ite_false, reduceIte, not_true_eq_false, not_false_eq_true] at hc))))
    all_goals first | (exfalso; omega) | exact ⟨rfl, rfl, hN⟩ | exact ⟨rfl, sv (by omega), hN⟩
set_option maxHeartbeats 4000000 in
set_option maxRecDepth 100000 in
theorem op_passed1 {n : Int} {M : fr_M} (hN : Rel (n + 1) M) (r1 : R1 M 52 1) (r2 : R2 M 52 53 1) (a1 : Int) : Two 134 201 [.inl 1, .inl a1] M (Rel (n + 1)) := by
  obtain ⟨x1, x2, x3, x4, x5, x6⟩ := r1
  have z := r2 a1
  clear r2
  refine Two.of ?_
  rcases x2 with x2 | x2
  · have x5 := x5 x2
    clear x6 z
    refine fr_cgo k134 [some (.inr (.inl 0)), some (.inl 1), some (.inl a1), none] 0 0 [] 400 rfl rfl rfl rfl ?_
    repeat' (first | (refine And.intro (by first | omega | (simp (disch := decide) only [up_n, up_s, if_true, if_false, ite_true, ite_false, reduceIte, not_true_eq_false, not_false_eq_true]; omega)) ?_) | (refine c_isSort (fun hc => ?_) (fun hc => ?_)) | (refine c_traceOf1 ?_) | (refine And.intro (fun hc => ?_) (fun hc => ?_) <;> (try (simp (disch := decide) only [up_n, up_s, if_true, if_false, ite_true, ite_false, reduceIte, not_true_eq_false, not_false_eq_true] at hc)) <;> (try (exfalso; omega))) | (refine fun (hc : ¬ _) => ?_; try (simp (disch := decide) only [up_n, up_s, if_true, if_false, ite_true, ite_false, reduceIte, not_true_eq_false, not_false_eq_true] at hc)) | (refine fun (hc : _ = _) => ?_; try (simp (disch := decide) only [up_n, up_s, if_true, if_false, ite_true, ite_false, reduceIte, not_true_eq_false, not_false_eq_true] at hc)))
    all_goals first | (exfalso; omega) | refine ⟨rfl, _, rfl, ?_⟩
    all_goals (refine fr_cgo k201 [some (.inr (.inl 75)), some (.inl 1), some (.inl a1)] 0 0 [] 400 rfl rfl rfl rfl ?_)
    all_goals (repeat' (first | (refine And.intro (by first | omega | (simp (disch := decide) only [up_n, up_s, if_true, if_false, ite_true, ite_false, reduceIte, not_true_eq_false, not_false_eq_true]; omega)) ?_) | (refine m_in (fun hc => ?_) (fun hc => ?_)) | (refine And.intro (fun hc => ?_) (fun hc => ?_) <;> (try (simp (disch := decide) only [up_n, up_s, if_true, if_false, ite_true, ite_false, reduceIte, not_true_eq_false, not_false_eq_true] at hc)) <;> (try (exfalso; omega))) | (refine fun (hc : ¬ _) => ?_; try (simp (disch := decide) only [up_n, up_s, if_true, if_false, ite_true, ite_false, reduceIte, not_true_eq_false, not_false_eq_true] at hc)) | (refine fun (hc : _ = _) => ?_; try (simp (disch := decide) only [up_n, up_s, if_true, if_false, ite_true, ite_false, reduceIte, not_true_eq_false, not_false_eq_true] at hc))))
    all_goals first | (exfalso; omega) | exact ⟨rfl, rfl, hN⟩
  · obtain ⟨-, z1, -⟩ := x6 x2
    clear x5 x6
    refine fr_cgo k134 [some (.inr (.inl 0)), some (.inl 1), some (.inl a1), none] 0 0 [] 400 rfl rfl rfl rfl ?_
    repeat' (first | (refine And.intro (by first | omega | (simp (disch := decide) only [up_n, up_s, if_true, if_false, ite_true, ite_false, reduceIte, not_true_eq_false, not_false_eq_true]; omega)) ?_) | (refine c_isSort (fun hc => ?_) (fun hc => ?_)) | (refine c_traceOf1 ?_) | (refine And.intro (fun hc => ?_) (fun hc => ?_) <;> (try (simp (disch := decide) only [up_n, up_s, if_true, if_false, ite_true, ite_false, reduceIte, not_true_eq_false, not_false_eq_true] at hc)) <;> (try (exfalso; omega))) | (refine fun (hc : ¬ _) => ?_; try (simp (disch := decide) only [up_n, up_s, if_true, if_false, ite_true, ite_false, reduceIte, not_true_eq_false, not_false_eq_true] at hc)) | (refine fun (hc : _ = _) => ?_; try (simp (disch := decide) only [up_n, up_s, if_true, if_false, ite_true, ite_false, reduceIte, not_true_eq_false, not_false_eq_true] at hc)))
    all_goals first | (exfalso; omega) | refine ⟨rfl, _, rfl, ?_⟩
    all_goals (refine fr_cgo k201 [some (.inr (.inl 75)), some (.inl 1), some (.inl a1)] 0 0 [] 400 rfl rfl rfl rfl ?_)
    all_goals (repeat' (first | (refine And.intro (by first | omega | (simp (disch := decide) only [up_n, up_s, if_true, if_false, ite_true, ite_false, reduceIte, not_true_eq_false, not_false_eq_true]; omega)) ?_) | (refine m_in (fun hc => ?_) (fun hc => ?_)) | (refine And.intro (fun hc => ?_) (fun hc => ?_) <;> (try (simp (disch := decide) only [up_n, up_s, if_true, if_false, ite_true, ite_false, reduceIte, not_true_eq_false, not_false_eq_true] at hc)) <;> (try (exfalso; omega))) | (refine fun (hc : ¬ _) => ?_; try (simp (disch := decide) only [up_n, up_s, if_true, if_false, ite_true, ite_false, reduceIte, not_true_eq_false, not_false_eq_true] at hc)) | (refine fun (hc : _ = _) => ?_; try (simp (disch := decide) only [up_n, up_s, if_true, if_false, ite_true, ite_false, reduceIte, not_true_eq_false, not_false_eq_true] at hc))))
    all_goals first | (exfalso; omega) | exact ⟨rfl, rfl, hN⟩ | exact ⟨rfl, sv (by omega), hN⟩
set_option maxHeartbeats 4000000 in
set_option maxRecDepth 100000 in
theorem op_ran {n : Int} {M : fr_M} (hR : Rel n M) (hn : n ≤ 512) (a0 : Int) (a1 : Int) (g0 : fr_in a0) (g1 : fr_in a1) : Two 133 200 [.inl a0, .inl a1] M (Rel (n + 1)) := by
  have hN := hR.next
  by_cases hs : (a0 = 0 ∨ a0 = 1) ∧ 0 ≤ a1 ∧ a1 ≤ 8
  · obtain ⟨h0, h1, h2, h3, h4, h5, h6, h7, h8, o1, o2, o3, k1, k2, k3, k4, k5, t1, t2, s1, r1, r1', r2, r2', r3, r4, l⟩ := hR
    obtain ⟨hs, hw⟩ := hs
    rcases hs with rfl | rfl
    · exact op_ran0 hN r1 a1 hw
    · exact op_ran1 hN r1' a1 hw
  · clear hR
    refine Two.of ?_
    refine fr_cgo k133 [some (.inr (.inl 0)), some (.inl a0), some (.inl a1), none] 0 0 [] 400 rfl rfl rfl rfl ?_
    repeat' (first | (refine And.intro (by first | omega | (simp (disch := decide) only [up_n, up_s, if_true, if_false, ite_true, ite_false, reduceIte, not_true_eq_false, not_false_eq_true]; omega)) ?_) | (refine c_isSort (fun hc => ?_) (fun hc => ?_)) | (refine And.intro (fun hc => ?_) (fun hc => ?_) <;> (try (simp (disch := decide) only [up_n, up_s, if_true, if_false, ite_true, ite_false, reduceIte, not_true_eq_false, not_false_eq_true] at hc)) <;> (try (exfalso; omega))) | (refine fun (hc : ¬ _) => ?_; try (simp (disch := decide) only [up_n, up_s, if_true, if_false, ite_true, ite_false, reduceIte, not_true_eq_false, not_false_eq_true] at hc)) | (refine fun (hc : _ = _) => ?_; try (simp (disch := decide) only [up_n, up_s, if_true, if_false, ite_true, ite_false, reduceIte, not_true_eq_false, not_false_eq_true] at hc)))
    all_goals first | (exfalso; omega) | refine ⟨rfl, _, rfl, ?_⟩
    all_goals (refine fr_cgo k200 [some (.inr (.inl 75)), some (.inl a0), some (.inl a1)] 0 0 [] 400 rfl rfl rfl rfl ?_)
    all_goals (repeat' (first | (refine And.intro (by first | omega | (simp (disch := decide) only [up_n, up_s, if_true, if_false, ite_true, ite_false, reduceIte, not_true_eq_false, not_false_eq_true]; omega)) ?_) | (refine m_in (fun hc => ?_) (fun hc => ?_)) | (refine And.intro (fun hc => ?_) (fun hc => ?_) <;> (try (simp (disch := decide) only [up_n, up_s, if_true, if_false, ite_true, ite_false, reduceIte, not_true_eq_false, not_false_eq_true] at hc)) <;> (try (exfalso; omega))) | (refine fun (hc : ¬ _) => ?_; try (simp (disch := decide) only [up_n, up_s, if_true, if_false, ite_true, ite_false, reduceIte, not_true_eq_false, not_false_eq_true] at hc)) | (refine fun (hc : _ = _) => ?_; try (simp (disch := decide) only [up_n, up_s, if_true, if_false, ite_true, ite_false, reduceIte, not_true_eq_false, not_false_eq_true] at hc))))
    all_goals first | (exfalso; omega) | exact ⟨rfl, rfl, hN⟩
set_option maxHeartbeats 4000000 in
set_option maxRecDepth 100000 in
theorem op_passed {n : Int} {M : fr_M} (hR : Rel n M) (hn : n ≤ 512) (a0 : Int) (a1 : Int) (g0 : fr_in a0) (g1 : fr_in a1) : Two 134 201 [.inl a0, .inl a1] M (Rel (n + 1)) := by
  have hN := hR.next
  by_cases hs : a0 = 0 ∨ a0 = 1
  · obtain ⟨h0, h1, h2, h3, h4, h5, h6, h7, h8, o1, o2, o3, k1, k2, k3, k4, k5, t1, t2, s1, r1, r1', r2, r2', r3, r4, l⟩ := hR
    rcases hs with rfl | rfl
    · exact op_passed0 hN r1 r2 a1
    · exact op_passed1 hN r1' r2' a1
  · clear hR
    refine Two.of ?_
    refine fr_cgo k134 [some (.inr (.inl 0)), some (.inl a0), some (.inl a1), none] 0 0 [] 400 rfl rfl rfl rfl ?_
    repeat' (first | (refine And.intro (by first | omega | (simp (disch := decide) only [up_n, up_s, if_true, if_false, ite_true, ite_false, reduceIte, not_true_eq_false, not_false_eq_true]; omega)) ?_) | (refine c_isSort (fun hc => ?_) (fun hc => ?_)) | (refine And.intro (fun hc => ?_) (fun hc => ?_) <;> (try (simp (disch := decide) only [up_n, up_s, if_true, if_false, ite_true, ite_false, reduceIte, not_true_eq_false, not_false_eq_true] at hc)) <;> (try (exfalso; omega))) | (refine fun (hc : ¬ _) => ?_; try (simp (disch := decide) only [up_n, up_s, if_true, if_false, ite_true, ite_false, reduceIte, not_true_eq_false, not_false_eq_true] at hc)) | (refine fun (hc : _ = _) => ?_; try (simp (disch := decide) only [up_n, up_s, if_true, if_false, ite_true, ite_false, reduceIte, not_true_eq_false, not_false_eq_true] at hc)))
    all_goals first | (exfalso; omega) | refine ⟨rfl, _, rfl, ?_⟩
    all_goals (refine fr_cgo k201 [some (.inr (.inl 75)), some (.inl a0), some (.inl a1)] 0 0 [] 400 rfl rfl rfl rfl ?_)
    all_goals (repeat' (first | (refine And.intro (by first | omega | (simp (disch := decide) only [up_n, up_s, if_true, if_false, ite_true, ite_false, reduceIte, not_true_eq_false, not_false_eq_true]; omega)) ?_) | (refine m_in (fun hc => ?_) (fun hc => ?_)) | (refine And.intro (fun hc => ?_) (fun hc => ?_) <;> (try (simp (disch := decide) only [up_n, up_s, if_true, if_false, ite_true, ite_false, reduceIte, not_true_eq_false, not_false_eq_true] at hc)) <;> (try (exfalso; omega))) | (refine fun (hc : ¬ _) => ?_; try (simp (disch := decide) only [up_n, up_s, if_true, if_false, ite_true, ite_false, reduceIte, not_true_eq_false, not_false_eq_true] at hc)) | (refine fun (hc : _ = _) => ?_; try (simp (disch := decide) only [up_n, up_s, if_true, if_false, ite_true, ite_false, reduceIte, not_true_eq_false, not_false_eq_true] at hc))))
    all_goals first | (exfalso; omega) | exact ⟨rfl, rfl, hN⟩
end
section
set_option maxHeartbeats 4000000 in
set_option maxRecDepth 100000 in
theorem m_placeOf_l {M : fr_M} {b p : Int} {Q : Option fr_V → fr_H → fr_M → Prop} (hb : 0 ≤ b ∧ b < 40) (hr : 0 ≤ M 79 b ∧ M 79 b < 6) (hp : 0 ≤ p ∧ p < 9) (hat : M 78 (9 * M 79 b + p) = b) (hne : ∀ k, 0 ≤ k → k < p → M 78 (9 * M 79 b + k) ≠ b) (h : Q (some (.inl p)) sh0 M) : ∀ (t : Nat) (k : Int), 0 ≤ k → k + t = p → fr_Run 151 none 7 [some (.inr (.inl 75)), some (.inl b), some (.inl (M 79 b)), some (.inl k)] [] sh0 M 0 0 Q := by
  intro t
  induction t with
  | zero =>
    intro k h0 h1
    have e : k = p := by omega
    subst e
    refine fr_go k151 [7] 400 rfl ?_
    repeat' (first | (refine And.intro (by first | omega | (simp (disch := decide) only [up_n, up_s, if_true, if_false, ite_true, ite_false, reduceIte, not_true_eq_false, not_false_eq_true]; omega)) ?_) | (refine And.intro (fun hc => ?_) (fun hc => ?_) <;> (try (simp (disch := decide) only [up_n, up_s, if_true, if_false, ite_true, ite_false, reduceIte, not_true_eq_false, not_false_eq_true] at hc)) <;> (try (exfalso; omega))) | (refine fun (hc : ¬ _) => ?_; try (simp (disch := decide) only [up_n, up_s, if_true, if_false, ite_true, ite_false, reduceIte, not_true_eq_false, not_false_eq_true] at hc)) | (refine fun (hc : _ = _) => ?_; try (simp (disch := decide) only [up_n, up_s, if_true, if_false, ite_true, ite_false, reduceIte, not_true_eq_false, not_false_eq_true] at hc)))
    all_goals first | exact h | (exfalso; omega)
  | succ t ih =>
    intro k h0 h1
    have hq := hne k h0 (by omega)
    refine fr_go k151 [7] 400 rfl ?_
    repeat' (first | (refine And.intro (by first | omega | (simp (disch := decide) only [up_n, up_s, if_true, if_false, ite_true, ite_false, reduceIte, not_true_eq_false, not_false_eq_true]; omega)) ?_) | (refine And.intro (fun hc => ?_) (fun hc => ?_) <;> (try (simp (disch := decide) only [up_n, up_s, if_true, if_false, ite_true, ite_false, reduceIte, not_true_eq_false, not_false_eq_true] at hc)) <;> (try (exfalso; omega))) | (refine fun (hc : ¬ _) => ?_; try (simp (disch := decide) only [up_n, up_s, if_true, if_false, ite_true, ite_false, reduceIte, not_true_eq_false, not_false_eq_true] at hc)) | (refine fun (hc : _ = _) => ?_; try (simp (disch := decide) only [up_n, up_s, if_true, if_false, ite_true, ite_false, reduceIte, not_true_eq_false, not_false_eq_true] at hc)))
    all_goals first | exact ih (k + 1) (by omega) (by omega) | (exfalso; omega)
set_option maxHeartbeats 4000000 in
set_option maxRecDepth 100000 in
theorem m_placeOf {M : fr_M} {b : Int} {Q : Option fr_V → fr_H → fr_M → Prop} (h1 : P1 M) (h2 : P2 M) (h4 : P4 M) (o1 : O1 M) (o2 : O2 M) (hb : 0 ≤ b ∧ b < M 75 4) (h : Q (some (.inl (M 15 b))) sh0 M) : fr_Call 151 [.inr (.inl 75), .inl b] sh0 M Q := by
  obtain ⟨p1, p2, p3, p4, p5, p6⟩ := h1
  obtain ⟨e1, e2, e3, e4, e5, -⟩ := h4 b hb.1 hb.2
  obtain ⟨f1, f2, f3⟩ := o2 b hb.1 hb.2
  have e8 := h2 (M 79 b) e2 (by omega)
  refine fr_cgo k151 [some (.inr (.inl 75)), some (.inl b), none, none] 0 0 [7] 400 rfl rfl rfl rfl ?_
  repeat' (first | (refine And.intro (by first | omega | (simp (disch := decide) only [up_n, up_s, if_true, if_false, ite_true, ite_false, reduceIte, not_true_eq_false, not_false_eq_true]; omega)) ?_) | (refine And.intro (fun hc => ?_) (fun hc => ?_) <;> (try (simp (disch := decide) only [up_n, up_s, if_true, if_false, ite_true, ite_false, reduceIte, not_true_eq_false, not_false_eq_true] at hc)) <;> (try (exfalso; omega))) | (refine fun (hc : ¬ _) => ?_; try (simp (disch := decide) only [up_n, up_s, if_true, if_false, ite_true, ite_false, reduceIte, not_true_eq_false, not_false_eq_true] at hc)) | (refine fun (hc : _ = _) => ?_; try (simp (disch := decide) only [up_n, up_s, if_true, if_false, ite_true, ite_false, reduceIte, not_true_eq_false, not_false_eq_true] at hc)))
  refine m_placeOf_l (p := M 15 b) (by omega) (by omega) (by omega) f3 (fun k q0 q1 q2 => ?_) h (M 15 b).toNat 0 (by omega) (by omega)
  obtain ⟨-, -, -, -, g⟩ := o1 (M 79 b) k e2 (by omega) q0 (by omega)
  rw [q2] at g
  omega
set_option maxHeartbeats 4000000 in
set_option maxRecDepth 100000 in
theorem c_aboutWay {M : fr_M} {b a : Int} {Q : Option fr_V → fr_H → fr_M → Prop} (hb : 0 ≤ b ∧ b < 40) (ha : 6 ≤ a ∧ a ≤ 13) (h1 : (a - 6) % 4 < M 8 b → a < 10 → Q (some (.inl (M 11 (b * 4 + (a - 6) % 4)))) sh0 M) (h2 : (a - 6) % 4 < M 8 b → ¬ a < 10 → Q (some (.inl (M 12 (b * 4 + (a - 6) % 4)))) sh0 M) (h3 : ¬ (a - 6) % 4 < M 8 b → Q (some (.inl (-9))) sh0 M) : fr_Call 115 [.inr (.inl 0), .inl b, .inl a] sh0 M Q := by
  refine fr_cgo k115 [some (.inr (.inl 0)), some (.inl b), some (.inl a), none] 0 0 [] 400 rfl rfl rfl rfl ?_
  repeat' (first | (refine And.intro (by first | omega | (simp (disch := decide) only [up_n, up_s, if_true, if_false, ite_true, ite_false, reduceIte, not_true_eq_false, not_false_eq_true]; omega)) ?_) | (refine c_wayOf (by omega) (by omega) (fun hc => ?_) (fun hc => ?_) <;> (try (simp (disch := decide) only [up_n, up_s, if_true, if_false, ite_true, ite_false, reduceIte, not_true_eq_false, not_false_eq_true] at hc))) | (refine c_countOf (by omega) (by omega) (fun hc => ?_) (fun hc => ?_) <;> (try (simp (disch := decide) only [up_n, up_s, if_true, if_false, ite_true, ite_false, reduceIte, not_true_eq_false, not_false_eq_true] at hc))) | (refine And.intro (fun hc => ?_) (fun hc => ?_) <;> (try (simp (disch := decide) only [up_n, up_s, if_true, if_false, ite_true, ite_false, reduceIte, not_true_eq_false, not_false_eq_true] at hc)) <;> (try (exfalso; omega))) | (refine fun (hc : ¬ _) => ?_; try (simp (disch := decide) only [up_n, up_s, if_true, if_false, ite_true, ite_false, reduceIte, not_true_eq_false, not_false_eq_true] at hc)) | (refine fun (hc : _ = _) => ?_; try (simp (disch := decide) only [up_n, up_s, if_true, if_false, ite_true, ite_false, reduceIte, not_true_eq_false, not_false_eq_true] at hc)))
  all_goals first | (exfalso; omega) | exact h1 (by omega) (by omega) | exact h2 (by omega) (by omega) | exact h3 (by omega)
set_option maxHeartbeats 4000000 in
set_option maxRecDepth 100000 in
theorem op_about {n : Int} {M : fr_M} (hR : Rel n M) (hn : n ≤ 512) (a0 : Int) (a1 : Int) (g0 : fr_in a0) (g1 : fr_in a1) : Two 116 152 [.inl a0, .inl a1] M (Rel (n + 1)) := by
  obtain ⟨h0, h1, h2, h3, h4, h5, h6, h7, h8, o1, o2, o3, k1, k2, k3, k4, k5, t1, t2, s1, r1, r1', r2, r2', r3, r4, l⟩ := id hR
  obtain ⟨p1, p2, p3, p4, p5, p6⟩ := id h1
  have hN := hR.next
  by_cases hb : (0 ≤ a0 ∧ a0 < M 75 4) ∧ 0 ≤ a1 ∧ a1 ≤ 14
  · obtain ⟨hb, ha⟩ := hb
    obtain ⟨e1, e2, e3, e4, e5, e6, e7, e8, e9, e10, e11, e12⟩ := id (h4 a0 hb.1 hb.2)
    obtain ⟨f1, f2, f3, f4, f5, f6, f7, f8, f9, f10⟩ := id (h5 a0 hb.1 hb.2)
    have w0 := h6 a0 0 hb.1 hb.2 (by omega)
    have w1 := h6 a0 1 hb.1 hb.2 (by omega)
    have w2 := h6 a0 2 hb.1 hb.2 (by omega)
    have w3 := h6 a0 3 hb.1 hb.2 (by omega)
    have c0 := (h7 (4 * a0 + 0) (by omega) (by omega)).1
    have c1 := (h7 (4 * a0 + 1) (by omega) (by omega)).1
    have c2 := (h7 (4 * a0 + 2) (by omega) (by omega)).1
    have c3 := (h7 (4 * a0 + 3) (by omega) (by omega)).1
    have hpl : ∀ {Q : Option fr_V → fr_H → fr_M → Prop}, Q (some (.inl (M 15 a0))) sh0 M → fr_Call 151 [.inr (.inl 75), .inl a0] sh0 M Q := fun h => m_placeOf h1 h2 h4 o1 o2 hb h
    rw [Int.mul_comm 4 a0] at c0 c1 c2 c3
    clear h2 h3 h4 h5 h6 h7 h8 o1 o2 o3 k1 k2 k3 k4 k5 t1 t2 s1 r1 r1' r2 r2' r3 r4 l h1 hR
    refine Two.of ?_
    rcases (show a1 = 0 ∨ a1 = 1 ∨ a1 = 2 ∨ a1 = 3 ∨ a1 = 4 ∨ a1 = 5 ∨ a1 = 6 ∨ a1 = 7 ∨ a1 = 8 ∨ a1 = 9 ∨ a1 = 10 ∨ a1 = 11 ∨ a1 = 12 ∨ a1 = 13 ∨ a1 = 14 by omega) with rfl | rfl | rfl | rfl | rfl | rfl | rfl | rfl | rfl | rfl | rfl | rfl | rfl | rfl | rfl
    all_goals (refine fr_cgo k116 [some (.inr (.inl 0)), some (.inl a0), some (.inl _)] 0 0 [] 400 rfl rfl rfl rfl ?_)
    all_goals (repeat' (first | (refine And.intro (by first | omega | (simp (disch := decide) only [up_n, up_s, if_true, if_false, ite_true, ite_false, reduceIte, not_true_eq_false, not_false_eq_true]; omega)) ?_) | (refine c_isBlock (fun hc => ?_) (fun hc => ?_) <;> (try (simp (disch := decide) only [up_n, up_s, if_true, if_false, ite_true, ite_false, reduceIte, not_true_eq_false, not_false_eq_true] at hc))) | (refine c_asNumber (by omega) ?_) | (refine c_aboutWay (by omega) (by omega) (fun hc hd => ?_) (fun hc hd => ?_) (fun hc => ?_) <;> (try (simp (disch := decide) only [up_n, up_s, if_true, if_false, ite_true, ite_false, reduceIte, not_true_eq_false, not_false_eq_true] at hc))) | (refine And.intro (fun hc => ?_) (fun hc => ?_) <;> (try (simp (disch := decide) only [up_n, up_s, if_true, if_false, ite_true, ite_false, reduceIte, not_true_eq_false, not_false_eq_true] at hc)) <;> (try (exfalso; omega))) | (refine fun (hc : ¬ _) => ?_; try (simp (disch := decide) only [up_n, up_s, if_true, if_false, ite_true, ite_false, reduceIte, not_true_eq_false, not_false_eq_true] at hc)) | (refine fun (hc : _ = _) => ?_; try (simp (disch := decide) only [up_n, up_s, if_true, if_false, ite_true, ite_false, reduceIte, not_true_eq_false, not_false_eq_true] at hc))))
    all_goals first | (exfalso; omega) | refine ⟨rfl, _, rfl, ?_⟩
    all_goals (refine fr_cgo k152 [some (.inr (.inl 75)), some (.inl a0), some (.inl _), none] 0 0 [] 400 rfl rfl rfl rfl ?_)
    all_goals (repeat' (first | (refine And.intro (by first | omega | (simp (disch := decide) only [up_n, up_s, if_true, if_false, ite_true, ite_false, reduceIte, not_true_eq_false, not_false_eq_true]; omega)) ?_) | (refine m_isBlock (by first | omega | (simp (disch := decide) only [up_n, up_s, if_true, if_false, ite_true, ite_false, reduceIte, not_true_eq_false, not_false_eq_true]; omega)) (fun hc => ?_) (fun hc => ?_) <;> (try (simp (disch := decide) only [up_n, up_s, if_true, if_false, ite_true, ite_false, reduceIte, not_true_eq_false, not_false_eq_true] at hc))) | (refine m_in (fun hc => ?_) (fun hc => ?_) <;> (try (simp (disch := decide) only [up_n, up_s, if_true, if_false, ite_true, ite_false, reduceIte, not_true_eq_false, not_false_eq_true] at hc))) | (refine hpl ?_) | (refine And.intro (fun hc => ?_) (fun hc => ?_) <;> (try (simp (disch := decide) only [up_n, up_s, if_true, if_false, ite_true, ite_false, reduceIte, not_true_eq_false, not_false_eq_true] at hc)) <;> (try (exfalso; omega))) | (refine fun (hc : ¬ _) => ?_; try (simp (disch := decide) only [up_n, up_s, if_true, if_false, ite_true, ite_false, reduceIte, not_true_eq_false, not_false_eq_true] at hc)) | (refine fun (hc : _ = _) => ?_; try (simp (disch := decide) only [up_n, up_s, if_true, if_false, ite_true, ite_false, reduceIte, not_true_eq_false, not_false_eq_true] at hc))))
    all_goals first | (exfalso; omega) | exact ⟨rfl, rfl, hN⟩ | exact ⟨rfl, sv (by omega), hN⟩ | (refine ⟨rfl, sv ?_, hN⟩; simp only [Int.reduceSub, Int.reduceMod, Int.reduceAdd] at *; rw [Int.mul_comm 4 a0] at *; omega)
  · clear h2 h3 h4 h5 h6 h7 h8 o1 o2 o3 k1 k2 k3 k4 k5 t1 t2 s1 r1 r1' r2 r2' r3 r4 l h1 hR
    refine Two.of ?_
    refine fr_cgo k116 [some (.inr (.inl 0)), some (.inl a0), some (.inl a1)] 0 0 [] 400 rfl rfl rfl rfl ?_
    repeat' (first | (refine And.intro (by first | omega | (simp (disch := decide) only [up_n, up_s, if_true, if_false, ite_true, ite_false, reduceIte, not_true_eq_false, not_false_eq_true]; omega)) ?_) | (refine c_isBlock (fun hc => ?_) (fun hc => ?_) <;> (try (simp (disch := decide) only [up_n, up_s, if_true, if_false, ite_true, ite_false, reduceIte, not_true_eq_false, not_false_eq_true] at hc))) | (refine And.intro (fun hc => ?_) (fun hc => ?_) <;> (try (simp (disch := decide) only [up_n, up_s, if_true, if_false, ite_true, ite_false, reduceIte, not_true_eq_false, not_false_eq_true] at hc)) <;> (try (exfalso; omega))) | (refine fun (hc : ¬ _) => ?_; try (simp (disch := decide) only [up_n, up_s, if_true, if_false, ite_true, ite_false, reduceIte, not_true_eq_false, not_false_eq_true] at hc)) | (refine fun (hc : _ = _) => ?_; try (simp (disch := decide) only [up_n, up_s, if_true, if_false, ite_true, ite_false, reduceIte, not_true_eq_false, not_false_eq_true] at hc)))
    all_goals first | (exfalso; omega) | refine ⟨rfl, _, rfl, ?_⟩
    all_goals (refine fr_cgo k152 [some (.inr (.inl 75)), some (.inl a0), some (.inl a1), none] 0 0 [] 400 rfl rfl rfl rfl ?_)
    all_goals (repeat' (first | (refine And.intro (by first | omega | (simp (disch := decide) only [up_n, up_s, if_true, if_false, ite_true, ite_false, reduceIte, not_true_eq_false, not_false_eq_true]; omega)) ?_) | (refine m_isBlock (by first | omega | (simp (disch := decide) only [up_n, up_s, if_true, if_false, ite_true, ite_false, reduceIte, not_true_eq_false, not_false_eq_true]; omega)) (fun hc => ?_) (fun hc => ?_) <;> (try (simp (disch := decide) only [up_n, up_s, if_true, if_false, ite_true, ite_false, reduceIte, not_true_eq_false, not_false_eq_true] at hc))) | (refine m_in (fun hc => ?_) (fun hc => ?_) <;> (try (simp (disch := decide) only [up_n, up_s, if_true, if_false, ite_true, ite_false, reduceIte, not_true_eq_false, not_false_eq_true] at hc))) | (refine And.intro (fun hc => ?_) (fun hc => ?_) <;> (try (simp (disch := decide) only [up_n, up_s, if_true, if_false, ite_true, ite_false, reduceIte, not_true_eq_false, not_false_eq_true] at hc)) <;> (try (exfalso; omega))) | (refine fun (hc : ¬ _) => ?_; try (simp (disch := decide) only [up_n, up_s, if_true, if_false, ite_true, ite_false, reduceIte, not_true_eq_false, not_false_eq_true] at hc)) | (refine fun (hc : _ = _) => ?_; try (simp (disch := decide) only [up_n, up_s, if_true, if_false, ite_true, ite_false, reduceIte, not_true_eq_false, not_false_eq_true] at hc))))
    all_goals first | (exfalso; omega) | exact ⟨rfl, rfl, hN⟩
end
section
set_option maxHeartbeats 4000000 in
set_option maxRecDepth 100000 in
theorem op_cold {n : Int} {M : fr_M} (hR : Rel n M) (hn : n ≤ 512) (a0 : Int) (a1 : Int) (g0 : fr_in a0) (g1 : a1 = 0 ∨ a1 = 1) : Two 114 150 [.inl a0, .inl a1] M (Rel (n + 1)) := by
  obtain ⟨h0, h1, h2, h3, h4, h5, h6, h7, h8, o1, o2, o3, k1, k2, k3, k4, k5, t1, t2, s1, r1, r1', r2, r2', r3, r4, l⟩ := id hR
  obtain ⟨p1, p2, p3, p4, p5, p6⟩ := id h1
  have hN := hR.next
  by_cases hb : 0 ≤ a0 ∧ a0 < M 75 4
  · have hf := first_iff h3 h4 h1 hb.1 hb.2
    obtain ⟨e1, e2, e3, e4, e5, e6, e7, e8, e9, e10, e11, e12⟩ := id (h4 a0 hb.1 hb.2)
    refine Two.of ?_
    refine fr_cgo k114 [some (.inr (.inl 0)), some (.inl a0), some (.inl a1), none] 0 0 [] 400 rfl rfl rfl rfl ?_
    repeat' (first | (refine And.intro (by first | omega | (simp (disch := decide) only [up_n, up_s, if_true, if_false, ite_true, ite_false, reduceIte, not_true_eq_false, not_false_eq_true]; omega)) ?_) | (refine c_isMovable (by first | omega | (simp (disch := decide) only [up_n, up_s, if_true, if_false, ite_true, ite_false, reduceIte, not_true_eq_false, not_false_eq_true]; omega)) (fun hc => ?_) (fun hc => ?_) <;> (try (simp (disch := decide) only [up_n, up_s, if_true, if_false, ite_true, ite_false, reduceIte, not_true_eq_false, not_false_eq_true] at hc))) | (refine c_asNumber (by omega) ?_) | (refine c_disturb ?_) | (refine And.intro (fun hc => ?_) (fun hc => ?_) <;> (try (simp (disch := decide) only [up_n, up_s, if_true, if_false, ite_true, ite_false, reduceIte, not_true_eq_false, not_false_eq_true] at hc)) <;> (try (exfalso; omega))) | (refine fun (hc : ¬ _) => ?_; try (simp (disch := decide) only [up_n, up_s, if_true, if_false, ite_true, ite_false, reduceIte, not_true_eq_false, not_false_eq_true] at hc)) | (refine fun (hc : _ = _) => ?_; try (simp (disch := decide) only [up_n, up_s, if_true, if_false, ite_true, ite_false, reduceIte, not_true_eq_false, not_false_eq_true] at hc)))
    all_goals first | (exfalso; omega) | refine ⟨rfl, _, rfl, ?_⟩
    all_goals (refine fr_cgo k150 [some (.inr (.inl 75)), some (.inl a0), some (.inl a1), none] 0 0 [] 400 rfl rfl rfl rfl ?_)
    all_goals (repeat' (first | (refine And.intro (by first | omega | (simp (disch := decide) only [up_n, up_s, if_true, if_false, ite_true, ite_false, reduceIte, not_true_eq_false, not_false_eq_true]; omega)) ?_) | (refine m_isBlock (by first | omega | (simp (disch := decide) only [up_n, up_s, if_true, if_false, ite_true, ite_false, reduceIte, not_true_eq_false, not_false_eq_true]; omega)) (fun hc => ?_) (fun hc => ?_) <;> (try (simp (disch := decide) only [up_n, up_s, if_true, if_false, ite_true, ite_false, reduceIte, not_true_eq_false, not_false_eq_true] at hc))) | (refine m_isFirst (by first | omega | (simp (disch := decide) only [up_n, up_s, if_true, if_false, ite_true, ite_false, reduceIte, not_true_eq_false, not_false_eq_true]; omega)) (by first | omega | (simp (disch := decide) only [up_n, up_s, if_true, if_false, ite_true, ite_false, reduceIte, not_true_eq_false, not_false_eq_true]; omega)) (fun hc => ?_) (fun hc => ?_) <;> (try (simp (disch := decide) only [up_n, up_s, if_true, if_false, ite_true, ite_false, reduceIte, not_true_eq_false, not_false_eq_true] at hc))) | (refine And.intro (fun hc => ?_) (fun hc => ?_) <;> (try (simp (disch := decide) only [up_n, up_s, if_true, if_false, ite_true, ite_false, reduceIte, not_true_eq_false, not_false_eq_true] at hc)) <;> (try (exfalso; omega))) | (refine fun (hc : ¬ _) => ?_; try (simp (disch := decide) only [up_n, up_s, if_true, if_false, ite_true, ite_false, reduceIte, not_true_eq_false, not_false_eq_true] at hc)) | (refine fun (hc : _ = _) => ?_; try (simp (disch := decide) only [up_n, up_s, if_true, if_false, ite_true, ite_false, reduceIte, not_true_eq_false, not_false_eq_true] at hc))))
    all_goals first | (exfalso; omega) | (exfalso; simp (disch := decide) only [up_n, up_s, if_true, if_false, ite_true, ite_false, reduceIte, not_true_eq_false, not_false_eq_true] at *; omega) | exact ⟨rfl, rfl, hN⟩ | skip
    all_goals (refine ⟨rfl, sv (by first | omega | (simp (disch := decide) only [up_n, up_s, if_true, if_false, ite_true, ite_false, reduceIte, not_true_eq_false, not_false_eq_true]; omega)), by omega, h1, h2, h3, ?_, h5, h6, h7, ?_, o1, o2, o3, k1, k2, k3, k4, k5, t1, t2, s1, r1, r1', r2, r2', r3, r4, l.off rfl rfl rfl⟩)
    all_goals (intro b q0 q1; first | have e := h4 b q0 q1 | have e := h8 b q0 q1)
    all_goals (try (simp (disch := decide) only [up_n, up_s, if_true, if_false, ite_true, ite_false, reduceIte, not_true_eq_false, not_false_eq_true] at q0))
    all_goals (try (simp (disch := decide) only [up_n, up_s, if_true, if_false, ite_true, ite_false, reduceIte, not_true_eq_false, not_false_eq_true] at q1))
    all_goals (simp (disch := decide) only [up_n, up_s, if_true, if_false, ite_true, ite_false, reduceIte, not_true_eq_false, not_false_eq_true]; split <;> omega)
  · refine Two.of ?_
    refine fr_cgo k114 [some (.inr (.inl 0)), some (.inl a0), some (.inl a1), none] 0 0 [] 400 rfl rfl rfl rfl ?_
    repeat' (first | (refine And.intro (by first | omega | (simp (disch := decide) only [up_n, up_s, if_true, if_false, ite_true, ite_false, reduceIte, not_true_eq_false, not_false_eq_true]; omega)) ?_) | (refine c_isMovable (by first | omega | (simp (disch := decide) only [up_n, up_s, if_true, if_false, ite_true, ite_false, reduceIte, not_true_eq_false, not_false_eq_true]; omega)) (fun hc => ?_) (fun hc => ?_) <;> (try (simp (disch := decide) only [up_n, up_s, if_true, if_false, ite_true, ite_false, reduceIte, not_true_eq_false, not_false_eq_true] at hc))) | (refine And.intro (fun hc => ?_) (fun hc => ?_) <;> (try (simp (disch := decide) only [up_n, up_s, if_true, if_false, ite_true, ite_false, reduceIte, not_true_eq_false, not_false_eq_true] at hc)) <;> (try (exfalso; omega))) | (refine fun (hc : ¬ _) => ?_; try (simp (disch := decide) only [up_n, up_s, if_true, if_false, ite_true, ite_false, reduceIte, not_true_eq_false, not_false_eq_true] at hc)) | (refine fun (hc : _ = _) => ?_; try (simp (disch := decide) only [up_n, up_s, if_true, if_false, ite_true, ite_false, reduceIte, not_true_eq_false, not_false_eq_true] at hc)))
    all_goals first | (exfalso; omega) | refine ⟨rfl, _, rfl, ?_⟩
    all_goals (refine fr_cgo k150 [some (.inr (.inl 75)), some (.inl a0), some (.inl a1), none] 0 0 [] 400 rfl rfl rfl rfl ?_)
    all_goals (repeat' (first | (refine And.intro (by first | omega | (simp (disch := decide) only [up_n, up_s, if_true, if_false, ite_true, ite_false, reduceIte, not_true_eq_false, not_false_eq_true]; omega)) ?_) | (refine m_isBlock (by first | omega | (simp (disch := decide) only [up_n, up_s, if_true, if_false, ite_true, ite_false, reduceIte, not_true_eq_false, not_false_eq_true]; omega)) (fun hc => ?_) (fun hc => ?_) <;> (try (simp (disch := decide) only [up_n, up_s, if_true, if_false, ite_true, ite_false, reduceIte, not_true_eq_false, not_false_eq_true] at hc))) | (refine And.intro (fun hc => ?_) (fun hc => ?_) <;> (try (simp (disch := decide) only [up_n, up_s, if_true, if_false, ite_true, ite_false, reduceIte, not_true_eq_false, not_false_eq_true] at hc)) <;> (try (exfalso; omega))) | (refine fun (hc : ¬ _) => ?_; try (simp (disch := decide) only [up_n, up_s, if_true, if_false, ite_true, ite_false, reduceIte, not_true_eq_false, not_false_eq_true] at hc)) | (refine fun (hc : _ = _) => ?_; try (simp (disch := decide) only [up_n, up_s, if_true, if_false, ite_true, ite_false, reduceIte, not_true_eq_false, not_false_eq_true] at hc))))
    all_goals first | (exfalso; omega) | exact ⟨rfl, rfl, hN⟩
end
section
theorem cp_n {M : fr_M} {a b k : Nat} {x y z i : Int} (h : k ≠ b) : fr_cp M a x b y z k i = M k i := by
  unfold fr_cp
  rw [if_neg h]
theorem cp_i {M : fr_M} {a b : Nat} {z i : Int} (h : 0 ≤ i ∧ i < z) : fr_cp M a 0 b 0 z b i = M a i := by
  unfold fr_cp
  rw [if_pos rfl, if_pos (by omega)]
  congr 1
  omega
theorem cp_0 {M : fr_M} {a b : Nat} : fr_cp M a 0 b 0 0 = M := by
  funext k i
  unfold fr_cp
  split
  · rw [if_neg (by omega)]
  · rfl
theorem cp_s {M : fr_M} {a b : Nat} {j : Int} (hj : 0 ≤ j) (hab : a ≠ b) : fr_up (fr_cp M a 0 b 0 j) b j (fr_cp M a 0 b 0 j a j) = fr_cp M a 0 b 0 (j + 1) := by
  funext k i
  have e : fr_cp M a 0 b 0 j a j = M a j := by
    unfold fr_cp
    rw [if_neg hab]
  rw [e]
  unfold fr_up fr_cp
  by_cases hk : k = b
  · rw [if_pos hk, if_pos hk, if_pos hk]
    by_cases hi : i = j
    · rw [if_pos hi, if_pos (by omega)]
      rw [hi]
      congr 1
      omega
    · rw [if_neg hi]
      by_cases hc : 0 ≤ i ∧ i < 0 + j
      · rw [if_pos hc, if_pos (by omega)]
      · rw [if_neg hc, if_neg (by omega)]
  · rw [if_neg hk, if_neg hk, if_neg hk]
theorem kp_c {M M' : fr_M} {a b : Nat} {x y z : Int} (h : ∀ k i, rl k i = true → M' k i = M k i) (q : ∀ i, rl b i = false) : ∀ k i, rl k i = true → fr_cp M' a x b y z k i = M k i := by
  intro k i hk
  unfold fr_cp
  split
  · next e => subst e; rw [q i] at hk; cases hk
  · exact h k i hk
set_option maxHeartbeats 4000000 in
set_option maxRecDepth 100000 in
theorem m_learn_l {M : fr_M} {Q : Option fr_V → fr_H → fr_M → Prop} (h : fr_Run 202 none 20 [some (.inr (.inl 75)), some (.inl 160)] [] sh0 (fr_cp M 109 0 85 0 160) 0 0 Q) : ∀ (t : Nat) (j : Int), 0 ≤ j → j + t = 160 → fr_Run 202 none 7 [some (.inr (.inl 75)), some (.inl j)] [] sh0 (fr_cp M 109 0 85 0 j) 0 0 Q := by
  intro t
  induction t with
  | zero =>
    intro j h0 h1
    have e : j = 160 := by omega
    subst e
    refine fr_go k202 [7, 20] 400 rfl ?_
    repeat' (first | (refine And.intro (by first | omega | (simp (disch := decide) only [up_n, up_s, cp_n, if_true, if_false, ite_true, ite_false, reduceIte, not_true_eq_false, not_false_eq_true]; omega)) ?_) | (refine And.intro (fun hc => ?_) (fun hc => ?_) <;> (try (simp (disch := decide) only [up_n, up_s, cp_n, if_true, if_false, ite_true, ite_false, reduceIte, not_true_eq_false, not_false_eq_true] at hc)) <;> (try (exfalso; omega))) | (refine fun (hc : ¬ _) => ?_; try (simp (disch := decide) only [up_n, up_s, cp_n, if_true, if_false, ite_true, ite_false, reduceIte, not_true_eq_false, not_false_eq_true] at hc)) | (refine fun (hc : _ = _) => ?_; try (simp (disch := decide) only [up_n, up_s, cp_n, if_true, if_false, ite_true, ite_false, reduceIte, not_true_eq_false, not_false_eq_true] at hc)))
    all_goals first | exact h | (exfalso; omega)
  | succ t ih =>
    intro j h0 h1
    refine fr_go k202 [7, 20] 400 rfl ?_
    repeat' (first | (refine And.intro (by first | omega | (simp (disch := decide) only [up_n, up_s, cp_n, if_true, if_false, ite_true, ite_false, reduceIte, not_true_eq_false, not_false_eq_true]; omega)) ?_) | (refine And.intro (fun hc => ?_) (fun hc => ?_) <;> (try (simp (disch := decide) only [up_n, up_s, cp_n, if_true, if_false, ite_true, ite_false, reduceIte, not_true_eq_false, not_false_eq_true] at hc)) <;> (try (exfalso; omega))) | (refine fun (hc : ¬ _) => ?_; try (simp (disch := decide) only [up_n, up_s, cp_n, if_true, if_false, ite_true, ite_false, reduceIte, not_true_eq_false, not_false_eq_true] at hc)) | (refine fun (hc : _ = _) => ?_; try (simp (disch := decide) only [up_n, up_s, cp_n, if_true, if_false, ite_true, ite_false, reduceIte, not_true_eq_false, not_false_eq_true] at hc)))
    all_goals first | (exfalso; omega) | skip
    rw [cp_s h0 (by decide)]
    exact ih (j + 1) (by omega) (by omega)
set_option maxHeartbeats 4000000 in
set_option maxRecDepth 100000 in
theorem op_learn {n : Int} {M : fr_M} (hR : Rel n M) (hn : n ≤ 512) : Two 135 202 [] M (Rel (n + 1)) := by
  obtain ⟨h0, h1, h2, h3, h4, h5, h6, h7, h8, o1, o2, o3, k1, k2, k3, k4, k5, t1, t2, s1, r1, r1', r2, r2', r3, r4, l⟩ := id hR
  obtain ⟨z1, z2, z3, z4⟩ := id r3
  obtain ⟨x1, x2, x3, x4, x5, x6⟩ := id r1
  have hN := hR.next
  have z9 : M 45 0 = 0 ∨ M 45 0 = 1 := by rw [x1]; exact x2
  refine Two.of ?_
  refine fr_cgo k135 [some (.inr (.inl 0))] 0 0 [] 400 rfl rfl rfl rfl ?_
  repeat' (first | (refine And.intro (by first | omega | (simp (disch := decide) only [up_n, up_s, cp_n, if_true, if_false, ite_true, ite_false, reduceIte, not_true_eq_false, not_false_eq_true]; omega)) ?_) | (refine And.intro (fun hc => ?_) (fun hc => ?_) <;> (try (simp (disch := decide) only [up_n, up_s, cp_n, if_true, if_false, ite_true, ite_false, reduceIte, not_true_eq_false, not_false_eq_true] at hc)) <;> (try (exfalso; omega))) | (refine fun (hc : ¬ _) => ?_; try (simp (disch := decide) only [up_n, up_s, cp_n, if_true, if_false, ite_true, ite_false, reduceIte, not_true_eq_false, not_false_eq_true] at hc)) | (refine fun (hc : _ = _) => ?_; try (simp (disch := decide) only [up_n, up_s, cp_n, if_true, if_false, ite_true, ite_false, reduceIte, not_true_eq_false, not_false_eq_true] at hc)))
  all_goals first | (exfalso; omega) | refine ⟨rfl, _, rfl, ?_⟩
  all_goals (refine fr_cgo k202 [some (.inr (.inl 75)), none] 0 0 [7] 400 rfl rfl rfl rfl ?_)
  all_goals (repeat' (first | (refine And.intro (by first | omega | (simp (disch := decide) only [up_n, up_s, cp_n, if_true, if_false, ite_true, ite_false, reduceIte, not_true_eq_false, not_false_eq_true]; omega)) ?_) | (refine And.intro (fun hc => ?_) (fun hc => ?_) <;> (try (simp (disch := decide) only [up_n, up_s, cp_n, if_true, if_false, ite_true, ite_false, reduceIte, not_true_eq_false, not_false_eq_true] at hc)) <;> (try (exfalso; omega))) | (refine fun (hc : ¬ _) => ?_; try (simp (disch := decide) only [up_n, up_s, cp_n, if_true, if_false, ite_true, ite_false, reduceIte, not_true_eq_false, not_false_eq_true] at hc)) | (refine fun (hc : _ = _) => ?_; try (simp (disch := decide) only [up_n, up_s, cp_n, if_true, if_false, ite_true, ite_false, reduceIte, not_true_eq_false, not_false_eq_true] at hc))))
  all_goals first | (exfalso; omega) | exact ⟨rfl, rfl, hN⟩ | skip
  have hm : M 45 0 = 1 := by omega
  have z4 := z4 hm
  have x6 := (x6 (by omega)).2.1
  have hh := m_learn_l (M := fr_cp M 48 0 12 0 160) (Q := fun r2 sh2 M2 => sh2 = sh0 ∧ r2 = some (.inl (fr_cp M 48 0 12 0 160 45 2)) ∧ Rel (n + 1) M2) ?_ 160 0 (by omega) (by omega)
  · rw [cp_0] at hh
    exact hh
  · refine fr_go k202 [] 400 rfl ?_
    repeat' (first | (refine And.intro (by first | omega | (simp (disch := decide) only [up_n, up_s, cp_n, if_true, if_false, ite_true, ite_false, reduceIte, not_true_eq_false, not_false_eq_true]; omega)) ?_) | (refine And.intro (fun hc => ?_) (fun hc => ?_) <;> (try (simp (disch := decide) only [up_n, up_s, cp_n, if_true, if_false, ite_true, ite_false, reduceIte, not_true_eq_false, not_false_eq_true] at hc)) <;> (try (exfalso; omega))) | (refine fun (hc : ¬ _) => ?_; try (simp (disch := decide) only [up_n, up_s, cp_n, if_true, if_false, ite_true, ite_false, reduceIte, not_true_eq_false, not_false_eq_true] at hc)) | (refine fun (hc : _ = _) => ?_; try (simp (disch := decide) only [up_n, up_s, cp_n, if_true, if_false, ite_true, ite_false, reduceIte, not_true_eq_false, not_false_eq_true] at hc)))
    refine ⟨rfl, sv ?_, by omega, h1, h2, h3, h4, h5, h6, ?_, h8, o1, o2, o3, k1, k2, k3, k4, k5, t1, t2, s1, r1, r1', r2, r2', r3, r4, l.keep (kp_c (kp_c kp_r (fun _ => rfl)) (fun _ => rfl))⟩
    · simp (disch := decide) only [up_n, up_s, cp_n, if_true, if_false, ite_true, ite_false, reduceIte, not_true_eq_false, not_false_eq_true]
      exact x6
    · intro i q0 q1
      have e := z4 i q0 q1
      have e1 : fr_cp (fr_cp M 48 0 12 0 160) 109 0 85 0 160 12 i = M 48 i := by
        rw [cp_n (by decide), cp_i (by omega)]
      have e2 : fr_cp (fr_cp M 48 0 12 0 160) 109 0 85 0 160 85 i = M 109 i := by
        rw [cp_i (by omega), cp_n (by decide)]
      rw [e1, e2]
      omega
end
section
set_option maxHeartbeats 4000000 in
set_option maxRecDepth 100000 in
theorem c_bitCount {M : fr_M} {x : Int} {Q : Option fr_V → fr_H → fr_M → Prop} (hx : 1 ≤ x ∧ x ≤ 16) (h : ∀ r, (r = 1 ↔ x = 1 ∨ x = 2 ∨ x = 4 ∨ x = 8 ∨ x = 16) → Q (some (.inl r)) sh0 M) : fr_Call 121 [.inl x] sh0 M Q := by
  rcases (show x = 1 ∨ x = 2 ∨ x = 3 ∨ x = 4 ∨ x = 5 ∨ x = 6 ∨ x = 7 ∨ x = 8 ∨ x = 9 ∨ x = 10 ∨ x = 11 ∨ x = 12 ∨ x = 13 ∨ x = 14 ∨ x = 15 ∨ x = 16 by omega) with rfl | rfl | rfl | rfl | rfl | rfl | rfl | rfl | rfl | rfl | rfl | rfl | rfl | rfl | rfl | rfl
  all_goals (refine fr_cgo k121 [some (.inl _)] 0 0 [] 400 rfl rfl rfl rfl ?_)
  all_goals (repeat' (refine And.intro (by decide +kernel) ?_))
  all_goals exact h _ (by decide +kernel)
set_option maxHeartbeats 4000000 in
set_option maxRecDepth 100000 in
theorem op_set {n : Int} {M : fr_M} (hR : Rel n M) (hn : n ≤ 512) (a0 : Int) (a1 : Int) (g0 : fr_in a0) (g1 : fr_in a1) : Two 122 173 [.inl a0, .inl a1] M (Rel (n + 1)) := by
  obtain ⟨h0, h1, h2, h3, h4, h5, h6, h7, h8, o1, o2, o3, k1, k2, k3, k4, k5, t1, t2, s1, r1, r1', r2, r2', r3, r4, l⟩ := id hR
  obtain ⟨s2, s3, s4, s5, s6, s7, s8⟩ := id s1
  have hN := hR.next
  refine Two.of ?_
  by_cases c0 : a0 = 0 ∧ (a1 = 0 ∨ a1 = 1)
  · obtain ⟨rfl, c0⟩ := c0
    rcases c0 with rfl | rfl
    all_goals (refine fr_cgo k122 [some (.inr (.inl 0)), some (.inl 0), some (.inl _), none] 0 0 [] 400 rfl rfl rfl rfl ?_)
    all_goals (repeat' (first | (refine And.intro (by first | omega | (simp (disch := decide) only [up_n, up_s, cp_n, if_true, if_false, ite_true, ite_false, reduceIte, not_true_eq_false, not_false_eq_true]; omega)) ?_) | (refine c_asNumber (by omega) ?_) | (refine c_disturb ?_) | (refine And.intro (fun hc => ?_) (fun hc => ?_) <;> (try (simp (disch := decide) only [up_n, up_s, cp_n, if_true, if_false, ite_true, ite_false, reduceIte, not_true_eq_false, not_false_eq_true] at hc)) <;> (try (exfalso; omega))) | (refine fun (hc : ¬ _) => ?_; try (simp (disch := decide) only [up_n, up_s, cp_n, if_true, if_false, ite_true, ite_false, reduceIte, not_true_eq_false, not_false_eq_true] at hc)) | (refine fun (hc : _ = _) => ?_; try (simp (disch := decide) only [up_n, up_s, cp_n, if_true, if_false, ite_true, ite_false, reduceIte, not_true_eq_false, not_false_eq_true] at hc))))
    all_goals first | (exfalso; omega) | refine ⟨rfl, _, rfl, ?_⟩
    all_goals (refine fr_cgo k173 [some (.inr (.inl 75)), some (.inl 0), some (.inl _), none, none] 0 0 [] 400 rfl rfl rfl rfl ?_)
    all_goals (repeat' (first | (refine And.intro (by first | omega | (simp (disch := decide) only [up_n, up_s, cp_n, if_true, if_false, ite_true, ite_false, reduceIte, not_true_eq_false, not_false_eq_true]; omega)) ?_) | (refine m_in (fun hc => ?_) (fun hc => ?_) <;> (try (simp (disch := decide) only [up_n, up_s, cp_n, if_true, if_false, ite_true, ite_false, reduceIte, not_true_eq_false, not_false_eq_true] at hc))) | (refine And.intro (fun hc => ?_) (fun hc => ?_) <;> (try (simp (disch := decide) only [up_n, up_s, cp_n, if_true, if_false, ite_true, ite_false, reduceIte, not_true_eq_false, not_false_eq_true] at hc)) <;> (try (exfalso; omega))) | (refine fun (hc : ¬ _) => ?_; try (simp (disch := decide) only [up_n, up_s, cp_n, if_true, if_false, ite_true, ite_false, reduceIte, not_true_eq_false, not_false_eq_true] at hc)) | (refine fun (hc : _ = _) => ?_; try (simp (disch := decide) only [up_n, up_s, cp_n, if_true, if_false, ite_true, ite_false, reduceIte, not_true_eq_false, not_false_eq_true] at hc))))
    all_goals first | (exfalso; omega) | (exfalso; simp (disch := decide) only [up_n, up_s, cp_n, if_true, if_false, ite_true, ite_false, reduceIte, not_true_eq_false, not_false_eq_true] at *; omega) | skip
    all_goals (refine ⟨rfl, sv (by first | omega | (simp (disch := decide) only [up_n, up_s, cp_n, if_true, if_false, ite_true, ite_false, reduceIte, not_true_eq_false, not_false_eq_true]; omega)), by omega, h1, h2, h3, h4, h5, h6, h7, h8, o1, o2, o3, k1, k2, k3, k4, k5, t1, t2, ⟨rfl, (by first | exact Or.inl rfl | exact Or.inr rfl), s4, s5, s6, s7, s8⟩, r1, r1', r2, r2', r3, r4, l.off rfl rfl rfl⟩)
  · by_cases c1 : a0 = 1 ∧ (a1 = 1 ∨ a1 = 2 ∨ a1 = 4 ∨ a1 = 8 ∨ a1 = 16)
    · obtain ⟨rfl, c1⟩ := c1
      refine fr_cgo k122 [some (.inr (.inl 0)), some (.inl 1), some (.inl a1), none] 0 0 [] 400 rfl rfl rfl rfl ?_
      repeat' (first | (refine And.intro (by first | omega | (simp (disch := decide) only [up_n, up_s, cp_n, if_true, if_false, ite_true, ite_false, reduceIte, not_true_eq_false, not_false_eq_true]; omega)) ?_) | (refine c_bitCount (by omega) (fun r hc => ?_) <;> (try (simp (disch := decide) only [up_n, up_s, cp_n, if_true, if_false, ite_true, ite_false, reduceIte, not_true_eq_false, not_false_eq_true] at hc))) | (refine c_disturb ?_) | (refine And.intro (fun hc => ?_) (fun hc => ?_) <;> (try (simp (disch := decide) only [up_n, up_s, cp_n, if_true, if_false, ite_true, ite_false, reduceIte, not_true_eq_false, not_false_eq_true] at hc)) <;> (try (exfalso; omega))) | (refine fun (hc : ¬ _) => ?_; try (simp (disch := decide) only [up_n, up_s, cp_n, if_true, if_false, ite_true, ite_false, reduceIte, not_true_eq_false, not_false_eq_true] at hc)) | (refine fun (hc : _ = _) => ?_; try (simp (disch := decide) only [up_n, up_s, cp_n, if_true, if_false, ite_true, ite_false, reduceIte, not_true_eq_false, not_false_eq_true] at hc)))
      all_goals first | (exfalso; omega) | refine ⟨rfl, _, rfl, ?_⟩
      all_goals (refine fr_cgo k173 [some (.inr (.inl 75)), some (.inl 1), some (.inl a1), none, none] 0 0 [] 400 rfl rfl rfl rfl ?_)
      all_goals (repeat' (first | (refine And.intro (by first | omega | (simp (disch := decide) only [up_n, up_s, cp_n, if_true, if_false, ite_true, ite_false, reduceIte, not_true_eq_false, not_false_eq_true]; omega)) ?_) | (refine m_in (fun hc => ?_) (fun hc => ?_) <;> (try (simp (disch := decide) only [up_n, up_s, cp_n, if_true, if_false, ite_true, ite_false, reduceIte, not_true_eq_false, not_false_eq_true] at hc))) | (refine And.intro (fun hc => ?_) (fun hc => ?_) <;> (try (simp (disch := decide) only [up_n, up_s, cp_n, if_true, if_false, ite_true, ite_false, reduceIte, not_true_eq_false, not_false_eq_true] at hc)) <;> (try (exfalso; omega))) | (refine fun (hc : ¬ _) => ?_; try (simp (disch := decide) only [up_n, up_s, cp_n, if_true, if_false, ite_true, ite_false, reduceIte, not_true_eq_false, not_false_eq_true] at hc)) | (refine fun (hc : _ = _) => ?_; try (simp (disch := decide) only [up_n, up_s, cp_n, if_true, if_false, ite_true, ite_false, reduceIte, not_true_eq_false, not_false_eq_true] at hc))))
      all_goals first | (exfalso; omega) | (exfalso; simp (disch := decide) only [up_n, up_s, cp_n, if_true, if_false, ite_true, ite_false, reduceIte, not_true_eq_false, not_false_eq_true] at *; omega) | skip
      all_goals (refine ⟨rfl, sv (by first | omega | (simp (disch := decide) only [up_n, up_s, cp_n, if_true, if_false, ite_true, ite_false, reduceIte, not_true_eq_false, not_false_eq_true]; omega)), by omega, h1, h2, h3, h4, h5, h6, h7, h8, o1, o2, o3, k1, k2, k3, k4, k5, t1, t2, ⟨s2, s3, rfl, c1, s6, s7, s8⟩, r1, r1', r2, r2', r3, r4, l.off rfl rfl rfl⟩)
    · by_cases c2 : a0 = 2 ∧ 0 ≤ a1 ∧ a1 ≤ 8
      · obtain ⟨rfl, c2⟩ := c2
        refine fr_cgo k122 [some (.inr (.inl 0)), some (.inl 2), some (.inl a1), none] 0 0 [] 400 rfl rfl rfl rfl ?_
        repeat' (first | (refine And.intro (by first | omega | (simp (disch := decide) only [up_n, up_s, cp_n, if_true, if_false, ite_true, ite_false, reduceIte, not_true_eq_false, not_false_eq_true]; omega)) ?_) | (refine And.intro (fun hc => ?_) (fun hc => ?_) <;> (try (simp (disch := decide) only [up_n, up_s, cp_n, if_true, if_false, ite_true, ite_false, reduceIte, not_true_eq_false, not_false_eq_true] at hc)) <;> (try (exfalso; omega))) | (refine fun (hc : ¬ _) => ?_; try (simp (disch := decide) only [up_n, up_s, cp_n, if_true, if_false, ite_true, ite_false, reduceIte, not_true_eq_false, not_false_eq_true] at hc)) | (refine fun (hc : _ = _) => ?_; try (simp (disch := decide) only [up_n, up_s, cp_n, if_true, if_false, ite_true, ite_false, reduceIte, not_true_eq_false, not_false_eq_true] at hc)))
        all_goals first | (exfalso; omega) | refine ⟨rfl, _, rfl, ?_⟩
        all_goals (refine fr_cgo k173 [some (.inr (.inl 75)), some (.inl 2), some (.inl a1), none, none] 0 0 [] 400 rfl rfl rfl rfl ?_)
        all_goals (repeat' (first | (refine And.intro (by first | omega | (simp (disch := decide) only [up_n, up_s, cp_n, if_true, if_false, ite_true, ite_false, reduceIte, not_true_eq_false, not_false_eq_true]; omega)) ?_) | (refine m_in (fun hc => ?_) (fun hc => ?_) <;> (try (simp (disch := decide) only [up_n, up_s, cp_n, if_true, if_false, ite_true, ite_false, reduceIte, not_true_eq_false, not_false_eq_true] at hc))) | (refine And.intro (fun hc => ?_) (fun hc => ?_) <;> (try (simp (disch := decide) only [up_n, up_s, cp_n, if_true, if_false, ite_true, ite_false, reduceIte, not_true_eq_false, not_false_eq_true] at hc)) <;> (try (exfalso; omega))) | (refine fun (hc : ¬ _) => ?_; try (simp (disch := decide) only [up_n, up_s, cp_n, if_true, if_false, ite_true, ite_false, reduceIte, not_true_eq_false, not_false_eq_true] at hc)) | (refine fun (hc : _ = _) => ?_; try (simp (disch := decide) only [up_n, up_s, cp_n, if_true, if_false, ite_true, ite_false, reduceIte, not_true_eq_false, not_false_eq_true] at hc))))
        all_goals first | (exfalso; omega) | (exfalso; simp (disch := decide) only [up_n, up_s, cp_n, if_true, if_false, ite_true, ite_false, reduceIte, not_true_eq_false, not_false_eq_true] at *; omega) | skip
        all_goals (refine ⟨rfl, sv (by first | omega | (simp (disch := decide) only [up_n, up_s, cp_n, if_true, if_false, ite_true, ite_false, reduceIte, not_true_eq_false, not_false_eq_true]; omega)), by omega, h1, h2, h3, h4, h5, h6, h7, h8, o1, o2, o3, k1, k2, k3, k4, k5, t1, t2, ⟨s2, s3, s4, s5, rfl, c2.1, c2.2⟩, r1, r1', r2, r2', r3, r4, l.keep (kp_u (kp_u kp_r rfl) rfl)⟩)
      · refine fr_cgo k122 [some (.inr (.inl 0)), some (.inl a0), some (.inl a1), none] 0 0 [] 400 rfl rfl rfl rfl ?_
        repeat' (first | (refine And.intro (by first | omega | (simp (disch := decide) only [up_n, up_s, cp_n, if_true, if_false, ite_true, ite_false, reduceIte, not_true_eq_false, not_false_eq_true]; omega)) ?_) | (refine c_bitCount (by omega) (fun r hc => ?_) <;> (try (simp (disch := decide) only [up_n, up_s, cp_n, if_true, if_false, ite_true, ite_false, reduceIte, not_true_eq_false, not_false_eq_true] at hc))) | (refine And.intro (fun hc => ?_) (fun hc => ?_) <;> (try (simp (disch := decide) only [up_n, up_s, cp_n, if_true, if_false, ite_true, ite_false, reduceIte, not_true_eq_false, not_false_eq_true] at hc)) <;> (try (exfalso; omega))) | (refine fun (hc : ¬ _) => ?_; try (simp (disch := decide) only [up_n, up_s, cp_n, if_true, if_false, ite_true, ite_false, reduceIte, not_true_eq_false, not_false_eq_true] at hc)) | (refine fun (hc : _ = _) => ?_; try (simp (disch := decide) only [up_n, up_s, cp_n, if_true, if_false, ite_true, ite_false, reduceIte, not_true_eq_false, not_false_eq_true] at hc)))
        all_goals first | (exfalso; omega) | refine ⟨rfl, _, rfl, ?_⟩
        all_goals (refine fr_cgo k173 [some (.inr (.inl 75)), some (.inl a0), some (.inl a1), none, none] 0 0 [] 400 rfl rfl rfl rfl ?_)
        all_goals (repeat' (first | (refine And.intro (by first | omega | (simp (disch := decide) only [up_n, up_s, cp_n, if_true, if_false, ite_true, ite_false, reduceIte, not_true_eq_false, not_false_eq_true]; omega)) ?_) | (refine m_in (fun hc => ?_) (fun hc => ?_) <;> (try (simp (disch := decide) only [up_n, up_s, cp_n, if_true, if_false, ite_true, ite_false, reduceIte, not_true_eq_false, not_false_eq_true] at hc))) | (refine And.intro (fun hc => ?_) (fun hc => ?_) <;> (try (simp (disch := decide) only [up_n, up_s, cp_n, if_true, if_false, ite_true, ite_false, reduceIte, not_true_eq_false, not_false_eq_true] at hc)) <;> (try (exfalso; omega))) | (refine fun (hc : ¬ _) => ?_; try (simp (disch := decide) only [up_n, up_s, cp_n, if_true, if_false, ite_true, ite_false, reduceIte, not_true_eq_false, not_false_eq_true] at hc)) | (refine fun (hc : _ = _) => ?_; try (simp (disch := decide) only [up_n, up_s, cp_n, if_true, if_false, ite_true, ite_false, reduceIte, not_true_eq_false, not_false_eq_true] at hc))))
        all_goals first | (exfalso; omega) | exact ⟨rfl, rfl, hN⟩
end
section
theorem bv_b (x : BitVec 64) (s : Nat) (hs : s ≤ 56) : (x >>> s).setWidth 32 &&& 255#32 = (x.sshiftRight s).setWidth 32 &&& 255#32 := by
  apply BitVec.eq_of_getLsbD_eq
  intro j hj
  by_cases h8 : j < 8
  · simp [BitVec.getLsbD_sshiftRight, BitVec.getElem_sshiftRight, hj, show s + j < 64 by omega, show j < 64 by omega]
  · have : (255#32).getLsbD j = false := by
      have : ∀ j : Fin 32, 8 ≤ j.val → (255#32).getLsbD j.val = false := by decide
      exact this ⟨j, hj⟩ (by show 8 ≤ j; omega)
    simp [this]
theorem l_shr (b s : Int64) (k : Nat) (hk : (s.toBitVec.smod 64).toNat = k) : (b >>> s).toBitVec = b.toBitVec.sshiftRight k := by
  subst hk
  rfl
theorem u_shr (b s : UInt64) (k : Nat) (hk : (s.toBitVec % 64).toNat = k) : (b >>> s).toBitVec = b.toBitVec >>> k := by
  subst hk
  rfl
theorem t32 (x : Int64) : (x.toInt32 &&& Int32.ofInt 255).toBitVec = x.toBitVec.setWidth 32 &&& (Int32.ofInt 255).toBitVec := by
  have e : x.toInt32.toBitVec = x.toBitVec.setWidth 32 := by
    first | (rw [Int64.toBitVec_toInt32, BitVec.signExtend_eq_setWidth_of_le _ (by decide)]) | (show x.toBitVec.signExtend 32 = _; rw [BitVec.signExtend_eq_setWidth_of_le _ (by decide)]) | simp
  rw [← e]
  rfl
theorem bit_w (b : Int64) (s1 : UInt64) (s2 : Int64) (k : Nat) (h1 : (s1.toBitVec % 64).toNat = k) (h2 : (s2.toBitVec.smod 64).toNat = k) (hk : k ≤ 56) : ((b.toUInt64 >>> s1).toInt64.toInt32 &&& Int32.ofInt 255).toBitVec = ((b >>> s2).toInt32 &&& Int32.ofInt 255).toBitVec := by
  have e := bv_b b.toBitVec k hk
  have e0 : (b.toUInt64 >>> s1).toInt64.toBitVec = (b.toUInt64 >>> s1).toBitVec := by first | rfl | simp
  have e3 : b.toUInt64.toBitVec = b.toBitVec := by first | rfl | simp
  rw [t32, t32, e0, u_shr _ _ _ h1, l_shr _ _ _ h2, e3]
  exact e
theorem bit_u (b : Int64) (i : Int) (hi : 0 ≤ i ∧ i ≤ 7) : fr_and ((fr_lushr b (8 * i)).toInt32.toInt) 255 = fr_and ((fr_lshr b (8 * i)).toInt32.toInt) 255 := by
  unfold fr_and
  rw [fr_oi, fr_oi]
  congr 1
  apply Int32.toBitVec_inj.mp
  unfold fr_lushr fr_lshr
  rcases (show i = 0 ∨ i = 1 ∨ i = 2 ∨ i = 3 ∨ i = 4 ∨ i = 5 ∨ i = 6 ∨ i = 7 by omega) with rfl | rfl | rfl | rfl | rfl | rfl | rfl | rfl
  · exact bit_w b _ _ 0 (by decide +kernel) (by decide +kernel) (by omega)
  · exact bit_w b _ _ 8 (by decide +kernel) (by decide +kernel) (by omega)
  · exact bit_w b _ _ 16 (by decide +kernel) (by decide +kernel) (by omega)
  · exact bit_w b _ _ 24 (by decide +kernel) (by decide +kernel) (by omega)
  · exact bit_w b _ _ 32 (by decide +kernel) (by decide +kernel) (by omega)
  · exact bit_w b _ _ 40 (by decide +kernel) (by decide +kernel) (by omega)
  · exact bit_w b _ _ 48 (by decide +kernel) (by decide +kernel) (by omega)
  · exact bit_w b _ _ 56 (by decide +kernel) (by decide +kernel) (by omega)
theorem and_255 (x : Int32) : 0 ≤ fr_and x.toInt 255 ∧ fr_and x.toInt 255 ≤ 255 := by
  unfold fr_and
  rw [fr_oi]
  obtain ⟨j, h1, h2⟩ := pk_andE x (m := Int32.ofInt 255) 8 (by decide +kernel)
  rw [h2, nI_toInt (by omega)]
  omega
theorem i2b_255 {v : Int} (h : 0 ≤ v ∧ v ≤ 255) : fr_i2b v = if v < 128 then v else v - 256 := by
  unfold fr_i2b
  rw [Int8.toInt_toInt32, Int32.toInt_toInt8, fr_ti ⟨by omega, by omega⟩]
  unfold Int.bmod
  simp only [Int8.size] at *
  split <;> split <;> omega
set_option maxHeartbeats 4000000 in
set_option maxRecDepth 100000 in
theorem c_append {M : fr_M} {v : Int} {Q : Option fr_V → fr_H → fr_M → Prop} (hl : 0 ≤ M 42 1 ∧ M 42 1 < 200) (hv : 0 ≤ v ∧ v ≤ 255) (h : Q none sh0 (fr_up (fr_up M 43 (M 42 1) (if v < 128 then v else v - 256)) 42 1 (M 42 1 + 1))) : fr_Call 99 [.inr (.inl 42), .inl v] sh0 M Q := by
  have e := i2b_255 hv
  have e2 : -128 ≤ fr_i2b v ∧ fr_i2b v ≤ 127 := by rw [e]; split <;> omega
  rw [← e] at h
  refine fr_cgo k99 [some (.inr (.inl 42)), some (.inl v)] 0 0 [] 400 rfl rfl rfl rfl ?_
  repeat' (first | (refine And.intro (by first | omega | (simp (disch := decide) only [up_n, up_s, cp_n, if_true, if_false, ite_true, ite_false, reduceIte, not_true_eq_false, not_false_eq_true]; omega)) ?_) | (refine And.intro (fun hc => ?_) (fun hc => ?_) <;> (try (simp (disch := decide) only [up_n, up_s, cp_n, if_true, if_false, ite_true, ite_false, reduceIte, not_true_eq_false, not_false_eq_true] at hc)) <;> (try (exfalso; omega))) | (refine fun (hc : ¬ _) => ?_; try (simp (disch := decide) only [up_n, up_s, cp_n, if_true, if_false, ite_true, ite_false, reduceIte, not_true_eq_false, not_false_eq_true] at hc)) | (refine fun (hc : _ = _) => ?_; try (simp (disch := decide) only [up_n, up_s, cp_n, if_true, if_false, ite_true, ite_false, reduceIte, not_true_eq_false, not_false_eq_true] at hc)))
  all_goals first | (exfalso; omega) | exact h
end
section
def bt (b : Int64) (i : Int) : Int := fr_and ((fr_lshr b (8 * i)).toInt32.toInt) 255
theorem bt_in (b : Int64) (i : Int) : 0 ≤ bt b i ∧ bt b i ≤ 255 := and_255 _
def CI (b : Int64) (n s : Int) (M M' : fr_M) (m : Int) : Prop := M' 42 1 = s + m ∧ (∀ j, 0 ≤ j → j < m → M' 43 (s + j) = (if bt b (n - 1 - j) < 128 then bt b (n - 1 - j) else bt b (n - 1 - j) - 256)) ∧ (∀ j, 0 ≤ j → j < s → M' 43 j = M 43 j) ∧ (∀ k j, k ≠ 43 → ¬ (k = 42 ∧ j = 1) → M' k j = M k j)
theorem CI.step {b : Int64} {n s m i : Int} {M M' : fr_M} (h : CI b n s M M' m) (hm : 0 ≤ m) (hs : 0 ≤ s) (hi : i = n - 1 - m) : CI b n s M (fr_up (fr_up M' 43 (M' 42 1) (if bt b i < 128 then bt b i else bt b i - 256)) 42 1 (M' 42 1 + 1)) (m + 1) := by
  obtain ⟨h1, h2, h3, h4⟩ := h
  refine ⟨?_, fun j q0 q1 => ?_, fun j q0 q1 => ?_, fun k j q0 q1 => ?_⟩
  · rw [up_s, if_pos rfl]
    omega
  · rw [up_n (by decide), up_s]
    by_cases e : j = m
    · subst e
      rw [if_pos (by omega), hi]
    · rw [if_neg (by omega)]
      exact h2 j q0 (by omega)
  · rw [up_n (by decide), up_s, if_neg (by omega)]
    exact h3 j q0 q1
  · by_cases e : k = 42
    · subst e
      rw [up_s, if_neg (fun z => q1 ⟨rfl, z⟩), up_n q0]
      exact h4 _ j q0 q1
    · rw [up_n e, up_n q0]
      exact h4 k j q0 q1
set_option maxHeartbeats 4000000 in
set_option maxRecDepth 100000 in
theorem c_say_l {M : fr_M} {b : Int64} {n s : Int} {Q : Option fr_V → fr_H → fr_M → Prop} (hn : 1 ≤ n ∧ n ≤ 8) (hs : 0 ≤ s ∧ s + n ≤ 200) (h : ∀ M', CI b n s M M' n → Q (some (.inl (s + n))) sh0 M') : ∀ (t : Nat) (i : Int) (M' : fr_M), i + 1 = t → i < n → CI b n s M M' (n - 1 - i) → fr_Run 128 none 21 [some (.inr (.inl 0)), some (.inr (.inr (.inl b))), none, some (.inl n), some (.inl i)] [] sh0 M' 0 0 Q := by
  intro t
  induction t with
  | zero =>
    intro i M' h0 h1 h2
    have e : i = -1 := by omega
    subst e
    have h2 : CI b n s M M' n := by
      have e : n - 1 - (-1) = n := by omega
      rw [e] at h2
      exact h2
    have hq := h M' h2
    rw [← h2.1] at hq
    refine fr_go k128 [21] 400 rfl ?_
    repeat' (first | (refine And.intro (by first | omega | (simp (disch := decide) only [up_n, up_s, cp_n, if_true, if_false, ite_true, ite_false, reduceIte, not_true_eq_false, not_false_eq_true]; omega)) ?_) | (refine And.intro (fun hc => ?_) (fun hc => ?_) <;> (try (simp (disch := decide) only [up_n, up_s, cp_n, if_true, if_false, ite_true, ite_false, reduceIte, not_true_eq_false, not_false_eq_true] at hc)) <;> (try (exfalso; omega))) | (refine fun (hc : ¬ _) => ?_; try (simp (disch := decide) only [up_n, up_s, cp_n, if_true, if_false, ite_true, ite_false, reduceIte, not_true_eq_false, not_false_eq_true] at hc)) | (refine fun (hc : _ = _) => ?_; try (simp (disch := decide) only [up_n, up_s, cp_n, if_true, if_false, ite_true, ite_false, reduceIte, not_true_eq_false, not_false_eq_true] at hc)))
    all_goals first | (exfalso; omega) | exact hq
  | succ t ih =>
    intro i M' h0 h1 h2
    have hl := h2.1
    have hb : fr_and ((fr_lushr b (8 * i)).toInt32.toInt) 255 = bt b i := bit_u b i (by omega)
    have hv := bt_in b i
    have hst := h2.step (i := i) (by omega) hs.1 (by omega)
    refine fr_go k128 [21] 400 rfl ?_
    repeat' (first | (refine And.intro (by first | omega | (simp (disch := decide) only [up_n, up_s, cp_n, if_true, if_false, ite_true, ite_false, reduceIte, not_true_eq_false, not_false_eq_true]; omega)) ?_) | (refine And.intro (fun hc => ?_) (fun hc => ?_) <;> (try (simp (disch := decide) only [up_n, up_s, cp_n, if_true, if_false, ite_true, ite_false, reduceIte, not_true_eq_false, not_false_eq_true] at hc)) <;> (try (exfalso; omega))) | (refine fun (hc : ¬ _) => ?_; try (simp (disch := decide) only [up_n, up_s, cp_n, if_true, if_false, ite_true, ite_false, reduceIte, not_true_eq_false, not_false_eq_true] at hc)) | (refine fun (hc : _ = _) => ?_; try (simp (disch := decide) only [up_n, up_s, cp_n, if_true, if_false, ite_true, ite_false, reduceIte, not_true_eq_false, not_false_eq_true] at hc)))
    all_goals first | (exfalso; omega) | skip
    refine c_of (c_append (v := bt b i) (by omega) hv ?_) (show ([.inr (.inl 42), .inl (bt b i)] : List fr_V) = [.inr (.inl 42), .inl (fr_and ((fr_lushr b (8 * i)).toInt32.toInt) 255)] by rw [hb]) rfl rfl
    repeat' (first | (refine And.intro (by first | omega | (simp (disch := decide) only [up_n, up_s, cp_n, if_true, if_false, ite_true, ite_false, reduceIte, not_true_eq_false, not_false_eq_true]; omega)) ?_) | (refine And.intro (fun hc => ?_) (fun hc => ?_) <;> (try (simp (disch := decide) only [up_n, up_s, cp_n, if_true, if_false, ite_true, ite_false, reduceIte, not_true_eq_false, not_false_eq_true] at hc)) <;> (try (exfalso; omega))) | (refine fun (hc : ¬ _) => ?_; try (simp (disch := decide) only [up_n, up_s, cp_n, if_true, if_false, ite_true, ite_false, reduceIte, not_true_eq_false, not_false_eq_true] at hc)) | (refine fun (hc : _ = _) => ?_; try (simp (disch := decide) only [up_n, up_s, cp_n, if_true, if_false, ite_true, ite_false, reduceIte, not_true_eq_false, not_false_eq_true] at hc)))
    refine ih (i + -1) _ (by omega) (by omega) ?_
    have e : n - 1 - (i + -1) = n - 1 - i + 1 := by omega
    rw [e]
    exact hst
def DI (b : Int64) (n s : Int) (M M' : fr_M) (m : Int) : Prop := M' 75 17 = s + m ∧ (∀ j, 0 ≤ j → j < m → M' 87 (s + j) = bt b (n - 1 - j)) ∧ (∀ j, 0 ≤ j → j < s → M' 87 j = M 87 j) ∧ (∀ k j, k ≠ 87 → ¬ (k = 75 ∧ j = 17) → M' k j = M k j)
theorem DI.step {b : Int64} {n s m i : Int} {M M' : fr_M} (h : DI b n s M M' m) (hm : 0 ≤ m) (hs : 0 ≤ s) (hi : i = n - 1 - m) : DI b n s M (fr_up (fr_up M' 87 (M' 75 17) (bt b i)) 75 17 (fr_up M' 87 (M' 75 17) (bt b i) 75 17 + 1)) (m + 1) := by
  obtain ⟨h1, h2, h3, h4⟩ := h
  refine ⟨?_, fun j q0 q1 => ?_, fun j q0 q1 => ?_, fun k j q0 q1 => ?_⟩
  · rw [up_s, if_pos rfl, up_n (by decide)]
    omega
  · rw [up_n (by decide), up_s]
    by_cases e : j = m
    · subst e
      rw [if_pos (by omega), hi]
    · rw [if_neg (by omega)]
      exact h2 j q0 (by omega)
  · rw [up_n (by decide), up_s, if_neg (by omega)]
    exact h3 j q0 q1
  · by_cases e : k = 75
    · subst e
      rw [up_s, if_neg (fun z => q1 ⟨rfl, z⟩), up_n q0]
      exact h4 _ j q0 q1
    · rw [up_n e, up_n q0]
      exact h4 k j q0 q1
set_option maxHeartbeats 4000000 in
set_option maxRecDepth 100000 in
theorem m_say_l {M : fr_M} {b : Int64} {n s : Int} {Q : Option fr_V → fr_H → fr_M → Prop} (hn : 1 ≤ n ∧ n ≤ 8) (hs : 0 ≤ s ∧ s + n ≤ 200) (h : ∀ M', DI b n s M M' n → Q (some (.inl (s + n))) sh0 M') : ∀ (t : Nat) (i : Int) (M' : fr_M), i + 1 = t → i < n → DI b n s M M' (n - 1 - i) → fr_Run 190 none 19 [some (.inr (.inl 75)), some (.inr (.inr (.inl b))), none, some (.inl n), some (.inl i)] [] sh0 M' 0 0 Q := by
  intro t
  induction t with
  | zero =>
    intro i M' h0 h1 h2
    have e : i = -1 := by omega
    subst e
    have h2 : DI b n s M M' n := by
      have e : n - 1 - (-1) = n := by omega
      rw [e] at h2
      exact h2
    have hq := h M' h2
    rw [← h2.1] at hq
    refine fr_go k190 [19] 400 rfl ?_
    repeat' (first | (refine And.intro (by first | omega | (simp (disch := decide) only [up_n, up_s, cp_n, if_true, if_false, ite_true, ite_false, reduceIte, not_true_eq_false, not_false_eq_true]; omega)) ?_) | (refine And.intro (fun hc => ?_) (fun hc => ?_) <;> (try (simp (disch := decide) only [up_n, up_s, cp_n, if_true, if_false, ite_true, ite_false, reduceIte, not_true_eq_false, not_false_eq_true] at hc)) <;> (try (exfalso; omega))) | (refine fun (hc : ¬ _) => ?_; try (simp (disch := decide) only [up_n, up_s, cp_n, if_true, if_false, ite_true, ite_false, reduceIte, not_true_eq_false, not_false_eq_true] at hc)) | (refine fun (hc : _ = _) => ?_; try (simp (disch := decide) only [up_n, up_s, cp_n, if_true, if_false, ite_true, ite_false, reduceIte, not_true_eq_false, not_false_eq_true] at hc)))
    all_goals first | (exfalso; omega) | exact hq
  | succ t ih =>
    intro i M' h0 h1 h2
    have hl := h2.1
    have hst := h2.step (i := i) (by omega) hs.1 (by omega)
    refine fr_go k190 [19] 400 rfl ?_
    repeat' (first | (refine And.intro (by first | omega | (simp (disch := decide) only [up_n, up_s, cp_n, if_true, if_false, ite_true, ite_false, reduceIte, not_true_eq_false, not_false_eq_true]; omega)) ?_) | (refine And.intro (fun hc => ?_) (fun hc => ?_) <;> (try (simp (disch := decide) only [up_n, up_s, cp_n, if_true, if_false, ite_true, ite_false, reduceIte, not_true_eq_false, not_false_eq_true] at hc)) <;> (try (exfalso; omega))) | (refine fun (hc : ¬ _) => ?_; try (simp (disch := decide) only [up_n, up_s, cp_n, if_true, if_false, ite_true, ite_false, reduceIte, not_true_eq_false, not_false_eq_true] at hc)) | (refine fun (hc : _ = _) => ?_; try (simp (disch := decide) only [up_n, up_s, cp_n, if_true, if_false, ite_true, ite_false, reduceIte, not_true_eq_false, not_false_eq_true] at hc)))
    all_goals first | (exfalso; omega) | skip
    refine ih (i + -1) _ (by omega) (by omega) ?_
    have e : n - 1 - (i + -1) = n - 1 - i + 1 := by omega
    rw [e]
    exact hst
end
section
def tw (M : fr_M) (x : Int) (f : Int → Int) (y : Int) (g : Int → Int) : fr_M := fun k i => if k = 42 then (if i = 1 then x else M 42 i) else if k = 43 then f i else if k = 75 then (if i = 17 then y else M 75 i) else if k = 87 then g i else M k i
theorem kp_t {M : fr_M} {x y : Int} {f g : Int → Int} : ∀ k i, rl k i = true → tw M x f y g k i = M k i := by
  intro k i h
  unfold tw
  by_cases h1 : k = 42
  · subst h1; cases h
  · rw [if_neg h1]
    by_cases h2 : k = 43
    · subst h2; cases h
    · rw [if_neg h2]
      by_cases h3 : k = 75
      · subst h3
        rw [if_pos rfl]
        by_cases h5 : i = 17
        · subst h5; cases h
        · rw [if_neg h5]
      · rw [if_neg h3]
        by_cases h4 : k = 87
        · subst h4; cases h
        · rw [if_neg h4]
theorem tw_eq {b : Int64} {n s : Int} {M M1 M2 : fr_M} (c : CI b n s M M1 n) (d : DI b n s M1 M2 n) : M2 = tw M (s + n) (M2 43) (s + n) (M2 87) := by
  obtain ⟨c1, c2, c3, c4⟩ := c
  obtain ⟨d1, d2, d3, d4⟩ := d
  funext k i
  unfold tw
  by_cases h1 : k = 42
  · subst h1
    rw [if_pos rfl, d4 42 i (by decide) (by omega)]
    by_cases h5 : i = 1
    · subst h5
      rw [if_pos rfl]; exact c1
    · rw [if_neg h5]
      exact c4 42 i (by decide) (by omega)
  · rw [if_neg h1]
    by_cases h2 : k = 43
    · subst h2; rw [if_pos rfl]
    · rw [if_neg h2]
      by_cases h3 : k = 75
      · subst h3
        rw [if_pos rfl]
        by_cases h5 : i = 17
        · subst h5
          rw [if_pos rfl]; exact d1
        · rw [if_neg h5, d4 75 i (by decide) (by omega)]
          exact c4 75 i (by decide) (by omega)
      · rw [if_neg h3]
        by_cases h4 : k = 87
        · subst h4; rw [if_pos rfl]
        · rw [if_neg h4, d4 k i h4 (by omega)]
          exact c4 k i h2 (by omega)
set_option maxHeartbeats 4000000 in
set_option maxRecDepth 100000 in
theorem say_post {n : Int} {M M1 : fr_M} (hR : Rel n M) {a0 : Int64} {a1 : Int} (ha : 1 ≤ a1 ∧ a1 ≤ 8) (hs : M 42 1 + a1 ≤ 200) (hci : CI a0 a1 (M 42 1) M M1 a1) : fr_Call 190 [.inr (.inl 75), .inr (.inr (.inl a0)), .inl a1] sh0 M1 (fun r2 sh2 M2 => sh2 = sh0 ∧ r2 = some (.inl (M 42 1 + a1)) ∧ Rel (n + 1) M2) := by
  obtain ⟨h0, h1, h2, h3, h4, h5, h6, h7, h8, o1, o2, o3, k1, k2, k3, k4, k5, t1, t2, s1, r1, r1', r2, r2', r3, r4, l⟩ := id hR
  obtain ⟨u1, u2, u3⟩ := id t1
  have e75 : M1 75 17 = M 42 1 := by rw [hci.2.2.2 75 17 (by decide) (by omega)]; omega
  refine fr_cgo k190 [some (.inr (.inl 75)), some (.inr (.inr (.inl a0))), none, some (.inl a1), none] 0 0 [19] 400 rfl rfl rfl rfl ?_
  repeat' (first | (refine And.intro (by first | omega | (simp (disch := decide) only [up_n, up_s, cp_n, if_true, if_false, ite_true, ite_false, reduceIte, not_true_eq_false, not_false_eq_true]; omega)) ?_) | (refine m_in (fun hc => ?_) (fun hc => ?_) <;> (try (simp (disch := decide) only [up_n, up_s, cp_n, if_true, if_false, ite_true, ite_false, reduceIte, not_true_eq_false, not_false_eq_true] at hc))) | (refine And.intro (fun hc => ?_) (fun hc => ?_) <;> (try (simp (disch := decide) only [up_n, up_s, cp_n, if_true, if_false, ite_true, ite_false, reduceIte, not_true_eq_false, not_false_eq_true] at hc)) <;> (try (exfalso; omega))) | (refine fun (hc : ¬ _) => ?_; try (simp (disch := decide) only [up_n, up_s, cp_n, if_true, if_false, ite_true, ite_false, reduceIte, not_true_eq_false, not_false_eq_true] at hc)) | (refine fun (hc : _ = _) => ?_; try (simp (disch := decide) only [up_n, up_s, cp_n, if_true, if_false, ite_true, ite_false, reduceIte, not_true_eq_false, not_false_eq_true] at hc)))
  all_goals first | (exfalso; omega) | skip
  refine m_say_l (M := M1) (b := a0) (n := a1) (s := M 42 1) ha (by omega) (fun M2 hdi => ?_) a1.toNat (a1 - 1) M1 (by omega) (by omega) ?_
  · refine ⟨rfl, rfl, ?_⟩
    have f43 : ∀ i, M2 43 i = M1 43 i := fun i => hdi.2.2.2 43 i (by decide) (by omega)
    have f87 : ∀ i, M1 87 i = M 87 i := fun i => hci.2.2.2 87 i (by decide) (by omega)
    have ht2 : ∀ i, 0 ≤ i → i < M 42 1 + a1 → 0 ≤ M2 87 i ∧ M2 87 i ≤ 255 ∧ M2 43 i = (if M2 87 i < 128 then M2 87 i else M2 87 i - 256) := by
      intro i q0 q1
      by_cases q : i < M 42 1
      · rw [f43, hci.2.2.1 i q0 q, hdi.2.2.1 i q0 q, f87]
        exact t2 i q0 (by omega)
      · have w1 := hci.2.1 (i - M 42 1) (by omega) (by omega)
        have w2 := hdi.2.1 (i - M 42 1) (by omega) (by omega)
        have w3 : M 42 1 + (i - M 42 1) = i := by omega
        rw [w3] at w1 w2
        have w4 := bt_in a0 (a1 - 1 - (i - M 42 1))
        rw [f43, w1, w2]
        exact ⟨w4.1, w4.2, rfl⟩
    rw [tw_eq hci hdi]
    generalize M2 43 = f at ht2 ⊢
    generalize M2 87 = g at ht2 ⊢
    exact ⟨by omega, h1, h2, h3, h4, h5, h6, h7, h8, o1, o2, o3, k1, k2, k3, k4, k5, ⟨rfl, (show 0 ≤ M 42 1 + a1 by omega), hs⟩, ht2, s1, r1, r1', r2, r2', r3, r4, l.keep kp_t⟩
  · exact ⟨by rw [e75]; omega, fun j q0 q1 => absurd q1 (by omega), fun _ _ _ => rfl, fun _ _ _ _ => rfl⟩
set_option maxHeartbeats 4000000 in
set_option maxRecDepth 100000 in
theorem op_say {n : Int} {M : fr_M} (hR : Rel n M) (hn : n ≤ 512) (a0 : Int64) (a1 : Int)  (g1 : fr_in a1) : Two 128 190 [.inr (.inr (.inl a0)), .inl a1] M (Rel (n + 1)) := by
  have t1 : T1 M := by
    obtain ⟨h0, h1, h2, h3, h4, h5, h6, h7, h8, o1, o2, o3, k1, k2, k3, k4, k5, t1, t2, s1, r1, r1', r2, r2', r3, r4, l⟩ := id hR
    exact t1
  obtain ⟨u1, u2, u3⟩ := id t1
  have hN := hR.next
  refine Two.of ?_
  refine fr_cgo k128 [some (.inr (.inl 0)), some (.inr (.inr (.inl a0))), none, some (.inl a1), none] 0 0 [21] 400 rfl rfl rfl rfl ?_
  repeat' (first | (refine And.intro (by first | omega | (simp (disch := decide) only [up_n, up_s, cp_n, if_true, if_false, ite_true, ite_false, reduceIte, not_true_eq_false, not_false_eq_true]; omega)) ?_) | (refine And.intro (fun hc => ?_) (fun hc => ?_) <;> (try (simp (disch := decide) only [up_n, up_s, cp_n, if_true, if_false, ite_true, ite_false, reduceIte, not_true_eq_false, not_false_eq_true] at hc)) <;> (try (exfalso; omega))) | (refine fun (hc : ¬ _) => ?_; try (simp (disch := decide) only [up_n, up_s, cp_n, if_true, if_false, ite_true, ite_false, reduceIte, not_true_eq_false, not_false_eq_true] at hc)) | (refine fun (hc : _ = _) => ?_; try (simp (disch := decide) only [up_n, up_s, cp_n, if_true, if_false, ite_true, ite_false, reduceIte, not_true_eq_false, not_false_eq_true] at hc)))
  any_goals (refine c_say_l (M := M) (b := a0) (n := a1) (s := M 42 1) (by omega) (by omega) (fun M1 hci => ⟨rfl, _, rfl, say_post hR (by omega) (by omega) hci⟩) a1.toNat (a1 - 1) M (by omega) (by omega) ?_)
  all_goals first | (exfalso; omega) | exact ⟨by omega, fun j q0 q1 => absurd q1 (by omega), fun _ _ _ => rfl, fun _ _ _ _ => rfl⟩ | refine ⟨rfl, _, rfl, ?_⟩
  all_goals (refine fr_cgo k190 [some (.inr (.inl 75)), some (.inr (.inr (.inl a0))), none, some (.inl a1), none] 0 0 [19] 400 rfl rfl rfl rfl ?_)
  all_goals (repeat' (first | (refine And.intro (by first | omega | (simp (disch := decide) only [up_n, up_s, cp_n, if_true, if_false, ite_true, ite_false, reduceIte, not_true_eq_false, not_false_eq_true]; omega)) ?_) | (refine m_in (fun hc => ?_) (fun hc => ?_) <;> (try (simp (disch := decide) only [up_n, up_s, cp_n, if_true, if_false, ite_true, ite_false, reduceIte, not_true_eq_false, not_false_eq_true] at hc))) | (refine And.intro (fun hc => ?_) (fun hc => ?_) <;> (try (simp (disch := decide) only [up_n, up_s, cp_n, if_true, if_false, ite_true, ite_false, reduceIte, not_true_eq_false, not_false_eq_true] at hc)) <;> (try (exfalso; omega))) | (refine fun (hc : ¬ _) => ?_; try (simp (disch := decide) only [up_n, up_s, cp_n, if_true, if_false, ite_true, ite_false, reduceIte, not_true_eq_false, not_false_eq_true] at hc)) | (refine fun (hc : _ = _) => ?_; try (simp (disch := decide) only [up_n, up_s, cp_n, if_true, if_false, ite_true, ite_false, reduceIte, not_true_eq_false, not_false_eq_true] at hc))))
  all_goals first | (exfalso; omega) | exact ⟨rfl, rfl, hN⟩
end
section
/-- a whole row is another one -/
def rw_ (M : fr_M) (k : Nat) (g : Int → Int) : fr_M := fun k' j => if k' = k then g j else M k' j
theorem rw_id {M : fr_M} {k : Nat} : rw_ M k (M k) = M := by
  funext k' j
  unfold rw_
  split
  · next e => subst e; rfl
  · rfl
theorem rw_up {M : fr_M} {k : Nat} {g : Int → Int} {i v : Int} : fr_up (rw_ M k g) k i v = rw_ M k (fun j => if j = i then v else g j) := by
  funext k' j
  unfold fr_up rw_
  split
  · rfl
  · rfl
set_option maxHeartbeats 4000000 in
set_option maxRecDepth 100000 in
theorem c_heldPlace_l {M : fr_M} {p h : Int} {Q : Option fr_V → fr_H → fr_M → Prop} (hh : 0 ≤ h ∧ h ≤ 8) (h1 : ∀ i, 0 ≤ i → i < h → M 58 i = p → (∀ j, 0 ≤ j → j < i → M 58 j ≠ p) → Q (some (.inl i)) sh0 M) (h0 : (∀ j, 0 ≤ j → j < h → M 58 j ≠ p) → Q (some (.inl (-1))) sh0 M) : ∀ (t : Nat) (i : Int), 0 ≤ i → i + t = h → (∀ j, 0 ≤ j → j < i → M 58 j ≠ p) → fr_Run 102 none 2 [some (.inr (.inl 52)), some (.inl p), some (.inl h), some (.inl i)] [] sh0 M 0 0 Q := by
  intro t
  induction t with
  | zero =>
    intro i q0 q1 q2
    have e : i = h := by omega
    subst e
    refine fr_go k102 [2] 400 rfl ?_
    repeat' (first | (refine And.intro (by first | omega | (simp (disch := decide) only [up_n, up_s, cp_n, if_true, if_false, ite_true, ite_false, reduceIte, not_true_eq_false, not_false_eq_true]; omega)) ?_) | (refine And.intro (fun hc => ?_) (fun hc => ?_) <;> (try (simp (disch := decide) only [up_n, up_s, cp_n, if_true, if_false, ite_true, ite_false, reduceIte, not_true_eq_false, not_false_eq_true] at hc)) <;> (try (exfalso; omega))) | (refine fun (hc : ¬ _) => ?_; try (simp (disch := decide) only [up_n, up_s, cp_n, if_true, if_false, ite_true, ite_false, reduceIte, not_true_eq_false, not_false_eq_true] at hc)) | (refine fun (hc : _ = _) => ?_; try (simp (disch := decide) only [up_n, up_s, cp_n, if_true, if_false, ite_true, ite_false, reduceIte, not_true_eq_false, not_false_eq_true] at hc)))
    all_goals first | (exfalso; omega) | exact h0 q2
  | succ t ih =>
    intro i q0 q1 q2
    refine fr_go k102 [2] 400 rfl ?_
    repeat' (first | (refine And.intro (by first | omega | (simp (disch := decide) only [up_n, up_s, cp_n, if_true, if_false, ite_true, ite_false, reduceIte, not_true_eq_false, not_false_eq_true]; omega)) ?_) | (refine And.intro (fun hc => ?_) (fun hc => ?_) <;> (try (simp (disch := decide) only [up_n, up_s, cp_n, if_true, if_false, ite_true, ite_false, reduceIte, not_true_eq_false, not_false_eq_true] at hc)) <;> (try (exfalso; omega))) | (refine fun (hc : ¬ _) => ?_; try (simp (disch := decide) only [up_n, up_s, cp_n, if_true, if_false, ite_true, ite_false, reduceIte, not_true_eq_false, not_false_eq_true] at hc)) | (refine fun (hc : _ = _) => ?_; try (simp (disch := decide) only [up_n, up_s, cp_n, if_true, if_false, ite_true, ite_false, reduceIte, not_true_eq_false, not_false_eq_true] at hc)))
    all_goals first | (exfalso; omega) | skip
    · refine ih (i + 1) (by omega) (by omega) (fun j r0 r1 => ?_)
      by_cases e : j = i
      · subst e; exact hc
      · exact q2 j r0 (by omega)
    · exact h1 i q0 (by omega) hc q2
set_option maxHeartbeats 4000000 in
set_option maxRecDepth 100000 in
theorem c_heldPlace {M : fr_M} {p h : Int} {Q : Option fr_V → fr_H → fr_M → Prop} (hh : 0 ≤ h ∧ h ≤ 8) (h1 : ∀ i, 0 ≤ i → i < h → M 58 i = p → (∀ j, 0 ≤ j → j < i → M 58 j ≠ p) → Q (some (.inl i)) sh0 M) (h0 : (∀ j, 0 ≤ j → j < h → M 58 j ≠ p) → Q (some (.inl (-1))) sh0 M) : fr_Call 102 [.inr (.inl 52), .inl p, .inl h] sh0 M Q := by
  refine fr_cgo k102 [some (.inr (.inl 52)), some (.inl p), some (.inl h), none] 0 0 [2] 400 rfl rfl rfl rfl ?_
  repeat' (first | (refine And.intro (by first | omega | (simp (disch := decide) only [up_n, up_s, cp_n, if_true, if_false, ite_true, ite_false, reduceIte, not_true_eq_false, not_false_eq_true]; omega)) ?_) | (refine And.intro (fun hc => ?_) (fun hc => ?_) <;> (try (simp (disch := decide) only [up_n, up_s, cp_n, if_true, if_false, ite_true, ite_false, reduceIte, not_true_eq_false, not_false_eq_true] at hc)) <;> (try (exfalso; omega))) | (refine fun (hc : ¬ _) => ?_; try (simp (disch := decide) only [up_n, up_s, cp_n, if_true, if_false, ite_true, ite_false, reduceIte, not_true_eq_false, not_false_eq_true] at hc)) | (refine fun (hc : _ = _) => ?_; try (simp (disch := decide) only [up_n, up_s, cp_n, if_true, if_false, ite_true, ite_false, reduceIte, not_true_eq_false, not_false_eq_true] at hc)))
  exact c_heldPlace_l hh h1 h0 h.toNat 0 (by omega) (by omega) (fun j r0 r1 => absurd r1 (by omega))
def sf (f : Int → Int) (p i : Int) : Int → Int := fun j => if i < j ∧ j ≤ p then f (j - 1) else f j
/-- the row behind holdFirst -/
def hf (f : Int → Int) (p v : Int) : Int → Int := fun j => if 0 < j ∧ j ≤ p then f (j - 1) else if j = 0 ∧ 0 ≤ p then v else f j
theorem sf_step {M : fr_M} {f : Int → Int} {p i : Int} (h : 0 < i ∧ i ≤ p) : fr_up (rw_ M 58 (sf f p i)) 58 i (rw_ M 58 (sf f p i) 58 (i - 1)) = rw_ M 58 (sf f p (i - 1)) := by
  rw [rw_up]
  congr 1
  funext j
  have e : rw_ M 58 (sf f p i) 58 (i - 1) = f (i - 1) := by
    show sf f p i (i - 1) = _
    unfold sf
    rw [if_neg (by omega)]
  rw [e]
  unfold sf
  by_cases hj : j = i
  · rw [if_pos hj, if_pos (by omega), hj]
  · rw [if_neg hj]
    by_cases h2 : i < j ∧ j ≤ p
    · rw [if_pos h2, if_pos (by omega)]
    · rw [if_neg h2, if_neg (by omega)]
theorem sf_end {M : fr_M} {f : Int → Int} {p v : Int} (h : 0 ≤ p) : fr_up (rw_ M 58 (sf f p 0)) 58 0 v = rw_ M 58 (hf f p v) := by
  rw [rw_up]
  congr 1
  funext j
  unfold sf hf
  by_cases hj : j = 0
  · rw [if_pos hj, if_neg (by omega), if_pos (by omega)]
  · rw [if_neg hj]
    by_cases h2 : 0 < j ∧ j ≤ p
    · rw [if_pos h2, if_pos h2]
    · rw [if_neg h2, if_neg h2, if_neg (by omega)]
set_option maxHeartbeats 4000000 in
set_option maxRecDepth 100000 in
theorem c_holdFirst_l {M : fr_M} {p v : Int} {Q : Option fr_V → fr_H → fr_M → Prop} (hp : 0 ≤ p ∧ p < 8) (h : Q none sh0 (rw_ M 58 (hf (M 58) p v))) : ∀ (t : Nat) (i : Int), i = t → i ≤ p → fr_Run 103 none 2 [some (.inr (.inl 52)), some (.inl v), some (.inl p), some (.inl i)] [] sh0 (rw_ M 58 (sf (M 58) p i)) 0 0 Q := by
  intro t
  induction t with
  | zero =>
    intro i q0 q1
    have e : i = 0 := by omega
    subst e
    rw [← sf_end hp.1] at h
    refine fr_go k103 [2] 400 rfl ?_
    repeat' (first | (refine And.intro (by first | omega | (simp (disch := decide) only [up_n, up_s, cp_n, if_true, if_false, ite_true, ite_false, reduceIte, not_true_eq_false, not_false_eq_true]; omega)) ?_) | (refine And.intro (fun hc => ?_) (fun hc => ?_) <;> (try (simp (disch := decide) only [up_n, up_s, cp_n, if_true, if_false, ite_true, ite_false, reduceIte, not_true_eq_false, not_false_eq_true] at hc)) <;> (try (exfalso; omega))) | (refine fun (hc : ¬ _) => ?_; try (simp (disch := decide) only [up_n, up_s, cp_n, if_true, if_false, ite_true, ite_false, reduceIte, not_true_eq_false, not_false_eq_true] at hc)) | (refine fun (hc : _ = _) => ?_; try (simp (disch := decide) only [up_n, up_s, cp_n, if_true, if_false, ite_true, ite_false, reduceIte, not_true_eq_false, not_false_eq_true] at hc)))
    all_goals first | (exfalso; omega) | exact h
  | succ t ih =>
    intro i q0 q1
    have hs := sf_step (M := M) (f := M 58) (p := p) (i := i) (by omega)
    refine fr_go k103 [2] 400 rfl ?_
    repeat' (first | (refine And.intro (by first | omega | (simp (disch := decide) only [up_n, up_s, cp_n, if_true, if_false, ite_true, ite_false, reduceIte, not_true_eq_false, not_false_eq_true]; omega)) ?_) | (refine And.intro (fun hc => ?_) (fun hc => ?_) <;> (try (simp (disch := decide) only [up_n, up_s, cp_n, if_true, if_false, ite_true, ite_false, reduceIte, not_true_eq_false, not_false_eq_true] at hc)) <;> (try (exfalso; omega))) | (refine fun (hc : ¬ _) => ?_; try (simp (disch := decide) only [up_n, up_s, cp_n, if_true, if_false, ite_true, ite_false, reduceIte, not_true_eq_false, not_false_eq_true] at hc)) | (refine fun (hc : _ = _) => ?_; try (simp (disch := decide) only [up_n, up_s, cp_n, if_true, if_false, ite_true, ite_false, reduceIte, not_true_eq_false, not_false_eq_true] at hc)))
    all_goals first | (exfalso; omega) | skip
    rw [hs]
    have e : i + -1 = i - 1 := by omega
    rw [e]
    exact ih (i - 1) (by omega) (by omega)
set_option maxHeartbeats 4000000 in
set_option maxRecDepth 100000 in
theorem c_holdFirst {M : fr_M} {p v : Int} {Q : Option fr_V → fr_H → fr_M → Prop} (hp : -1 ≤ p ∧ p < 8) (h : Q none sh0 (rw_ M 58 (hf (M 58) p v))) : fr_Call 103 [.inr (.inl 52), .inl v, .inl p] sh0 M Q := by
  by_cases h0 : 0 ≤ p
  · refine fr_cgo k103 [some (.inr (.inl 52)), some (.inl v), some (.inl p), none] 0 0 [2] 400 rfl rfl rfl rfl ?_
    repeat' (first | (refine And.intro (by first | omega | (simp (disch := decide) only [up_n, up_s, cp_n, if_true, if_false, ite_true, ite_false, reduceIte, not_true_eq_false, not_false_eq_true]; omega)) ?_) | (refine And.intro (fun hc => ?_) (fun hc => ?_) <;> (try (simp (disch := decide) only [up_n, up_s, cp_n, if_true, if_false, ite_true, ite_false, reduceIte, not_true_eq_false, not_false_eq_true] at hc)) <;> (try (exfalso; omega))) | (refine fun (hc : ¬ _) => ?_; try (simp (disch := decide) only [up_n, up_s, cp_n, if_true, if_false, ite_true, ite_false, reduceIte, not_true_eq_false, not_false_eq_true] at hc)) | (refine fun (hc : _ = _) => ?_; try (simp (disch := decide) only [up_n, up_s, cp_n, if_true, if_false, ite_true, ite_false, reduceIte, not_true_eq_false, not_false_eq_true] at hc)))
    have e : rw_ M 58 (sf (M 58) p p) = M := by
      have e1 : sf (M 58) p p = M 58 := by
        funext j
        unfold sf
        rw [if_neg (by omega)]
      rw [e1]
      exact rw_id
    have hh := c_holdFirst_l (M := M) (v := v) (by omega) h p.toNat p (by omega) (by omega)
    rw [e] at hh
    exact hh
  · have e : rw_ M 58 (hf (M 58) p v) = M := by
      have e1 : hf (M 58) p v = M 58 := by
        funext j
        unfold hf
        rw [if_neg (by omega), if_neg (by omega)]
      rw [e1]
      exact rw_id
    rw [e] at h
    refine fr_cgo k103 [some (.inr (.inl 52)), some (.inl v), some (.inl p), none] 0 0 [] 400 rfl rfl rfl rfl ?_
    repeat' (first | (refine And.intro (by first | omega | (simp (disch := decide) only [up_n, up_s, cp_n, if_true, if_false, ite_true, ite_false, reduceIte, not_true_eq_false, not_false_eq_true]; omega)) ?_) | (refine And.intro (fun hc => ?_) (fun hc => ?_) <;> (try (simp (disch := decide) only [up_n, up_s, cp_n, if_true, if_false, ite_true, ite_false, reduceIte, not_true_eq_false, not_false_eq_true] at hc)) <;> (try (exfalso; omega))) | (refine fun (hc : ¬ _) => ?_; try (simp (disch := decide) only [up_n, up_s, cp_n, if_true, if_false, ite_true, ite_false, reduceIte, not_true_eq_false, not_false_eq_true] at hc)) | (refine fun (hc : _ = _) => ?_; try (simp (disch := decide) only [up_n, up_s, cp_n, if_true, if_false, ite_true, ite_false, reduceIte, not_true_eq_false, not_false_eq_true] at hc)))
    all_goals first | (exfalso; omega) | exact h
end
section
/-! the pages that are kept, as a list, the latest first -/
def hd_ (f : Int → Int) (L : List Int) : Prop := ∀ (j : Nat) (x : Int), L[j]? = some x → f (j : Int) = x
def lstep (k : Nat) (L : List Int) (p : Int) : List Int := if p ∈ L then p :: L.erase p else (p :: L).take k
theorem hd_hit {f : Int → Int} {L : List Int} {p : Int} {i : Nat} (h : hd_ f L) (hi : i < L.length) : hd_ (hf f (i : Int) p) (p :: L.eraseIdx i) := by
  intro j x hx
  unfold hf
  cases j with
  | zero =>
    have e : p = x := by simpa using hx
    rw [if_neg (by omega), if_pos (by omega)]
    exact e
  | succ m =>
    rw [List.getElem?_cons_succ, List.getElem?_eraseIdx] at hx
    by_cases hm : m < i
    · rw [if_pos hm] at hx
      rw [if_pos (by omega), show ((m + 1 : Nat) : Int) - 1 = (m : Int) by omega]
      exact h m x hx
    · rw [if_neg hm] at hx
      rw [if_neg (by omega), if_neg (by omega)]
      exact h (m + 1) x hx
theorem hd_miss {f : Int → Int} {L : List Int} {p : Int} {k : Nat} (h : hd_ f L) : hd_ (hf f (min ((L.length : Int) + 1) (k : Int) - 1) p) ((p :: L).take k) := by
  intro j x hx
  have hj : j < k ∧ (p :: L)[j]? = some x := by
    rw [List.getElem?_take] at hx
    split at hx
    · next q => exact ⟨q, hx⟩
    · cases hx
  have hl : j < (p :: L).length := (List.getElem?_eq_some_iff.mp hj.2).1
  rw [List.length_cons] at hl
  unfold hf
  cases j with
  | zero =>
    have e : p = x := by simpa using hj.2
    rw [if_neg (by omega), if_pos (by omega)]
    exact e
  | succ m =>
    have hx2 : L[m]? = some x := by
      have := hj.2
      rw [List.getElem?_cons_succ] at this
      exact this
    rw [if_pos (by omega), show ((m + 1 : Nat) : Int) - 1 = (m : Int) by omega]
    exact h m x hx2
theorem erase_at {L : List Int} {p : Int} {i : Nat} (h1 : L[i]? = some p) (h2 : ∀ j, j < i → L[j]? ≠ some p) : L.erase p = L.eraseIdx i := by
  induction L generalizing i with
  | nil => simp at h1
  | cons a l ih =>
    cases i with
    | zero =>
      have e : a = p := by simpa using h1
      subst e
      simp
    | succ m =>
      have hn : ¬ a = p := fun e => h2 0 (by omega) (by simp [e])
      rw [List.erase_cons_tail (by simpa using hn)]
      show a :: l.erase p = a :: l.eraseIdx m
      rw [ih (i := m) (by simpa using h1) (fun j hj => by
        have := h2 (j + 1) (by omega)
        simpa using this)]
end
section
def lrun (k : Nat) (pg : Int → Int) : Nat → List Int × Int
  | 0 => ([], 0)
  | m + 1 => (lstep k (lrun k pg m).1 (pg (m : Int)), if pg (m : Int) ∈ (lrun k pg m).1 then (lrun k pg m).2 else (lrun k pg m).2 + 1)
theorem lstep_len {k : Nat} {L : List Int} {p : Int} (h : L.length ≤ k) : (lstep k L p).length ≤ k := by
  unfold lstep
  split
  · next hp =>
    have := List.length_erase_of_mem hp
    have h2 : 0 < L.length := List.length_pos_of_mem hp
    rw [List.length_cons]
    omega
  · rw [List.length_take]
    omega
theorem lrun_len {k : Nat} {pg : Int → Int} : ∀ m, (lrun k pg m).1.length ≤ k
  | 0 => Nat.zero_le _
  | m + 1 => lstep_len (lrun_len m)
theorem lrun_cnt {k : Nat} {pg : Int → Int} : ∀ m : Nat, 0 ≤ (lrun k pg m).2 ∧ (lrun k pg m).2 ≤ (m : Int)
  | 0 => ⟨Int.le_refl 0, Int.le_refl 0⟩
  | m + 1 => by
    have h := lrun_cnt (k := k) (pg := pg) m
    simp only [lrun]
    split <;> omega
/-- of the row that holds a list: where a page stands -/
theorem hd_find {f : Int → Int} {L : List Int} {p : Int} {i : Int} (h : hd_ f L) (h0 : 0 ≤ i) (h1 : i < L.length) (h2 : f i = p) (h3 : ∀ j, 0 ≤ j → j < i → f j ≠ p) : ∃ n : Nat, i = (n : Int) ∧ n < L.length ∧ p ∈ L ∧ L.erase p = L.eraseIdx n := by
  obtain ⟨n, rfl⟩ : ∃ n : Nat, i = (n : Int) := ⟨i.toNat, by omega⟩
  have hn : n < L.length := by omega
  have e : L[n]? = some L[n] := List.getElem?_eq_getElem hn
  have e2 : L[n] = p := by rw [← h2]; exact (h n _ e).symm
  refine ⟨n, rfl, hn, by rw [← e2]; exact List.getElem_mem hn, erase_at (by rw [e, e2]) (fun j hj hq => ?_)⟩
  exact h3 (j : Int) (by omega) (by omega) (h j p hq)
theorem hd_none {f : Int → Int} {L : List Int} {p : Int} (h : hd_ f L) (h3 : ∀ j, 0 ≤ j → j < (L.length : Int) → f j ≠ p) : p ∉ L := by
  intro hp
  obtain ⟨n, hn⟩ := List.getElem?_of_mem hp
  exact h3 (n : Int) (by omega) (by have := (List.getElem?_eq_some_iff.mp hn).1; omega) (h n p hn)
theorem rw_rw {M : fr_M} {k : Nat} {g g' : Int → Int} : rw_ (rw_ M k g) k g' = rw_ M k g' := by
  funext k' j
  unfold rw_
  split <;> rfl
theorem rw_at {M : fr_M} {k : Nat} {g : Int → Int} : rw_ M k g k = g := by
  funext j
  unfold rw_
  rw [if_pos rfl]
set_option maxHeartbeats 4000000 in
set_option maxRecDepth 100000 in
theorem c_missed_l {M : fr_M} {k : Nat} {Q : Option fr_V → fr_H → fr_M → Prop} (hk : k ≤ 8) (hn : 0 ≤ M 52 2 ∧ M 52 2 ≤ 200) (h : ∀ g, Q (some (.inl (lrun k (M 54) (M 52 2).toNat).2)) sh0 (rw_ M 58 g)) : ∀ (t m : Nat) (g : Int → Int) (x5 : Option fr_V), (m : Int) + t = M 52 2 → hd_ g (lrun k (M 54) m).1 → fr_Run 104 none 6 [some (.inr (.inl 52)), some (.inl (k : Int)), some (.inl ((lrun k (M 54) m).1.length : Int)), some (.inl (lrun k (M 54) m).2), some (.inl (m : Int)), x5] [] sh0 (rw_ M 58 g) 0 0 Q := by
  intro t
  induction t with
  | zero =>
    intro m g x5 h0 h1
    have e : (M 52 2).toNat = m := by omega
    rw [e] at h
    have e2 : rw_ M 58 g 52 2 = M 52 2 := rfl
    refine fr_go k104 [6] 400 rfl ?_
    repeat' (first | (refine And.intro (by first | omega | (simp (disch := decide) only [up_n, up_s, cp_n, if_true, if_false, ite_true, ite_false, reduceIte, not_true_eq_false, not_false_eq_true]; omega)) ?_) | (refine And.intro (fun hc => ?_) (fun hc => ?_) <;> (try (simp (disch := decide) only [up_n, up_s, cp_n, if_true, if_false, ite_true, ite_false, reduceIte, not_true_eq_false, not_false_eq_true] at hc)) <;> (try (exfalso; omega))) | (refine fun (hc : ¬ _) => ?_; try (simp (disch := decide) only [up_n, up_s, cp_n, if_true, if_false, ite_true, ite_false, reduceIte, not_true_eq_false, not_false_eq_true] at hc)) | (refine fun (hc : _ = _) => ?_; try (simp (disch := decide) only [up_n, up_s, cp_n, if_true, if_false, ite_true, ite_false, reduceIte, not_true_eq_false, not_false_eq_true] at hc)))
    all_goals first | exact h g | (exfalso; omega)
  | succ t ih =>
    intro m g x5 h0 h1
    have hc1 := lrun_cnt (k := k) (pg := M 54) m
    have hl1 := lrun_len (k := k) (pg := M 54) m
    have e2 : rw_ M 58 g 52 2 = M 52 2 := rfl
    refine fr_go k104 [6] 400 rfl ?_
    repeat' (first | (refine And.intro (by first | omega | (simp (disch := decide) only [up_n, up_s, cp_n, if_true, if_false, ite_true, ite_false, reduceIte, not_true_eq_false, not_false_eq_true]; omega)) ?_) | (refine And.intro (fun hc => ?_) (fun hc => ?_) <;> (try (simp (disch := decide) only [up_n, up_s, cp_n, if_true, if_false, ite_true, ite_false, reduceIte, not_true_eq_false, not_false_eq_true] at hc)) <;> (try (exfalso; omega))) | (refine fun (hc : ¬ _) => ?_; try (simp (disch := decide) only [up_n, up_s, cp_n, if_true, if_false, ite_true, ite_false, reduceIte, not_true_eq_false, not_false_eq_true] at hc)) | (refine fun (hc : _ = _) => ?_; try (simp (disch := decide) only [up_n, up_s, cp_n, if_true, if_false, ite_true, ite_false, reduceIte, not_true_eq_false, not_false_eq_true] at hc)))
    all_goals first | (exfalso; omega) | skip
    refine c_heldPlace (p := M 54 (m : Int)) (by omega) (fun i q0 q1 q2 q3 => ?_) (fun q => ?_)
    · have q2 : g i = M 54 (m : Int) := q2
      have q3 : ∀ j, 0 ≤ j → j < i → g j ≠ M 54 (m : Int) := q3
      obtain ⟨a, ea, ha, hmem, her⟩ := hd_find h1 q0 q1 q2 q3
      repeat' (first | (refine And.intro (by first | omega | (simp (disch := decide) only [up_n, up_s, cp_n, if_true, if_false, ite_true, ite_false, reduceIte, not_true_eq_false, not_false_eq_true]; omega)) ?_) | (refine And.intro (fun hc => ?_) (fun hc => ?_) <;> (try (simp (disch := decide) only [up_n, up_s, cp_n, if_true, if_false, ite_true, ite_false, reduceIte, not_true_eq_false, not_false_eq_true] at hc)) <;> (try (exfalso; omega))) | (refine fun (hc : ¬ _) => ?_; try (simp (disch := decide) only [up_n, up_s, cp_n, if_true, if_false, ite_true, ite_false, reduceIte, not_true_eq_false, not_false_eq_true] at hc)) | (refine fun (hc : _ = _) => ?_; try (simp (disch := decide) only [up_n, up_s, cp_n, if_true, if_false, ite_true, ite_false, reduceIte, not_true_eq_false, not_false_eq_true] at hc)))
      all_goals first | (exfalso; omega) | skip
      refine c_holdFirst (by omega) ?_
      rw [rw_rw, rw_at]
      repeat' (first | (refine And.intro (by first | omega | (simp (disch := decide) only [up_n, up_s, cp_n, if_true, if_false, ite_true, ite_false, reduceIte, not_true_eq_false, not_false_eq_true]; omega)) ?_) | (refine And.intro (fun hc => ?_) (fun hc => ?_) <;> (try (simp (disch := decide) only [up_n, up_s, cp_n, if_true, if_false, ite_true, ite_false, reduceIte, not_true_eq_false, not_false_eq_true] at hc)) <;> (try (exfalso; omega))) | (refine fun (hc : ¬ _) => ?_; try (simp (disch := decide) only [up_n, up_s, cp_n, if_true, if_false, ite_true, ite_false, reduceIte, not_true_eq_false, not_false_eq_true] at hc)) | (refine fun (hc : _ = _) => ?_; try (simp (disch := decide) only [up_n, up_s, cp_n, if_true, if_false, ite_true, ite_false, reduceIte, not_true_eq_false, not_false_eq_true] at hc)))
      all_goals first | (exfalso; omega) | skip
      have el : (lrun k (M 54) (m + 1)).1 = M 54 (m : Int) :: (lrun k (M 54) m).1.eraseIdx a := by
        show lstep k _ _ = _
        unfold lstep
        rw [if_pos hmem, her]
      have ec : (lrun k (M 54) (m + 1)).2 = (lrun k (M 54) m).2 := by
        show (if _ ∈ _ then _ else _) = _
        rw [if_pos hmem]
      have hh := ih (m + 1) (hf g i (M 54 (m : Int))) (some (.inl i)) (by omega) (by rw [el, ea]; exact hd_hit h1 ha)
      have en : (((lrun k (M 54) (m + 1)).1.length : Nat) : Int) = ((lrun k (M 54) m).1.length : Int) := by
        rw [el, List.length_cons, List.length_eraseIdx, if_pos ha]
        omega
      rw [en, ec] at hh
      exact hh
    · have q : ∀ j, 0 ≤ j → j < ((lrun k (M 54) m).1.length : Int) → g j ≠ M 54 (m : Int) := q
      have hmem := hd_none h1 q
      repeat' (first | (refine And.intro (by first | omega | (simp (disch := decide) only [up_n, up_s, cp_n, if_true, if_false, ite_true, ite_false, reduceIte, not_true_eq_false, not_false_eq_true]; omega)) ?_) | (refine And.intro (fun hc => ?_) (fun hc => ?_) <;> (try (simp (disch := decide) only [up_n, up_s, cp_n, if_true, if_false, ite_true, ite_false, reduceIte, not_true_eq_false, not_false_eq_true] at hc)) <;> (try (exfalso; omega))) | (refine fun (hc : ¬ _) => ?_; try (simp (disch := decide) only [up_n, up_s, cp_n, if_true, if_false, ite_true, ite_false, reduceIte, not_true_eq_false, not_false_eq_true] at hc)) | (refine fun (hc : _ = _) => ?_; try (simp (disch := decide) only [up_n, up_s, cp_n, if_true, if_false, ite_true, ite_false, reduceIte, not_true_eq_false, not_false_eq_true] at hc)))
      all_goals first | (exfalso; omega) | skip
      refine c_holdFirst (by omega) ?_
      rw [rw_rw, rw_at]
      repeat' (first | (refine And.intro (by first | omega | (simp (disch := decide) only [up_n, up_s, cp_n, if_true, if_false, ite_true, ite_false, reduceIte, not_true_eq_false, not_false_eq_true]; omega)) ?_) | (refine And.intro (fun hc => ?_) (fun hc => ?_) <;> (try (simp (disch := decide) only [up_n, up_s, cp_n, if_true, if_false, ite_true, ite_false, reduceIte, not_true_eq_false, not_false_eq_true] at hc)) <;> (try (exfalso; omega))) | (refine fun (hc : ¬ _) => ?_; try (simp (disch := decide) only [up_n, up_s, cp_n, if_true, if_false, ite_true, ite_false, reduceIte, not_true_eq_false, not_false_eq_true] at hc)) | (refine fun (hc : _ = _) => ?_; try (simp (disch := decide) only [up_n, up_s, cp_n, if_true, if_false, ite_true, ite_false, reduceIte, not_true_eq_false, not_false_eq_true] at hc)))
      all_goals first | (exfalso; omega) | skip
      have el : (lrun k (M 54) (m + 1)).1 = (M 54 (m : Int) :: (lrun k (M 54) m).1).take k := by
        show lstep k _ _ = _
        unfold lstep
        rw [if_neg hmem]
      have ec : (lrun k (M 54) (m + 1)).2 = (lrun k (M 54) m).2 + 1 := by
        show (if _ ∈ _ then _ else _) = _
        rw [if_neg hmem]
      have hh := ih (m + 1) (hf g (min (((lrun k (M 54) m).1.length : Int) + 1) (k : Int) - 1) (M 54 (m : Int))) (some (.inl (min (((lrun k (M 54) m).1.length : Int) + 1) (k : Int) - 1))) (by omega) (by rw [el]; exact hd_miss h1)
      have en : (((lrun k (M 54) (m + 1)).1.length : Nat) : Int) = min (((lrun k (M 54) m).1.length : Int) + 1) (k : Int) := by
        rw [el, List.length_take, List.length_cons]
        omega
      rw [en, ec] at hh
      exact hh
set_option maxHeartbeats 4000000 in
set_option maxRecDepth 100000 in
theorem c_missedWith {M : fr_M} {k : Int} {Q : Option fr_V → fr_H → fr_M → Prop} (hk : 0 ≤ k ∧ k ≤ 8) (hn : 0 ≤ M 52 2 ∧ M 52 2 ≤ 200) (h : ∀ g, Q (some (.inl (lrun k.toNat (M 54) (M 52 2).toNat).2)) sh0 (rw_ M 58 g)) : fr_Call 104 [.inr (.inl 52), .inl k] sh0 M Q := by
  obtain ⟨a, rfl⟩ : ∃ a : Nat, k = (a : Int) := ⟨k.toNat, by omega⟩
  rw [Int.toNat_natCast] at h
  have hh := c_missed_l (M := M) (k := a) (Q := Q) (by omega) hn h (M 52 2).toNat 0 (M 58) none (by omega) (fun j x hx => by cases j <;> cases hx)
  rw [rw_id] at hh
  refine fr_cgo k104 [some (.inr (.inl 52)), some (.inl (a : Int)), none, none, none, none] 0 0 [6] 400 rfl rfl rfl rfl ?_
  repeat' (first | (refine And.intro (by first | omega | (simp (disch := decide) only [up_n, up_s, cp_n, if_true, if_false, ite_true, ite_false, reduceIte, not_true_eq_false, not_false_eq_true]; omega)) ?_) | (refine And.intro (fun hc => ?_) (fun hc => ?_) <;> (try (simp (disch := decide) only [up_n, up_s, cp_n, if_true, if_false, ite_true, ite_false, reduceIte, not_true_eq_false, not_false_eq_true] at hc)) <;> (try (exfalso; omega))) | (refine fun (hc : ¬ _) => ?_; try (simp (disch := decide) only [up_n, up_s, cp_n, if_true, if_false, ite_true, ite_false, reduceIte, not_true_eq_false, not_false_eq_true] at hc)) | (refine fun (hc : _ = _) => ?_; try (simp (disch := decide) only [up_n, up_s, cp_n, if_true, if_false, ite_true, ite_false, reduceIte, not_true_eq_false, not_false_eq_true] at hc)))
  exact hh
end
section
theorem op_block {n : Int} {M : fr_M} (hR : Rel n M) (hn : n ≤ 512) (a0 : Int) (a1 : Int) (h0 : fr_in a0) (h1 : fr_in a1) : Two 108 145 [.inl a0, .inl a1] M (Rel (n + 1)) := sorry
theorem op_end {n : Int} {M : fr_M} (hR : Rel n M) (hn : n ≤ 512) (a0 : Int) (a1 : Int) (a2 : Int) (a3 : Int) (a4 : Int) (a5 : Int) (h0 : fr_in a0) (h1 : fr_in a1) (h2 : fr_in a2) (h3 : fr_in a3) (h4 : fr_in a4) (h5 : fr_in a5) : Two 110 148 [.inl a0, .inl a1, .inl a2, .inl a3, .inl a4, .inl a5] M (Rel (n + 1)) := sorry
theorem op_move {n : Int} {M : fr_M} (hR : Rel n M) (hn : n ≤ 512) (a0 : Int) (a1 : Int) (h0 : fr_in a0) (h1 : fr_in a1) : Two 117 157 [.inl a0, .inl a1] M (Rel (n + 1)) := sorry
theorem op_swap {n : Int} {M : fr_M} (hR : Rel n M) (hn : n ≤ 512) (a0 : Int) (a1 : Int) (h0 : fr_in a0) (h1 : fr_in a1) : Two 118 158 [.inl a0, .inl a1] M (Rel (n + 1)) := sorry
theorem op_order {n : Int} {M : fr_M} (hR : Rel n M) (hn : n ≤ 512) (a0 : Int) (a1 : Int) (h0 : fr_in a0) (h1 : fr_in a1) : Two 119 172 [.inl a0, .inl a1] M (Rel (n + 1)) := sorry
theorem op_undo {n : Int} {M : fr_M} (hR : Rel n M) (hn : n ≤ 512)   : Two 120 154 [] M (Rel (n + 1)) := sorry
theorem op_weight {n : Int} {M : fr_M} (hR : Rel n M) (hn : n ≤ 512) (a0 : Int) (a1 : Int) (h0 : fr_in a0) (h1 : fr_in a1) : Two 123 176 [.inl a0, .inl a1] M (Rel (n + 1)) := sorry
theorem op_row {n : Int} {M : fr_M} (hR : Rel n M) (hn : n ≤ 512) (a0 : Int) (h0 : fr_in a0) : Two 124 183 [.inl a0] M (Rel (n + 1)) := sorry
theorem op_laid {n : Int} {M : fr_M} (hR : Rel n M) (hn : n ≤ 512) (a0 : Int) (a1 : Int) (h0 : fr_in a0) (h1 : fr_in a1) : Two 125 184 [.inl a0, .inl a1] M (Rel (n + 1)) := sorry
theorem op_image {n : Int} {M : fr_M} (hR : Rel n M) (hn : n ≤ 512) (a0 : Int) (h0 : fr_in a0) : Two 126 188 [.inl a0] M (Rel (n + 1)) := sorry
theorem op_told {n : Int} {M : fr_M} (hR : Rel n M) (hn : n ≤ 512) (a0 : Int) (h0 : fr_in a0) : Two 127 189 [.inl a0] M (Rel (n + 1)) := sorry
theorem op_run {n : Int} {M : fr_M} (hR : Rel n M) (hn : n ≤ 512) (a0 : Int) (a1 : Int) (h0 : fr_in a0) (h1 : fr_in a1) : Two 131 199 [.inl a0, .inl a1] M (Rel (n + 1)) := sorry
theorem op_pages {n : Int} {M : fr_M} (hR : Rel n M) (hn : n ≤ 512) (a0 : Int) (h0 : fr_in a0) : Two 136 203 [.inl a0] M (Rel (n + 1)) := sorry
theorem op_differ {n : Int} {M : fr_M} (hR : Rel n M) (hn : n ≤ 512)   : Two 137 204 [] M (Rel (n + 1)) := sorry
end
section
set_option maxHeartbeats 4000000 in
set_option maxRecDepth 100000 in
theorem law_loop {L : Nat} {f : Int → Int} (hL : L ≤ 3584) (hf : ∀ i, fr_in (f i)) : ∀ (t : Nat) (n i : Int) (M : fr_M), i = 7 * n → 0 ≤ n → (L : Int) - i < 7 * (t : Int) → Rel n M → fr_Run 206 (some (L, f)) 10 [some (.inr (.inr (.inr ()))), some (.inr (.inl 0)), some (.inr (.inl 75)), some (.inl i)] [] sh0 M 0 0 (fun r _ _ => r = some (.inl 1)) := by
  intro t
  induction t with
  | zero =>
    intro n i M hi hn ht hR
    refine fr_go k206 [10] 100 rfl ?_
    refine And.intro (by omega) ?_
    refine And.intro (by omega) ?_
    refine And.intro (fun hc => ?_) (fun hc => ?_)
    · exact And.intro (by omega) rfl
    · exact absurd hc (by omega)
  | succ t ih =>
    intro n i M hi hn ht hR
    refine fr_go k206 [10] 100 rfl ?_
    refine And.intro (by omega) ?_
    refine And.intro (by omega) ?_
    refine And.intro (fun hc => ?_) (fun hc => ?_)
    · exact And.intro (by omega) rfl
    have hn5 : n ≤ 512 := by omega
    have fin : ∀ M2, Rel (n + 1) M2 → fr_Run 206 (some (L, f)) 10 [some (.inr (.inr (.inr ()))), some (.inr (.inl 0)), some (.inr (.inl 75)), some (.inl (i + 7))] [] sh0 M2 0 0 (fun r _ _ => r = some (.inl 1)) := fun M2 h2 => ih (n + 1) (i + 7) M2 (by omega) (by omega) (by omega) h2
    refine And.intro (by omega) ?_
    refine And.intro (fun hk => ?_) (fun hk => ?_)
    · -- routine
      refine fr_Call.mono (op_routine hR hn5) ?_
      rintro _ _ M1 ⟨rfl, v, rfl, h2⟩
      refine fr_Call.mono h2 ?_
      rintro _ _ M2 ⟨rfl, rfl, hR2⟩
      refine And.intro (fun _ => ?_) (fun hc => absurd rfl hc)
      refine And.intro (by omega) ?_
      exact fin M2 hR2
    refine And.intro (fun hk => ?_) (fun hk => ?_)
    · -- block
      refine And.intro (by omega) ?_
      refine And.intro (by omega) ?_
      refine And.intro (by omega) ?_
      refine And.intro (by omega) ?_
      refine fr_Call.mono (op_block hR hn5 _ _ (hf _) (hf _)) ?_
      rintro _ _ M1 ⟨rfl, v, rfl, h2⟩
      refine And.intro (by omega) ?_
      refine And.intro (by omega) ?_
      refine And.intro (by omega) ?_
      refine And.intro (by omega) ?_
      refine fr_Call.mono h2 ?_
      rintro _ _ M2 ⟨rfl, rfl, hR2⟩
      refine And.intro (fun _ => ?_) (fun hc => absurd rfl hc)
      refine And.intro (by omega) ?_
      exact fin M2 hR2
    refine And.intro (fun hk => ?_) (fun hk => ?_)
    · -- end
      refine And.intro (by omega) ?_
      refine And.intro (by omega) ?_
      refine And.intro (by omega) ?_
      refine And.intro (by omega) ?_
      refine And.intro (by omega) ?_
      refine And.intro (by omega) ?_
      refine And.intro (by omega) ?_
      refine And.intro (by omega) ?_
      refine And.intro (by omega) ?_
      refine And.intro (by omega) ?_
      refine And.intro (by omega) ?_
      refine And.intro (by omega) ?_
      refine fr_Call.mono (op_end hR hn5 _ _ _ _ _ _ (hf _) (hf _) (hf _) (hf _) (hf _) (hf _)) ?_
      rintro _ _ M1 ⟨rfl, v, rfl, h2⟩
      refine And.intro (by omega) ?_
      refine And.intro (by omega) ?_
      refine And.intro (by omega) ?_
      refine And.intro (by omega) ?_
      refine And.intro (by omega) ?_
      refine And.intro (by omega) ?_
      refine And.intro (by omega) ?_
      refine And.intro (by omega) ?_
      refine And.intro (by omega) ?_
      refine And.intro (by omega) ?_
      refine And.intro (by omega) ?_
      refine And.intro (by omega) ?_
      refine fr_Call.mono h2 ?_
      rintro _ _ M2 ⟨rfl, rfl, hR2⟩
      refine And.intro (fun _ => ?_) (fun hc => absurd rfl hc)
      refine And.intro (by omega) ?_
      exact fin M2 hR2
    refine And.intro (fun hk => ?_) (fun hk => ?_)
    · -- count
      refine And.intro (by omega) ?_
      refine And.intro (by omega) ?_
      refine And.intro (by omega) ?_
      refine And.intro (by omega) ?_
      refine And.intro (by omega) ?_
      refine And.intro (by omega) ?_
      refine fr_Call.mono (op_count hR hn5 _ _ _ (hf _) (hf _) (hf _)) ?_
      rintro _ _ M1 ⟨rfl, v, rfl, h2⟩
      refine And.intro (by omega) ?_
      refine And.intro (by omega) ?_
      refine And.intro (by omega) ?_
      refine And.intro (by omega) ?_
      refine And.intro (by omega) ?_
      refine And.intro (by omega) ?_
      refine fr_Call.mono h2 ?_
      rintro _ _ M2 ⟨rfl, rfl, hR2⟩
      refine And.intro (fun _ => ?_) (fun hc => absurd rfl hc)
      refine And.intro (by omega) ?_
      exact fin M2 hR2
    refine And.intro (fun hk => ?_) (fun hk => ?_)
    · -- cold
      refine And.intro (by omega) ?_
      refine And.intro (by omega) ?_
      refine And.intro (by omega) ?_
      refine And.intro (by omega) ?_
      refine And.intro (fun hz => ?_) (fun hz => ?_)
      · refine fr_Call.mono (op_cold hR hn5 _ _ (hf _) (Or.inl rfl)) ?_
        rintro _ _ M1 ⟨rfl, v, rfl, h2⟩
        refine And.intro (by omega) ?_
        refine And.intro (by omega) ?_
        refine And.intro (by omega) ?_
        refine And.intro (by omega) ?_
        refine And.intro (fun hz2 => ?_) (fun hz2 => ?_)
        · refine fr_Call.mono h2 ?_
          rintro _ _ M2 ⟨rfl, rfl, hR2⟩
          refine And.intro (fun _ => ?_) (fun hc => absurd rfl hc)
          refine And.intro (by omega) ?_
          exact fin M2 hR2
        · exact absurd hz (by omega)
      · refine fr_Call.mono (op_cold hR hn5 _ _ (hf _) (Or.inr rfl)) ?_
        rintro _ _ M1 ⟨rfl, v, rfl, h2⟩
        refine And.intro (by omega) ?_
        refine And.intro (by omega) ?_
        refine And.intro (by omega) ?_
        refine And.intro (by omega) ?_
        refine And.intro (fun hz2 => ?_) (fun hz2 => ?_)
        · exact absurd hz2 (by omega)
        · refine fr_Call.mono h2 ?_
          rintro _ _ M2 ⟨rfl, rfl, hR2⟩
          refine And.intro (fun _ => ?_) (fun hc => absurd rfl hc)
          refine And.intro (by omega) ?_
          exact fin M2 hR2
    refine And.intro (fun hk => ?_) (fun hk => ?_)
    · -- about
      refine And.intro (by omega) ?_
      refine And.intro (by omega) ?_
      refine And.intro (by omega) ?_
      refine And.intro (by omega) ?_
      refine fr_Call.mono (op_about hR hn5 _ _ (hf _) (hf _)) ?_
      rintro _ _ M1 ⟨rfl, v, rfl, h2⟩
      refine And.intro (by omega) ?_
      refine And.intro (by omega) ?_
      refine And.intro (by omega) ?_
      refine And.intro (by omega) ?_
      refine fr_Call.mono h2 ?_
      rintro _ _ M2 ⟨rfl, rfl, hR2⟩
      refine And.intro (fun _ => ?_) (fun hc => absurd rfl hc)
      refine And.intro (by omega) ?_
      exact fin M2 hR2
    refine And.intro (fun hk => ?_) (fun hk => ?_)
    · -- move
      refine And.intro (by omega) ?_
      refine And.intro (by omega) ?_
      refine And.intro (by omega) ?_
      refine And.intro (by omega) ?_
      refine fr_Call.mono (op_move hR hn5 _ _ (hf _) (hf _)) ?_
      rintro _ _ M1 ⟨rfl, v, rfl, h2⟩
      refine And.intro (by omega) ?_
      refine And.intro (by omega) ?_
      refine And.intro (by omega) ?_
      refine And.intro (by omega) ?_
      refine fr_Call.mono h2 ?_
      rintro _ _ M2 ⟨rfl, rfl, hR2⟩
      refine And.intro (fun _ => ?_) (fun hc => absurd rfl hc)
      refine And.intro (by omega) ?_
      exact fin M2 hR2
    refine And.intro (fun hk => ?_) (fun hk => ?_)
    · -- swap
      refine And.intro (by omega) ?_
      refine And.intro (by omega) ?_
      refine And.intro (by omega) ?_
      refine And.intro (by omega) ?_
      refine fr_Call.mono (op_swap hR hn5 _ _ (hf _) (hf _)) ?_
      rintro _ _ M1 ⟨rfl, v, rfl, h2⟩
      refine And.intro (by omega) ?_
      refine And.intro (by omega) ?_
      refine And.intro (by omega) ?_
      refine And.intro (by omega) ?_
      refine fr_Call.mono h2 ?_
      rintro _ _ M2 ⟨rfl, rfl, hR2⟩
      refine And.intro (fun _ => ?_) (fun hc => absurd rfl hc)
      refine And.intro (by omega) ?_
      exact fin M2 hR2
    refine And.intro (fun hk => ?_) (fun hk => ?_)
    · -- order
      refine And.intro (by omega) ?_
      refine And.intro (by omega) ?_
      refine And.intro (by omega) ?_
      refine And.intro (by omega) ?_
      refine fr_Call.mono (op_order hR hn5 _ _ (hf _) (hf _)) ?_
      rintro _ _ M1 ⟨rfl, v, rfl, h2⟩
      refine And.intro (by omega) ?_
      refine And.intro (by omega) ?_
      refine And.intro (by omega) ?_
      refine And.intro (by omega) ?_
      refine fr_Call.mono h2 ?_
      rintro _ _ M2 ⟨rfl, rfl, hR2⟩
      refine And.intro (fun _ => ?_) (fun hc => absurd rfl hc)
      refine And.intro (by omega) ?_
      exact fin M2 hR2
    refine And.intro (fun hk => ?_) (fun hk => ?_)
    · -- undo
      refine fr_Call.mono (op_undo hR hn5) ?_
      rintro _ _ M1 ⟨rfl, v, rfl, h2⟩
      refine fr_Call.mono h2 ?_
      rintro _ _ M2 ⟨rfl, rfl, hR2⟩
      refine And.intro (fun _ => ?_) (fun hc => absurd rfl hc)
      refine And.intro (by omega) ?_
      exact fin M2 hR2
    refine And.intro (fun hk => ?_) (fun hk => ?_)
    · -- set
      refine And.intro (by omega) ?_
      refine And.intro (by omega) ?_
      refine And.intro (by omega) ?_
      refine And.intro (by omega) ?_
      refine fr_Call.mono (op_set hR hn5 _ _ (hf _) (hf _)) ?_
      rintro _ _ M1 ⟨rfl, v, rfl, h2⟩
      refine And.intro (by omega) ?_
      refine And.intro (by omega) ?_
      refine And.intro (by omega) ?_
      refine And.intro (by omega) ?_
      refine fr_Call.mono h2 ?_
      rintro _ _ M2 ⟨rfl, rfl, hR2⟩
      refine And.intro (fun _ => ?_) (fun hc => absurd rfl hc)
      refine And.intro (by omega) ?_
      exact fin M2 hR2
    refine And.intro (fun hk => ?_) (fun hk => ?_)
    · -- weight
      refine And.intro (by omega) ?_
      refine And.intro (by omega) ?_
      refine And.intro (by omega) ?_
      refine And.intro (by omega) ?_
      refine fr_Call.mono (op_weight hR hn5 _ _ (hf _) (hf _)) ?_
      rintro _ _ M1 ⟨rfl, v, rfl, h2⟩
      refine And.intro (by omega) ?_
      refine And.intro (by omega) ?_
      refine And.intro (by omega) ?_
      refine And.intro (by omega) ?_
      refine fr_Call.mono h2 ?_
      rintro _ _ M2 ⟨rfl, rfl, hR2⟩
      refine And.intro (fun _ => ?_) (fun hc => absurd rfl hc)
      refine And.intro (by omega) ?_
      exact fin M2 hR2
    refine And.intro (fun hk => ?_) (fun hk => ?_)
    · -- row
      refine And.intro (by omega) ?_
      refine And.intro (by omega) ?_
      refine fr_Call.mono (op_row hR hn5 _ (hf _)) ?_
      rintro _ _ M1 ⟨rfl, v, rfl, h2⟩
      refine And.intro (by omega) ?_
      refine And.intro (by omega) ?_
      refine fr_Call.mono h2 ?_
      rintro _ _ M2 ⟨rfl, rfl, hR2⟩
      refine And.intro (fun _ => ?_) (fun hc => absurd rfl hc)
      refine And.intro (by omega) ?_
      exact fin M2 hR2
    refine And.intro (fun hk => ?_) (fun hk => ?_)
    · -- laid
      refine And.intro (by omega) ?_
      refine And.intro (by omega) ?_
      refine And.intro (by omega) ?_
      refine And.intro (by omega) ?_
      refine fr_Call.mono (op_laid hR hn5 _ _ (hf _) (hf _)) ?_
      rintro _ _ M1 ⟨rfl, v, rfl, h2⟩
      refine And.intro (by omega) ?_
      refine And.intro (by omega) ?_
      refine And.intro (by omega) ?_
      refine And.intro (by omega) ?_
      refine fr_Call.mono h2 ?_
      rintro _ _ M2 ⟨rfl, rfl, hR2⟩
      refine And.intro (fun _ => ?_) (fun hc => absurd rfl hc)
      refine And.intro (by omega) ?_
      exact fin M2 hR2
    refine And.intro (fun hk => ?_) (fun hk => ?_)
    · -- image
      refine And.intro (by omega) ?_
      refine And.intro (by omega) ?_
      refine fr_Call.mono (op_image hR hn5 _ (hf _)) ?_
      rintro _ _ M1 ⟨rfl, v, rfl, h2⟩
      refine And.intro (by omega) ?_
      refine And.intro (by omega) ?_
      refine fr_Call.mono h2 ?_
      rintro _ _ M2 ⟨rfl, rfl, hR2⟩
      refine And.intro (fun _ => ?_) (fun hc => absurd rfl hc)
      refine And.intro (by omega) ?_
      exact fin M2 hR2
    refine And.intro (fun hk => ?_) (fun hk => ?_)
    · -- told
      refine And.intro (by omega) ?_
      refine And.intro (by omega) ?_
      refine fr_Call.mono (op_told hR hn5 _ (hf _)) ?_
      rintro _ _ M1 ⟨rfl, v, rfl, h2⟩
      refine And.intro (by omega) ?_
      refine And.intro (by omega) ?_
      refine fr_Call.mono h2 ?_
      rintro _ _ M2 ⟨rfl, rfl, hR2⟩
      refine And.intro (fun _ => ?_) (fun hc => absurd rfl hc)
      refine And.intro (by omega) ?_
      exact fin M2 hR2
    refine And.intro (fun hk => ?_) (fun hk => ?_)
    · -- say
      refine And.intro (by omega) ?_
      refine And.intro (by omega) ?_
      refine And.intro (by omega) ?_
      refine And.intro (by omega) ?_
      refine And.intro (by omega) ?_
      refine And.intro (by omega) ?_
      refine fr_Call.mono (op_say hR hn5 _ _ (hf _)) ?_
      rintro _ _ M1 ⟨rfl, v, rfl, h2⟩
      refine And.intro (by omega) ?_
      refine And.intro (by omega) ?_
      refine And.intro (by omega) ?_
      refine And.intro (by omega) ?_
      refine And.intro (by omega) ?_
      refine And.intro (by omega) ?_
      refine fr_Call.mono h2 ?_
      rintro _ _ M2 ⟨rfl, rfl, hR2⟩
      refine And.intro (fun _ => ?_) (fun hc => absurd rfl hc)
      refine And.intro (by omega) ?_
      exact fin M2 hR2
    refine And.intro (fun hk => ?_) (fun hk => ?_)
    · -- tear
      refine fr_Call.mono (op_tear hR hn5) ?_
      rintro _ _ M1 ⟨rfl, v, rfl, h2⟩
      refine fr_Call.mono h2 ?_
      rintro _ _ M2 ⟨rfl, rfl, hR2⟩
      refine And.intro (fun _ => ?_) (fun hc => absurd rfl hc)
      refine And.intro (by omega) ?_
      exact fin M2 hR2
    refine And.intro (fun hk => ?_) (fun hk => ?_)
    · -- run
      refine And.intro (by omega) ?_
      refine And.intro (by omega) ?_
      refine And.intro (by omega) ?_
      refine And.intro (by omega) ?_
      refine fr_Call.mono (op_run hR hn5 _ _ (hf _) (hf _)) ?_
      rintro _ _ M1 ⟨rfl, v, rfl, h2⟩
      refine And.intro (by omega) ?_
      refine And.intro (by omega) ?_
      refine And.intro (by omega) ?_
      refine And.intro (by omega) ?_
      refine fr_Call.mono h2 ?_
      rintro _ _ M2 ⟨rfl, rfl, hR2⟩
      refine And.intro (fun _ => ?_) (fun hc => absurd rfl hc)
      refine And.intro (by omega) ?_
      exact fin M2 hR2
    refine And.intro (fun hk => ?_) (fun hk => ?_)
    · -- ran
      refine And.intro (by omega) ?_
      refine And.intro (by omega) ?_
      refine And.intro (by omega) ?_
      refine And.intro (by omega) ?_
      refine fr_Call.mono (op_ran hR hn5 _ _ (hf _) (hf _)) ?_
      rintro _ _ M1 ⟨rfl, v, rfl, h2⟩
      refine And.intro (by omega) ?_
      refine And.intro (by omega) ?_
      refine And.intro (by omega) ?_
      refine And.intro (by omega) ?_
      refine fr_Call.mono h2 ?_
      rintro _ _ M2 ⟨rfl, rfl, hR2⟩
      refine And.intro (fun _ => ?_) (fun hc => absurd rfl hc)
      refine And.intro (by omega) ?_
      exact fin M2 hR2
    refine And.intro (fun hk => ?_) (fun hk => ?_)
    · -- passed
      refine And.intro (by omega) ?_
      refine And.intro (by omega) ?_
      refine And.intro (by omega) ?_
      refine And.intro (by omega) ?_
      refine fr_Call.mono (op_passed hR hn5 _ _ (hf _) (hf _)) ?_
      rintro _ _ M1 ⟨rfl, v, rfl, h2⟩
      refine And.intro (by omega) ?_
      refine And.intro (by omega) ?_
      refine And.intro (by omega) ?_
      refine And.intro (by omega) ?_
      refine fr_Call.mono h2 ?_
      rintro _ _ M2 ⟨rfl, rfl, hR2⟩
      refine And.intro (fun _ => ?_) (fun hc => absurd rfl hc)
      refine And.intro (by omega) ?_
      exact fin M2 hR2
    refine And.intro (fun hk => ?_) (fun hk => ?_)
    · -- learn
      refine fr_Call.mono (op_learn hR hn5) ?_
      rintro _ _ M1 ⟨rfl, v, rfl, h2⟩
      refine fr_Call.mono h2 ?_
      rintro _ _ M2 ⟨rfl, rfl, hR2⟩
      refine And.intro (fun _ => ?_) (fun hc => absurd rfl hc)
      refine And.intro (by omega) ?_
      exact fin M2 hR2
    refine And.intro (fun hk => ?_) (fun hk => ?_)
    · -- pages
      refine And.intro (by omega) ?_
      refine And.intro (by omega) ?_
      refine fr_Call.mono (op_pages hR hn5 _ (hf _)) ?_
      rintro _ _ M1 ⟨rfl, v, rfl, h2⟩
      refine And.intro (by omega) ?_
      refine And.intro (by omega) ?_
      refine fr_Call.mono h2 ?_
      rintro _ _ M2 ⟨rfl, rfl, hR2⟩
      refine And.intro (fun _ => ?_) (fun hc => absurd rfl hc)
      refine And.intro (by omega) ?_
      exact fin M2 hR2
    refine And.intro (fun hk => ?_) (fun hk => ?_)
    · -- differ
      refine fr_Call.mono (op_differ hR hn5) ?_
      rintro _ _ M1 ⟨rfl, v, rfl, h2⟩
      refine fr_Call.mono h2 ?_
      rintro _ _ M2 ⟨rfl, rfl, hR2⟩
      refine And.intro (fun _ => ?_) (fun hc => absurd rfl hc)
      refine And.intro (by omega) ?_
      exact fin M2 hR2
    refine And.intro (fun hk => ?_) (fun hk => ?_)
    · -- has
      refine And.intro (by omega) ?_
      refine And.intro (by omega) ?_
      refine fr_Call.mono (op_has hR hn5 _ (hf _)) ?_
      rintro _ _ M1 ⟨rfl, v, rfl, h2⟩
      refine And.intro (by omega) ?_
      refine And.intro (by omega) ?_
      refine fr_Call.mono h2 ?_
      rintro _ _ M2 ⟨rfl, rfl, hR2⟩
      refine And.intro (fun _ => ?_) (fun hc => absurd rfl hc)
      refine And.intro (by omega) ?_
      exact fin M2 hR2
    refine And.intro (by omega) ?_
    exact fin M (hR.next)
set_option maxHeartbeats 4000000 in
set_option maxRecDepth 100000 in
theorem law_run {L : Nat} {f : Int → Int} (hL : L ≤ 3584) (hf : ∀ i, fr_in (f i)) : fr_Run 206 (some (L, f)) 0 [some (.inr (.inr (.inr ()))), none, none, none] [] [] (fun _ _ => 0) 119 24412 (fun r _ _ => r = some (.inl 1)) := by
  refine fr_go k206 [10] 100 rfl ?_
  refine c_of (ci_0 ?_) rfl rfl (by repeat (first | (with_reducible exact rfl) | refine e_un ?_ | refine e_up ?_ rfl | refine e_zr ?_ (fun _ => rfl)))
  refine c_of (ci_15 ?_) rfl rfl (by repeat (first | (with_reducible exact rfl) | refine e_un ?_ | refine e_up ?_ rfl | refine e_zr ?_ (fun _ => rfl)))
  exact law_loop hL hf (L + 1) 0 0 Z4 rfl (by omega) (by omega) rel_init
end
section
/-! THE CLAIM OUT OF ONE WALK OF THE LAW'S BODY. Your part is whole_start (and what it stands on); all else here is the same for every law, but numbers. -/
def R_law : String := "FallRowsLaw"
def lw_P (b : Addr) (xs : List Int32) (args : Array Value) (s : State) : Prop := args = #[.ref b] ∧ s.IntsAt b xs ∧ xs.length ≤ 3584 ∧ (Jvm.Cond.and given_1 narrow_1).before args s = true
def lw_Q (_ : Array Value) (s : State) (o : Outcome) (t : State) : Prop := o = .returned (some (.int 1)) ∧ Framed s o t [] 119 24412
def lw_Z (below : List Frame) (a : Array Value) (s : State) : State → Prop := fun t => ∃ o, t.status = .running ∧ Ended t below o ∧ lw_Q a s o t
/-- the law's own end, with 1 on the stack, nothing written that was there before, its room as the claim has it -/
theorem lw_ret {p : Program} {l : Launch} {e : Env} {s : State} {m : MethodId} {below : List Frame} {meth : Method} {c : Code} {b : Nat} (hx : p.tables.exec = Jvm.exec) (hb : c.code = code) (hr : meth.sig.returnType = ret) (hlocks : meth.locks = false) {pc : Nat} {H : Heap} {ls : Array Slot} (hdg : decode code pc = .ok (.ireturn, 1)) : W p l e room_1 s m #[Value.ref b] below meth c H [] 119 24412 (lw_Z below #[Value.ref b] s) (F0 m pc ls [.int 1]) := by
  intro T hT X
  obtain ⟨fs, hret, hrun, hended, hW, hframe⟩ := X.leave (v := some (.int 1)) (hlocks := hlocks) (fun h => by rw [hr] at h; cases h)
  have hmeth' : T.vm.method? m = some meth := X.method'
  refine ⟨T.setFrames fs, ?_, .returned (some (.int 1)), hrun, hended, rfl, ⟨_, rfl⟩, hW, hframe⟩
  jvm_step X.here [X.here.top, hx, hb, hdg, hmeth', hr, ret, narrow_b1]
  (try refine ⟨rfl, ?_⟩); (try refine ⟨rfl, ?_⟩)
  first | (intro acts; rw [hret _ acts rfl rfl rfl]) | rw [hret _ _ rfl rfl rfl]
  exact Steps.refl _
/-- what holds at the law's entry: the machine, the code, the tables' words (any of lw_tbl by 'hts w (by decide +kernel)'), the script of L ints xs at the cell b, what the Statement gives of the start (any of its parts by flat_of_before) -/
def lw_At (p : Program) (s : State) (m : MethodId) (meth : Method) (c : Code) (b L : Nat) (xs : Nat → Int32) : Prop :=
  p.tables.exec = Jvm.exec ∧ c.code = code ∧ meth.sig.returnType = ret ∧ c.maxLocals = 4 ∧ s.vm.findClass R_law = some m.cls ∧ (∀ w ∈ lw_tbl, w.before #[Value.ref b] s = true) ∧ va_X b L xs s s.heap ∧ b < s.heap.size ∧ meth.locks = false ∧ (Jvm.Cond.and given_1 narrow_1).before #[Value.ref b] s = true

theorem lw_arr {args : Array Value} {s : State} {ty : FieldType} (h : (Cond.arrayClass ty).before args s = true) (hp : ty = .int ∨ ty = .boolean ∨ ty = .byte) : ∃ cA : ClassId, ArrOfT s cA ty ∧ va_RA s cA ty := by
  obtain ⟨cA, kA, comp, h1, h2, h3⟩ := Cond.arrayClass_spec h
  refine ⟨cA, fun n z => ⟨fun k h => (by cases h), kA, h2, comp, h3⟩, ?_⟩
  rcases hp with rfl | rfl | rfl <;> exact h1
set_option maxHeartbeats 4000000 in
set_option maxRecDepth 100000 in
theorem whole_start {p : Program} {e : Env} {s : State} {m : MethodId} {below : List Frame} {meth : Method} {c : Code} (l : Launch) {b L : Nat} {xs : Nat → Int32} (hL : L ≤ 3584) (C0 : lw_At p s m meth c b L xs) : W p l e room_1 s m #[Value.ref b] below meth c s.heap [] 0 0 (lw_Z below #[Value.ref b] s) (entryFrame m ([Value.ref b] : List Value).toArray 4) := by
  obtain ⟨hx, hb, hr, hml, hown, hts, hX, hbl, hlocks, hgv⟩ := id C0
  have hcl : ∀ k : Nat, ∃ (cC : ClassId) (iS : Nat → Nat), ∀ q : vw_C, vwCl[k]? = some q → u_Kn s q.1 q.2.1 q.2.2 cC iS := by
    intro k
    cases hq : vwCl[k]? with
    | none => exact ⟨0, fun _ => 0, fun q h => by cases h⟩
    | some q =>
      obtain ⟨cC, iS, h⟩ := u_known (C := q.1) (T := q.2.1) (N := q.2.2) (n := q.2.2) hts (fr_cls hq).1 (hts _ (fr_cls2 hq).2.1)
      exact ⟨cC, iS, fun q' h' => by cases h'; exact h⟩
  obtain ⟨c0, hc0⟩ := lw_arr (hts _ fr_w_aint) (Or.inl rfl)
  obtain ⟨c1, hc1⟩ := lw_arr (hts _ fr_w_aboolean) (Or.inr (Or.inl rfl))
  obtain ⟨c2, hc2⟩ := lw_arr (hts _ fr_w_abyte) (Or.inr (Or.inr rfl))
  let G : fr_G := (s.heap.size, b, ((fun k => (hcl k).choose), (fun k => (hcl k).choose_spec.choose)), (fun t => match t with
    | 0 => c0
    | 1 => c1
    | _ => c2))
  have hKK : fr_KK G s := by
    refine ⟨fun k q hq => (hcl k).choose_spec.choose_spec q hq, fun k q hq => ?_⟩
    match k, hq with
    | 0, hq => cases hq; exact hc0
    | 1, hq => cases hq; exact hc1
    | 2, hq => cases hq; exact hc2
    | k + 3, hq => simp at hq
  have hfx : (fun j : Nat => Int32.ofInt ((fun i : Int => (xs i.toNat).toInt) (j : Int))) = xs := by
    funext j
    simp
  have X : fr_X fr_law p room_1 s m #[Value.ref b] meth c G (some (L, fun i => (xs i.toNat).toInt)) := by
    refine ⟨hx, hb, hml, ⟨_, rfl, hown⟩, fun w h => hts w (List.mem_filter.mp h).1, hKK, ⟨by decide, by decide⟩, Nat.le_refl _, fun h => (by cases h), fun n f h => ?_⟩
    cases h
    refine ⟨by omega, fun i => fr_in_toInt _, hbl, ?_⟩
    rw [hfx]
    exact hX
  have hRt : fr_Rt fr_law p l e room_1 s m #[Value.ref b] below meth c (lw_Z below #[Value.ref b] s) G (fun r _ _ => r = some (.inl 1)) := by
    intro pc ls r sh M bc bs hQ hrd ls' H locs cells slots S
    subst hQ
    have hc := S.2.2.2.2.2.2.1
    have hs := S.2.2.2.2.2.2.2
    have hc : cells + bc ≤ 119 := hc
    have hs : slots + bs ≤ 24412 := hs
    refine va_forget (fun q hq => S.2.2.2.2.2.1.2.2 q hq) ?_
    refine W.widen (k := 119) (n := 24412) (by omega) (by omega) ?_
    exact lw_ret hx hb hr hlocks hrd.1
  have hW := law_run hL (fun i => fr_in_toInt (xs i.toNat)) fr_law p l e room_1 s m #[Value.ref b] below meth c _ G rfl X hRt
  have hl := lv_entry ([.ref b]) (n := 4) (Nat.le_of_ble_eq_true rfl)
  rw [lg_entry_eq]
  have hW2 := hW _ s.heap [] 0 0 ⟨⟨rfl, hl.1, hl.2.1, fun i v hv => ?_⟩, fun v hv => ?_, fun v h => (by cases h), fun _ _ => fr_in0, ⟨rfl, fun k cell h => by simp at h⟩, va_S.rf, by decide, by decide⟩
  · exact hW2
  · match i, hv with
    | 0, hv => cases hv; exact hl.2.2 (0, .ref b) List.mem_cons_self
    | 1, hv => cases hv
    | 2, hv => cases hv
    | 3, hv => cases hv
    | i + 4, hv => simp at hv
  · simp at hv
    subst hv
    trivial
-- ===== YOUR PART ENDS =====
set_option maxHeartbeats 4000000 in
theorem lw_walk (l : Launch) (b : Addr) (xs : List Int32) : MetFree l x (headSpec (Jvm.Cond.code x code maxLocals ret :: tables_1) room_1) (lw_P b xs) (fun _ _ _ _ _ => True) lw_Q := by
  refine MetFree.of_bodyS (code := code) (maxLocals := maxLocals) (ret := ret) (by decide) ?_ ?_
  · intro args s m h hn
    obtain ⟨meth, c, h1, h2, h3, h4, h5, h6, -, -⟩ := Cond.code_spec hn (atoms_spec (ws := Jvm.Cond.code x code maxLocals ret :: tables_1) h _ List.mem_cons_self)
    exact ⟨meth, c, h1, h2, h3, h4, h5, h6⟩
  · intro p e s m args below meth c s₁ B hml0 hP _
    obtain ⟨rfl, hx, hbd, hgv⟩ := hP
    obtain ⟨scr, harrAt, hlist, hof, hsmall⟩ := hx
    obtain ⟨hcb, hkn, -, -⟩ := State.arrayAt?_spec harrAt
    have hown : s.vm.findClass R_law = some m.cls := findClass_of_methodNamed B.named
    have hts0 : ∀ c ∈ (Jvm.Cond.code x code maxLocals ret :: tables_1), c.before #[Value.ref b] s = true := atoms_spec (ws := Jvm.Cond.code x code maxLocals ret :: tables_1) B.pre
    have hts : ∀ w ∈ lw_tbl, w.before #[Value.ref b] s = true := k2_hts_sels lw_privs (fun w hw => hts0 w (List.mem_cons_of_mem _ hw)) lw_privs_ok
    have hml : c.maxLocals = 4 := B.maxLocals_eq (hts0 _ List.mem_cons_self)
    have X₀ : Stand p l e room_1 s m #[Value.ref b] below meth c s₁ [] 0 0 := Stand.of_body B
    have hh0 : s₁.heap = s.heap := by rw [B.state]; rfl
    have hsz : scr.slots.size = xs.length := by rw [← Array.length_toList, hlist, List.length_map]
    have hval : ∀ j : Nat, j < xs.length → scr.slots[j]? = some (.int (xs.getD j 0)) := fun j hj => by
      rw [← Array.getElem?_toList, hlist]
      simp [hj]
    have hbl : b < s.heap.size := (Array.getElem?_eq_some_iff.mp hcb).1
    have hX : va_X b xs.length (fun j => xs.getD j 0) s s.heap := ⟨scr, hcb, hof, hkn, hsz, hval⟩
    have K : W p l e room_1 s m #[Value.ref b] below meth c s₁.heap [] 0 0 (lw_Z below #[Value.ref b] s) (entryFrame m ([Value.ref b] : List Value).toArray 4) := by
      rw [hh0]
      exact whole_start l hbd ⟨B.exec, B.bytes, B.returns, hml, hown, hts, hX, hbl, B.notSynchronized, hgv⟩
    obtain ⟨t, a1, o, b1, b2, b3⟩ := K s₁ rfl X₀
    exact ⟨t, o, a1, b1, b2, b3⟩
theorem lw_pre_spec {args : Array Value} {s : State} (h : (Jvm.Cond.and given_1 narrow_1).before args s = true) (hr : rest_1_c.before args s = true) : ∃ (b : Addr) (xs : List Int32), lw_P b xs args s := by
  have hs := flat_of_before _ h
  have hq := flat_of_before _ hr
  have hc : (Cond.count 1).before args s = true := hs _ (by decide +kernel)
  have harr : (Cond.arrayOf (.arg 0) .int).before args s = true := hs _ (by decide +kernel)
  have hle : (Cond.le (.length (.arg 0)) (.int 3584)).before args s = true := hs _ (by decide +kernel)
  have hlen : (Cond.isInt (.length (.arg 0))).before args s = true := hq _ (by decide +kernel)
  have hall : (Cond.all (.arg 0) (.isInt (.elem (.arg 0) (.index 0)))).before args s = true := hq _ (by decide +kernel)
  obtain ⟨b, xs, hb, hx⟩ := State.ints_of_pre rfl harr hlen hall
  have hsm : xs.length < 2 ^ 31 := hx.choose_spec.2.2.2
  have hev : (Term.length (.arg 0)).eval args s none [] s = some (.int xs.length.toInt32) := hx.length_eval hb
  have hv := Cond.le_ints hev (show (Term.int 3584).eval args s none [] s = some (.int 3584) from rfl)
  have hd : xs.length.toInt32 ≤ 3584 := by
    simpa [Cond.before, Cond.holds, hv] using hle
  have hN : xs.length ≤ 3584 := (Int32.ofNat_le_ofNat hsm (by decide)).mp (show Int32.ofNat xs.length ≤ Int32.ofNat 3584 from hd)
  exact ⟨b, xs, Cond.one_arg hc (show args[0]? = some (.ref b) from hb), hx, hN, h⟩
theorem lw_comes (l : Launch) : Comes l x (Jvm.Cond.code x code maxLocals ret :: tables_1) room_1 (fun tb e args s => Calls_1 tb e args s ∧ rest_1 tb e args s ∧ Pre_1 tb e args s)
    (fun _ _ args s o t => lw_Q args s o t) := by
  intro p e ha hc hk s m args below hf hfit hheap happ hpre
  obtain ⟨b, xs, hP⟩ := lw_pre_spec hpre.2.2 hpre.2.1
  obtain ⟨k, o, h1, h2, h3, hQ⟩ := lw_walk l b xs p e ha hc hk s m args below hf ((Spec.applies_iff_loose hf).mp happ).1 hP trivial
  exact ⟨k, o, h1, h2, h3, hQ⟩
theorem lw_frame {s t : State} {o : Outcome} {args : Array Value} (h : Framed s o t [] 119 24412) :
    Framed s o t (fieldLocs frame_1_writes args s ++ arrayLocs frame_1_arrays args s ++ staticLocs frame_1_statics s) 119 24412 := h
theorem lw_limb (L : Cond) (hL : ∀ (args : Array Value) (s t : State), L.after args s (.returned (some (.int 1))) t = true) :
    ArmFor flags0 classFile x code maxLocals ret World_1 tables_1 room_1 Calls_1 rest_1 Pre_1
      (fun tb e a s o t => postC L tb e a s o t ∧ Framed s o t (fieldLocs frame_1_writes a s ++ arrayLocs frame_1_arrays a s ++ staticLocs frame_1_statics s) 119 24412) := by
  intro l _ _ _ p e ha hc hk s m args below hf hfit hheap happ hpre
  obtain ⟨k, o, h1, h2, h3, rfl, hF⟩ := lw_comes l p e ha hc hk s m args below hf hfit hheap happ hpre
  exact ⟨k, _, h1, h2, h3, hL args s _, lw_frame hF⟩
theorem i_vc : Claimed_1_1 ∧ Claimed_1_2 := ⟨lw_limb limb_1_1 (fun args s t => by simp [limb_1_1, Cond.after, Cond.holds, Cond.value]), lw_limb limb_1_2 (fun args s t => Cond.after_iff.mpr (by
  first | (rw [show limb_1_2 = Cond.eq .result (.int 1) from rfl, Cond.eq_ints (x := 1) (y := 1) rfl rfl]; simp; done) | (simp [limb_1_2, Cond.value, Term.eval]; done)))⟩
end
