-- ===== PART A: goes FIRST, ahead of the names: the tables' words, and 'selects' of the private methods out of them =====
/-- a private method of a class that the tables say can be made, by its rows of tables_1 -/
def lw_okq (q : MethodName × Nat) : Prop := (q.1.cls ≠ "java/lang/invoke/MethodHandle" ∧ q.1.cls ≠ "java/lang/invoke/VarHandle") ∧ Cond.instantiable q.1.cls q.2 ∈ tables_1 ∧ Cond.privateMethod q.1 ∈ tables_1 ∧ Cond.instanceMethod q.1 ∈ tables_1
theorem lw_p0 : lw_okq (⟨"ReadAhead", "toldOfAll", "(I)I"⟩, 4) := ⟨⟨by decide +kernel, by decide +kernel⟩, List.mem_of_getElem? (i := 11) (by decide +kernel), List.mem_of_getElem? (i := 243) (by decide +kernel), List.mem_of_getElem? (i := 244) (by decide +kernel)⟩
theorem lw_p1 : lw_okq (⟨"ReadAhead", "toldOfOne", "(II)I"⟩, 4) := ⟨⟨by decide +kernel, by decide +kernel⟩, List.mem_of_getElem? (i := 11) (by decide +kernel), List.mem_of_getElem? (i := 247) (by decide +kernel), List.mem_of_getElem? (i := 248) (by decide +kernel)⟩
theorem lw_p2 : lw_okq (⟨"ReadAhead$House", "demand", "(II)V"⟩, 11) := ⟨⟨by decide +kernel, by decide +kernel⟩, List.mem_of_getElem? (i := 19) (by decide +kernel), List.mem_of_getElem? (i := 281) (by decide +kernel), List.mem_of_getElem? (i := 282) (by decide +kernel)⟩
theorem lw_p3 : lw_okq (⟨"ReadAhead$House", "serve", "(III)I"⟩, 11) := ⟨⟨by decide +kernel, by decide +kernel⟩, List.mem_of_getElem? (i := 19) (by decide +kernel), List.mem_of_getElem? (i := 293) (by decide +kernel), List.mem_of_getElem? (i := 294) (by decide +kernel)⟩
theorem lw_p4 : lw_okq (⟨"ReadAhead$House", "leaver", "(I)I"⟩, 11) := ⟨⟨by decide +kernel, by decide +kernel⟩, List.mem_of_getElem? (i := 19) (by decide +kernel), List.mem_of_getElem? (i := 300) (by decide +kernel), List.mem_of_getElem? (i := 301) (by decide +kernel)⟩
theorem lw_p5 : lw_okq (⟨"ReadAhead$House", "turnAway", "(II)V"⟩, 11) := ⟨⟨by decide +kernel, by decide +kernel⟩, List.mem_of_getElem? (i := 19) (by decide +kernel), List.mem_of_getElem? (i := 312) (by decide +kernel), List.mem_of_getElem? (i := 313) (by decide +kernel)⟩
theorem lw_p6 : lw_okq (⟨"ReadAhead$House", "letGo", "(I)V"⟩, 11) := ⟨⟨by decide +kernel, by decide +kernel⟩, List.mem_of_getElem? (i := 19) (by decide +kernel), List.mem_of_getElem? (i := 320) (by decide +kernel), List.mem_of_getElem? (i := 321) (by decide +kernel)⟩
theorem lw_p7 : lw_okq (⟨"ReadAhead$House", "hit", "(II)V"⟩, 11) := ⟨⟨by decide +kernel, by decide +kernel⟩, List.mem_of_getElem? (i := 19) (by decide +kernel), List.mem_of_getElem? (i := 333) (by decide +kernel), List.mem_of_getElem? (i := 334) (by decide +kernel)⟩
theorem lw_p8 : lw_okq (⟨"ReadAhead$House", "wish", "(II)V"⟩, 11) := ⟨⟨by decide +kernel, by decide +kernel⟩, List.mem_of_getElem? (i := 19) (by decide +kernel), List.mem_of_getElem? (i := 348) (by decide +kernel), List.mem_of_getElem? (i := 349) (by decide +kernel)⟩
theorem lw_p9 : lw_okq (⟨"ReadAhead$House", "wishBySteps", "(IIII)V"⟩, 11) := ⟨⟨by decide +kernel, by decide +kernel⟩, List.mem_of_getElem? (i := 19) (by decide +kernel), List.mem_of_getElem? (i := 352) (by decide +kernel), List.mem_of_getElem? (i := 353) (by decide +kernel)⟩
theorem lw_p10 : lw_okq (⟨"ReadAhead$House", "wishOne", "(II)V"⟩, 11) := ⟨⟨by decide +kernel, by decide +kernel⟩, List.mem_of_getElem? (i := 19) (by decide +kernel), List.mem_of_getElem? (i := 356) (by decide +kernel), List.mem_of_getElem? (i := 357) (by decide +kernel)⟩
theorem lw_p11 : lw_okq (⟨"ReadAhead$House", "wishWhatFollowed", "(II)V"⟩, 11) := ⟨⟨by decide +kernel, by decide +kernel⟩, List.mem_of_getElem? (i := 19) (by decide +kernel), List.mem_of_getElem? (i := 369) (by decide +kernel), List.mem_of_getElem? (i := 370) (by decide +kernel)⟩
theorem lw_p12 : lw_okq (⟨"ReadAhead$Foresight", "number", "(LReadAhead$House;I)Z"⟩, 9) := ⟨⟨by decide +kernel, by decide +kernel⟩, List.mem_of_getElem? (i := 179) (by decide +kernel), List.mem_of_getElem? (i := 414) (by decide +kernel), List.mem_of_getElem? (i := 415) (by decide +kernel)⟩
theorem lw_p13 : lw_okq (⟨"ReadAhead$Foresight", "passAsk", "(II)V"⟩, 9) := ⟨⟨by decide +kernel, by decide +kernel⟩, List.mem_of_getElem? (i := 179) (by decide +kernel), List.mem_of_getElem? (i := 431) (by decide +kernel), List.mem_of_getElem? (i := 432) (by decide +kernel)⟩
theorem lw_p14 : lw_okq (⟨"ReadAhead$Foresight", "serveUpTo", "(I)V"⟩, 9) := ⟨⟨by decide +kernel, by decide +kernel⟩, List.mem_of_getElem? (i := 179) (by decide +kernel), List.mem_of_getElem? (i := 438) (by decide +kernel), List.mem_of_getElem? (i := 439) (by decide +kernel)⟩
theorem lw_p15 : lw_okq (⟨"ReadAhead$Foresight", "serveOneOrNone", "()V"⟩, 9) := ⟨⟨by decide +kernel, by decide +kernel⟩, List.mem_of_getElem? (i := 179) (by decide +kernel), List.mem_of_getElem? (i := 442) (by decide +kernel), List.mem_of_getElem? (i := 443) (by decide +kernel)⟩
def lw_privs_1 : List (MethodName × Nat) := [(⟨"ReadAhead", "toldOfAll", "(I)I"⟩, 4), (⟨"ReadAhead", "toldOfOne", "(II)I"⟩, 4), (⟨"ReadAhead$House", "demand", "(II)V"⟩, 11), (⟨"ReadAhead$House", "serve", "(III)I"⟩, 11), (⟨"ReadAhead$House", "leaver", "(I)I"⟩, 11), (⟨"ReadAhead$House", "turnAway", "(II)V"⟩, 11), (⟨"ReadAhead$House", "letGo", "(I)V"⟩, 11), (⟨"ReadAhead$House", "hit", "(II)V"⟩, 11), (⟨"ReadAhead$House", "wish", "(II)V"⟩, 11), (⟨"ReadAhead$House", "wishBySteps", "(IIII)V"⟩, 11), (⟨"ReadAhead$House", "wishOne", "(II)V"⟩, 11), (⟨"ReadAhead$House", "wishWhatFollowed", "(II)V"⟩, 11), (⟨"ReadAhead$Foresight", "number", "(LReadAhead$House;I)Z"⟩, 9), (⟨"ReadAhead$Foresight", "passAsk", "(II)V"⟩, 9), (⟨"ReadAhead$Foresight", "serveUpTo", "(I)V"⟩, 9), (⟨"ReadAhead$Foresight", "serveOneOrNone", "()V"⟩, 9)]
theorem lw_r1 : ∀ q ∈ lw_privs_1, lw_okq q := List.forall_mem_cons.mpr ⟨lw_p0, List.forall_mem_cons.mpr ⟨lw_p1, List.forall_mem_cons.mpr ⟨lw_p2, List.forall_mem_cons.mpr ⟨lw_p3, List.forall_mem_cons.mpr ⟨lw_p4, List.forall_mem_cons.mpr ⟨lw_p5, List.forall_mem_cons.mpr ⟨lw_p6, List.forall_mem_cons.mpr ⟨lw_p7, List.forall_mem_cons.mpr ⟨lw_p8, List.forall_mem_cons.mpr ⟨lw_p9, List.forall_mem_cons.mpr ⟨lw_p10, List.forall_mem_cons.mpr ⟨lw_p11, List.forall_mem_cons.mpr ⟨lw_p12, List.forall_mem_cons.mpr ⟨lw_p13, List.forall_mem_cons.mpr ⟨lw_p14, List.forall_mem_cons.mpr ⟨lw_p15, fun _ h => absurd h List.not_mem_nil⟩⟩⟩⟩⟩⟩⟩⟩⟩⟩⟩⟩⟩⟩⟩⟩
theorem lw_p16 : lw_okq (⟨"ReadAhead$Foresight", "passTick", "(I)V"⟩, 9) := ⟨⟨by decide +kernel, by decide +kernel⟩, List.mem_of_getElem? (i := 179) (by decide +kernel), List.mem_of_getElem? (i := 446) (by decide +kernel), List.mem_of_getElem? (i := 447) (by decide +kernel)⟩
theorem lw_p17 : lw_okq (⟨"ReadAhead$Foresight", "dropDearer", "(I)V"⟩, 9) := ⟨⟨by decide +kernel, by decide +kernel⟩, List.mem_of_getElem? (i := 179) (by decide +kernel), List.mem_of_getElem? (i := 450) (by decide +kernel), List.mem_of_getElem? (i := 451) (by decide +kernel)⟩
theorem lw_p18 : lw_okq (⟨"ReadAhead$Foresight", "cheapest", "(I)I"⟩, 9) := ⟨⟨by decide +kernel, by decide +kernel⟩, List.mem_of_getElem? (i := 179) (by decide +kernel), List.mem_of_getElem? (i := 454) (by decide +kernel), List.mem_of_getElem? (i := 455) (by decide +kernel)⟩
theorem lw_p19 : lw_okq (⟨"ReadAheadModel", "begin", "(III)V"⟩, 39) := ⟨⟨by decide +kernel, by decide +kernel⟩, List.mem_of_getElem? (i := 499) (by decide +kernel), List.mem_of_getElem? (i := 505) (by decide +kernel), List.mem_of_getElem? (i := 506) (by decide +kernel)⟩
theorem lw_p20 : lw_okq (⟨"ReadAheadModel", "sum", "(I)I"⟩, 39) := ⟨⟨by decide +kernel, by decide +kernel⟩, List.mem_of_getElem? (i := 499) (by decide +kernel), List.mem_of_getElem? (i := 637) (by decide +kernel), List.mem_of_getElem? (i := 638) (by decide +kernel)⟩
theorem lw_p21 : lw_okq (⟨"ReadAheadModel", "placeOf", "(I)I"⟩, 39) := ⟨⟨by decide +kernel, by decide +kernel⟩, List.mem_of_getElem? (i := 499) (by decide +kernel), List.mem_of_getElem? (i := 666) (by decide +kernel), List.mem_of_getElem? (i := 667) (by decide +kernel)⟩
theorem lw_p22 : lw_okq (⟨"ReadAheadModel", "hit", "(II)V"⟩, 39) := ⟨⟨by decide +kernel, by decide +kernel⟩, List.mem_of_getElem? (i := 499) (by decide +kernel), List.mem_of_getElem? (i := 670) (by decide +kernel), List.mem_of_getElem? (i := 671) (by decide +kernel)⟩
theorem lw_p23 : lw_okq (⟨"ReadAheadModel", "drop", "(I)V"⟩, 39) := ⟨⟨by decide +kernel, by decide +kernel⟩, List.mem_of_getElem? (i := 499) (by decide +kernel), List.mem_of_getElem? (i := 674) (by decide +kernel), List.mem_of_getElem? (i := 675) (by decide +kernel)⟩
theorem lw_p24 : lw_okq (⟨"ReadAheadModel", "waitOf", "(I)I"⟩, 39) := ⟨⟨by decide +kernel, by decide +kernel⟩, List.mem_of_getElem? (i := 499) (by decide +kernel), List.mem_of_getElem? (i := 678) (by decide +kernel), List.mem_of_getElem? (i := 679) (by decide +kernel)⟩
theorem lw_p25 : lw_okq (⟨"ReadAheadModel", "unwait", "(I)V"⟩, 39) := ⟨⟨by decide +kernel, by decide +kernel⟩, List.mem_of_getElem? (i := 499) (by decide +kernel), List.mem_of_getElem? (i := 682) (by decide +kernel), List.mem_of_getElem? (i := 683) (by decide +kernel)⟩
theorem lw_p26 : lw_okq (⟨"ReadAheadModel", "tick", "()V"⟩, 39) := ⟨⟨by decide +kernel, by decide +kernel⟩, List.mem_of_getElem? (i := 499) (by decide +kernel), List.mem_of_getElem? (i := 686) (by decide +kernel), List.mem_of_getElem? (i := 687) (by decide +kernel)⟩
theorem lw_p27 : lw_okq (⟨"ReadAheadModel", "serve", "(IIZ)V"⟩, 39) := ⟨⟨by decide +kernel, by decide +kernel⟩, List.mem_of_getElem? (i := 499) (by decide +kernel), List.mem_of_getElem? (i := 690) (by decide +kernel), List.mem_of_getElem? (i := 691) (by decide +kernel)⟩
theorem lw_p28 : lw_okq (⟨"ReadAheadModel", "makesRoom", "(I)Z"⟩, 39) := ⟨⟨by decide +kernel, by decide +kernel⟩, List.mem_of_getElem? (i := 499) (by decide +kernel), List.mem_of_getElem? (i := 694) (by decide +kernel), List.mem_of_getElem? (i := 695) (by decide +kernel)⟩
theorem lw_p29 : lw_okq (⟨"ReadAheadModel", "owned", "(I)I"⟩, 39) := ⟨⟨by decide +kernel, by decide +kernel⟩, List.mem_of_getElem? (i := 499) (by decide +kernel), List.mem_of_getElem? (i := 698) (by decide +kernel), List.mem_of_getElem? (i := 699) (by decide +kernel)⟩
theorem lw_p30 : lw_okq (⟨"ReadAheadModel", "isLeft", "(I)Z"⟩, 39) := ⟨⟨by decide +kernel, by decide +kernel⟩, List.mem_of_getElem? (i := 499) (by decide +kernel), List.mem_of_getElem? (i := 702) (by decide +kernel), List.mem_of_getElem? (i := 703) (by decide +kernel)⟩
theorem lw_p31 : lw_okq (⟨"ReadAheadModel", "waste", "(I)V"⟩, 39) := ⟨⟨by decide +kernel, by decide +kernel⟩, List.mem_of_getElem? (i := 499) (by decide +kernel), List.mem_of_getElem? (i := 706) (by decide +kernel), List.mem_of_getElem? (i := 707) (by decide +kernel)⟩
def lw_privs_2 : List (MethodName × Nat) := [(⟨"ReadAhead$Foresight", "passTick", "(I)V"⟩, 9), (⟨"ReadAhead$Foresight", "dropDearer", "(I)V"⟩, 9), (⟨"ReadAhead$Foresight", "cheapest", "(I)I"⟩, 9), (⟨"ReadAheadModel", "begin", "(III)V"⟩, 39), (⟨"ReadAheadModel", "sum", "(I)I"⟩, 39), (⟨"ReadAheadModel", "placeOf", "(I)I"⟩, 39), (⟨"ReadAheadModel", "hit", "(II)V"⟩, 39), (⟨"ReadAheadModel", "drop", "(I)V"⟩, 39), (⟨"ReadAheadModel", "waitOf", "(I)I"⟩, 39), (⟨"ReadAheadModel", "unwait", "(I)V"⟩, 39), (⟨"ReadAheadModel", "tick", "()V"⟩, 39), (⟨"ReadAheadModel", "serve", "(IIZ)V"⟩, 39), (⟨"ReadAheadModel", "makesRoom", "(I)Z"⟩, 39), (⟨"ReadAheadModel", "owned", "(I)I"⟩, 39), (⟨"ReadAheadModel", "isLeft", "(I)Z"⟩, 39), (⟨"ReadAheadModel", "waste", "(I)V"⟩, 39)]
theorem lw_r2 : ∀ q ∈ lw_privs_2, lw_okq q := List.forall_mem_cons.mpr ⟨lw_p16, List.forall_mem_cons.mpr ⟨lw_p17, List.forall_mem_cons.mpr ⟨lw_p18, List.forall_mem_cons.mpr ⟨lw_p19, List.forall_mem_cons.mpr ⟨lw_p20, List.forall_mem_cons.mpr ⟨lw_p21, List.forall_mem_cons.mpr ⟨lw_p22, List.forall_mem_cons.mpr ⟨lw_p23, List.forall_mem_cons.mpr ⟨lw_p24, List.forall_mem_cons.mpr ⟨lw_p25, List.forall_mem_cons.mpr ⟨lw_p26, List.forall_mem_cons.mpr ⟨lw_p27, List.forall_mem_cons.mpr ⟨lw_p28, List.forall_mem_cons.mpr ⟨lw_p29, List.forall_mem_cons.mpr ⟨lw_p30, List.forall_mem_cons.mpr ⟨lw_p31, fun _ h => absurd h List.not_mem_nil⟩⟩⟩⟩⟩⟩⟩⟩⟩⟩⟩⟩⟩⟩⟩⟩
theorem lw_p32 : lw_okq (⟨"ReadAheadModel", "nearest", "()I"⟩, 39) := ⟨⟨by decide +kernel, by decide +kernel⟩, List.mem_of_getElem? (i := 499) (by decide +kernel), List.mem_of_getElem? (i := 710) (by decide +kernel), List.mem_of_getElem? (i := 711) (by decide +kernel)⟩
theorem lw_p33 : lw_okq (⟨"ReadAheadModel", "wishAll", "(IIIZ)V"⟩, 39) := ⟨⟨by decide +kernel, by decide +kernel⟩, List.mem_of_getElem? (i := 499) (by decide +kernel), List.mem_of_getElem? (i := 714) (by decide +kernel), List.mem_of_getElem? (i := 715) (by decide +kernel)⟩
theorem lw_p34 : lw_okq (⟨"ReadAheadModel", "reachOf", "(I)I"⟩, 39) := ⟨⟨by decide +kernel, by decide +kernel⟩, List.mem_of_getElem? (i := 499) (by decide +kernel), List.mem_of_getElem? (i := 718) (by decide +kernel), List.mem_of_getElem? (i := 719) (by decide +kernel)⟩
theorem lw_p35 : lw_okq (⟨"ReadAheadModel", "wish", "(II)V"⟩, 39) := ⟨⟨by decide +kernel, by decide +kernel⟩, List.mem_of_getElem? (i := 499) (by decide +kernel), List.mem_of_getElem? (i := 722) (by decide +kernel), List.mem_of_getElem? (i := 723) (by decide +kernel)⟩
theorem lw_p36 : lw_okq (⟨"ReadAheadModel", "toldOf", "(II)I"⟩, 39) := ⟨⟨by decide +kernel, by decide +kernel⟩, List.mem_of_getElem? (i := 499) (by decide +kernel), List.mem_of_getElem? (i := 736) (by decide +kernel), List.mem_of_getElem? (i := 737) (by decide +kernel)⟩
theorem lw_p37 : lw_okq (⟨"ReadAheadModel", "waitsOf", "(I)I"⟩, 39) := ⟨⟨by decide +kernel, by decide +kernel⟩, List.mem_of_getElem? (i := 499) (by decide +kernel), List.mem_of_getElem? (i := 740) (by decide +kernel), List.mem_of_getElem? (i := 741) (by decide +kernel)⟩
theorem lw_p38 : lw_okq (⟨"ReadAheadModel", "indexOf", "(I)I"⟩, 39) := ⟨⟨by decide +kernel, by decide +kernel⟩, List.mem_of_getElem? (i := 499) (by decide +kernel), List.mem_of_getElem? (i := 769) (by decide +kernel), List.mem_of_getElem? (i := 770) (by decide +kernel)⟩
theorem lw_p39 : lw_okq (⟨"ReadAheadModel", "findSets", "(IIZ)V"⟩, 39) := ⟨⟨by decide +kernel, by decide +kernel⟩, List.mem_of_getElem? (i := 499) (by decide +kernel), List.mem_of_getElem? (i := 773) (by decide +kernel), List.mem_of_getElem? (i := 774) (by decide +kernel)⟩
theorem lw_p40 : lw_okq (⟨"ReadAheadModel", "addSets", "(I)V"⟩, 39) := ⟨⟨by decide +kernel, by decide +kernel⟩, List.mem_of_getElem? (i := 499) (by decide +kernel), List.mem_of_getElem? (i := 777) (by decide +kernel), List.mem_of_getElem? (i := 778) (by decide +kernel)⟩
theorem lw_p41 : lw_okq (⟨"ReadAheadModel", "askFor", "(I)V"⟩, 39) := ⟨⟨by decide +kernel, by decide +kernel⟩, List.mem_of_getElem? (i := 499) (by decide +kernel), List.mem_of_getElem? (i := 785) (by decide +kernel), List.mem_of_getElem? (i := 786) (by decide +kernel)⟩
theorem lw_p42 : lw_okq (⟨"ReadAheadModel", "lay", "(I)V"⟩, 39) := ⟨⟨by decide +kernel, by decide +kernel⟩, List.mem_of_getElem? (i := 499) (by decide +kernel), List.mem_of_getElem? (i := 793) (by decide +kernel), List.mem_of_getElem? (i := 794) (by decide +kernel)⟩
theorem lw_p43 : lw_okq (⟨"ReadAheadModel", "take", "()I"⟩, 39) := ⟨⟨by decide +kernel, by decide +kernel⟩, List.mem_of_getElem? (i := 499) (by decide +kernel), List.mem_of_getElem? (i := 801) (by decide +kernel), List.mem_of_getElem? (i := 802) (by decide +kernel)⟩
theorem lw_p44 : lw_okq (⟨"ReadAheadModel", "digested", "(II)I"⟩, 39) := ⟨⟨by decide +kernel, by decide +kernel⟩, List.mem_of_getElem? (i := 499) (by decide +kernel), List.mem_of_getElem? (i := 809) (by decide +kernel), List.mem_of_getElem? (i := 810) (by decide +kernel)⟩
def lw_privs_3 : List (MethodName × Nat) := [(⟨"ReadAheadModel", "nearest", "()I"⟩, 39), (⟨"ReadAheadModel", "wishAll", "(IIIZ)V"⟩, 39), (⟨"ReadAheadModel", "reachOf", "(I)I"⟩, 39), (⟨"ReadAheadModel", "wish", "(II)V"⟩, 39), (⟨"ReadAheadModel", "toldOf", "(II)I"⟩, 39), (⟨"ReadAheadModel", "waitsOf", "(I)I"⟩, 39), (⟨"ReadAheadModel", "indexOf", "(I)I"⟩, 39), (⟨"ReadAheadModel", "findSets", "(IIZ)V"⟩, 39), (⟨"ReadAheadModel", "addSets", "(I)V"⟩, 39), (⟨"ReadAheadModel", "askFor", "(I)V"⟩, 39), (⟨"ReadAheadModel", "lay", "(I)V"⟩, 39), (⟨"ReadAheadModel", "take", "()I"⟩, 39), (⟨"ReadAheadModel", "digested", "(II)I"⟩, 39)]
theorem lw_r3 : ∀ q ∈ lw_privs_3, lw_okq q := List.forall_mem_cons.mpr ⟨lw_p32, List.forall_mem_cons.mpr ⟨lw_p33, List.forall_mem_cons.mpr ⟨lw_p34, List.forall_mem_cons.mpr ⟨lw_p35, List.forall_mem_cons.mpr ⟨lw_p36, List.forall_mem_cons.mpr ⟨lw_p37, List.forall_mem_cons.mpr ⟨lw_p38, List.forall_mem_cons.mpr ⟨lw_p39, List.forall_mem_cons.mpr ⟨lw_p40, List.forall_mem_cons.mpr ⟨lw_p41, List.forall_mem_cons.mpr ⟨lw_p42, List.forall_mem_cons.mpr ⟨lw_p43, List.forall_mem_cons.mpr ⟨lw_p44, fun _ h => absurd h List.not_mem_nil⟩⟩⟩⟩⟩⟩⟩⟩⟩⟩⟩⟩⟩
def lw_privs : List (MethodName × Nat) := lw_privs_1 ++ (lw_privs_2 ++ (lw_privs_3))
def lw_tbl : List Cond := k2_sels lw_privs ++ tables_1
theorem lw_privs_ok : ∀ q ∈ lw_privs, lw_okq q := by
  show ∀ q ∈ lw_privs_1 ++ (lw_privs_2 ++ (lw_privs_3)), lw_okq q
  exact List.forall_mem_append.mpr ⟨lw_r1, List.forall_mem_append.mpr ⟨lw_r2, lw_r3⟩⟩

def RX0 : String := "ReadAhead$Asker"
def TX0 : u_T := fun k => match k with
  | 0 => ("ReadAhead$Asker", "counts", "[I", true)
  | 1 => ("ReadAhead$Asker", "behind", "[I", true)
  | 2 => ("ReadAhead$Asker", "kind", "I", false)
  | 3 => ("ReadAhead$Asker", "reach", "I", false)
  | 4 => ("ReadAhead$Asker", "share", "I", false)
  | 5 => ("ReadAhead$Asker", "from", "I", false)
  | 6 => ("ReadAhead$Asker", "to", "I", false)
  | 7 => ("ReadAhead$Asker", "last", "I", false)
  | 8 => ("ReadAhead$Asker", "step", "I", false)
  | _ => ("ReadAhead$Asker", "stepBefore", "I", false)
def tyX0 : Nat → FieldType := fun k => match k with
  | 0 => .array .int
  | 1 => .array .int
  | 2 => .int
  | 3 => .int
  | 4 => .int
  | 5 => .int
  | 6 => .int
  | 7 => .int
  | 8 => .int
  | _ => .int
abbrev wsX00 : List Cond := u_ws RX0 TX0 10
theorem nmX0 : ∀ a, a < 10 → ∀ b, b < 10 → a ≠ b → (TX0 a).2.1 ≠ (TX0 b).2.1 := by decide +kernel
theorem tyX0_ok : ∀ k, k < 10 → parseFieldDescriptor (TX0 k).2.2.1 = some (tyX0 k) := by decide +kernel
abbrev cX0_init : ByteArray := prog_2_method_1_code
def yX0_init : MethodName := ⟨RX0, "<init>", "()V"⟩
abbrev cX0_begin : ByteArray := prog_2_method_2_code
def yX0_begin : MethodName := ⟨RX0, "begin", "()V"⟩
abbrev cX0_copyFrom : ByteArray := prog_2_method_3_code
def yX0_copyFrom : MethodName := ⟨RX0, "copyFrom", "(LReadAhead$Asker;)V"⟩
abbrev cX0_become : ByteArray := prog_2_method_4_code
def yX0_become : MethodName := ⟨RX0, "become", "(II)V"⟩
abbrev cX0_spans : ByteArray := prog_2_method_5_code
def yX0_spans : MethodName := ⟨RX0, "spans", "(I)Z"⟩
abbrev cX0_hasLeft : ByteArray := prog_2_method_6_code
def yX0_hasLeft : MethodName := ⟨RX0, "hasLeft", "(I)Z"⟩
abbrev cX0_countWasted : ByteArray := prog_2_method_7_code
def yX0_countWasted : MethodName := ⟨RX0, "countWasted", "()V"⟩
abbrev cX0_countSaved : ByteArray := prog_2_method_8_code
def yX0_countSaved : MethodName := ⟨RX0, "countSaved", "()V"⟩
abbrev cX0_learn : ByteArray := prog_2_method_9_code
def yX0_learn : MethodName := ⟨RX0, "learn", "(I)V"⟩
abbrev cX0_isSteady : ByteArray := prog_2_method_10_code
def yX0_isSteady : MethodName := ⟨RX0, "isSteady", "()Z"⟩
def RX1 : String := "ReadAhead$Foresight"
def TX1 : u_T := fun k => match k with
  | 0 => ("ReadAhead$Foresight", "unlike", "[I", true)
  | 1 => ("ReadAhead$Foresight", "wanted", "[I", true)
  | 2 => ("ReadAhead$Foresight", "lows", "[J", true)
  | 3 => ("ReadAhead$Foresight", "highs", "[J", true)
  | 4 => ("ReadAhead$Foresight", "low", "J", false)
  | 5 => ("ReadAhead$Foresight", "high", "J", false)
  | 6 => ("ReadAhead$Foresight", "fullLow", "J", false)
  | 7 => ("ReadAhead$Foresight", "fullHigh", "J", false)
  | _ => ("ReadAhead$Foresight", "speed", "I", false)
def tyX1 : Nat → FieldType := fun k => match k with
  | 0 => .array .int
  | 1 => .array .int
  | 2 => .array .long
  | 3 => .array .long
  | 4 => .long
  | 5 => .long
  | 6 => .long
  | 7 => .long
  | _ => .int
abbrev wsX10 : List Cond := u_ws RX1 TX1 9
theorem nmX1 : ∀ a, a < 9 → ∀ b, b < 9 → a ≠ b → (TX1 a).2.1 ≠ (TX1 b).2.1 := by decide +kernel
theorem tyX1_ok : ∀ k, k < 9 → parseFieldDescriptor (TX1 k).2.2.1 = some (tyX1 k) := by decide +kernel
abbrev cX1_init : ByteArray := prog_3_method_1_code
def yX1_init : MethodName := ⟨RX1, "<init>", "()V"⟩
abbrev cX1_leastStalls : ByteArray := prog_3_method_2_code
def yX1_leastStalls : MethodName := ⟨RX1, "leastStalls", "(LReadAhead$House;I)I"⟩
abbrev cX1_number : ByteArray := prog_3_method_3_code
def yX1_number : MethodName := ⟨RX1, "number", "(LReadAhead$House;I)Z"⟩
abbrev cX1_sized : ByteArray := prog_3_method_4_code
def yX1_sized : MethodName := ⟨RX1, "sized", "(I)J"⟩
abbrev cX1_passAsk : ByteArray := prog_3_method_5_code
def yX1_passAsk : MethodName := ⟨RX1, "passAsk", "(II)V"⟩
abbrev cX1_passTick : ByteArray := prog_3_method_6_code
def yX1_passTick : MethodName := ⟨RX1, "passTick", "(I)V"⟩
abbrev cX1_dropDearer : ByteArray := prog_3_method_7_code
def yX1_dropDearer : MethodName := ⟨RX1, "dropDearer", "(I)V"⟩
abbrev cX1_cheapest : ByteArray := prog_3_method_8_code
def yX1_cheapest : MethodName := ⟨RX1, "cheapest", "(I)I"⟩
abbrev cX1_serveUpTo : ByteArray := prog_3_method_9_code
def yX1_serveUpTo : MethodName := ⟨RX1, "serveUpTo", "(I)V"⟩
abbrev cX1_serveOneOrNone : ByteArray := prog_3_method_10_code
def yX1_serveOneOrNone : MethodName := ⟨RX1, "serveOneOrNone", "()V"⟩
def RX2 : String := "ReadAhead$Held"
def TX2 : u_T := fun k => match k with
  | 0 => ("ReadAhead$Held", "block", "[I", true)
  | 1 => ("ReadAhead$Held", "asker", "[I", true)
  | 2 => ("ReadAhead$Held", "fresh", "[I", true)
  | 3 => ("ReadAhead$Held", "heldFor", "[I", true)
  | _ => ("ReadAhead$Held", "count", "I", false)
def tyX2 : Nat → FieldType := fun k => match k with
  | 0 => .array .int
  | 1 => .array .int
  | 2 => .array .int
  | 3 => .array .int
  | _ => .int
abbrev wsX20 : List Cond := u_ws RX2 TX2 5
theorem nmX2 : ∀ a, a < 5 → ∀ b, b < 5 → a ≠ b → (TX2 a).2.1 ≠ (TX2 b).2.1 := by decide +kernel
theorem tyX2_ok : ∀ k, k < 5 → parseFieldDescriptor (TX2 k).2.2.1 = some (tyX2 k) := by decide +kernel
abbrev cX2_init : ByteArray := prog_4_method_1_code
def yX2_init : MethodName := ⟨RX2, "<init>", "(I)V"⟩
abbrev cX2_empty : ByteArray := prog_4_method_2_code
def yX2_empty : MethodName := ⟨RX2, "empty", "()V"⟩
abbrev cX2_copyFrom : ByteArray := prog_4_method_3_code
def yX2_copyFrom : MethodName := ⟨RX2, "copyFrom", "(LReadAhead$Held;)V"⟩
abbrev cX2_hasPlace : ByteArray := prog_4_method_4_code
def yX2_hasPlace : MethodName := ⟨RX2, "hasPlace", "()Z"⟩
abbrev cX2_find : ByteArray := prog_4_method_5_code
def yX2_find : MethodName := ⟨RX2, "find", "(I)I"⟩
abbrev cX2_add : ByteArray := prog_4_method_6_code
def yX2_add : MethodName := ⟨RX2, "add", "(III)V"⟩
abbrev cX2_remove : ByteArray := prog_4_method_7_code
def yX2_remove : MethodName := ⟨RX2, "remove", "(I)V"⟩
abbrev cX2_nearest : ByteArray := prog_4_method_8_code
def yX2_nearest : MethodName := ⟨RX2, "nearest", "(I)I"⟩
def RX3 : String := "ReadAhead$House"
def TX3 : u_T := fun k => match k with
  | 0 => ("ReadAhead$House", "room", "LReadAhead$Held;", true)
  | 1 => ("ReadAhead$House", "line", "LReadAhead$Held;", true)
  | 2 => ("ReadAhead$House", "askers", "[LReadAhead$Asker;", true)
  | 3 => ("ReadAhead$House", "row", "[I", true)
  | 4 => ("ReadAhead$House", "space", "I", false)
  | 5 => ("ReadAhead$House", "speed", "I", false)
  | 6 => ("ReadAhead$House", "pace", "I", false)
  | 7 => ("ReadAhead$House", "arm", "I", false)
  | 8 => ("ReadAhead$House", "way", "I", false)
  | 9 => ("ReadAhead$House", "ticks", "I", false)
  | _ => ("ReadAhead$House", "asks", "I", false)
def tyX3 : Nat → FieldType := fun k => match k with
  | 0 => .object "ReadAhead$Held"
  | 1 => .object "ReadAhead$Held"
  | 2 => .array (.object "ReadAhead$Asker")
  | 3 => .array .int
  | 4 => .int
  | 5 => .int
  | 6 => .int
  | 7 => .int
  | 8 => .int
  | 9 => .int
  | _ => .int
abbrev wsX30 : List Cond := u_ws RX3 TX3 11
theorem nmX3 : ∀ a, a < 11 → ∀ b, b < 11 → a ≠ b → (TX3 a).2.1 ≠ (TX3 b).2.1 := by decide +kernel
theorem tyX3_ok : ∀ k, k < 11 → parseFieldDescriptor (TX3 k).2.2.1 = some (tyX3 k) := by decide +kernel
abbrev cX3_init : ByteArray := prog_5_method_1_code
def yX3_init : MethodName := ⟨RX3, "<init>", "()V"⟩
abbrev cX3_begin : ByteArray := prog_5_method_2_code
def yX3_begin : MethodName := ⟨RX3, "begin", "(III)V"⟩
abbrev cX3_copyFrom : ByteArray := prog_5_method_3_code
def yX3_copyFrom : MethodName := ⟨RX3, "copyFrom", "(LReadAhead$House;)V"⟩
abbrev cX3_answer : ByteArray := prog_5_method_4_code
def yX3_answer : MethodName := ⟨RX3, "answer", "(II)I"⟩
abbrev cX3_hit : ByteArray := prog_5_method_5_code
def yX3_hit : MethodName := ⟨RX3, "hit", "(II)V"⟩
abbrev cX3_demand : ByteArray := prog_5_method_6_code
def yX3_demand : MethodName := ⟨RX3, "demand", "(II)V"⟩
abbrev cX3_tick : ByteArray := prog_5_method_7_code
def yX3_tick : MethodName := ⟨RX3, "tick", "(II)I"⟩
abbrev cX3_serve : ByteArray := prog_5_method_8_code
def yX3_serve : MethodName := ⟨RX3, "serve", "(III)I"⟩
abbrev cX3_leaver : ByteArray := prog_5_method_9_code
def yX3_leaver : MethodName := ⟨RX3, "leaver", "(I)I"⟩
abbrev cX3_letGo : ByteArray := prog_5_method_10_code
def yX3_letGo : MethodName := ⟨RX3, "letGo", "(I)V"⟩
abbrev cX3_turnAway : ByteArray := prog_5_method_11_code
def yX3_turnAway : MethodName := ⟨RX3, "turnAway", "(II)V"⟩
abbrev cX3_wish : ByteArray := prog_5_method_12_code
def yX3_wish : MethodName := ⟨RX3, "wish", "(II)V"⟩
abbrev cX3_wishBySteps : ByteArray := prog_5_method_13_code
def yX3_wishBySteps : MethodName := ⟨RX3, "wishBySteps", "(IIII)V"⟩
abbrev cX3_wishWhatFollowed : ByteArray := prog_5_method_14_code
def yX3_wishWhatFollowed : MethodName := ⟨RX3, "wishWhatFollowed", "(II)V"⟩
abbrev cX3_wishOne : ByteArray := prog_5_method_15_code
def yX3_wishOne : MethodName := ⟨RX3, "wishOne", "(II)V"⟩
abbrev cX3_asked : ByteArray := prog_5_method_16_code
def yX3_asked : MethodName := ⟨RX3, "asked", "(I)I"⟩
abbrev cX3_placeInRow : ByteArray := prog_5_method_17_code
def yX3_placeInRow : MethodName := ⟨RX3, "placeInRow", "(I)I"⟩
def RX4 : String := "ReadAhead"
def TX4 : u_T := fun k => match k with
  | 0 => ("ReadAhead", "now", "LReadAhead$House;", true)
  | 1 => ("ReadAhead", "shelves", "[LReadAhead$House;", true)
  | 2 => ("ReadAhead", "filled", "[Z", true)
  | _ => ("ReadAhead", "best", "LReadAhead$Foresight;", true)
def tyX4 : Nat → FieldType := fun k => match k with
  | 0 => .object "ReadAhead$House"
  | 1 => .array (.object "ReadAhead$House")
  | 2 => .array .boolean
  | _ => .object "ReadAhead$Foresight"
abbrev wsX40 : List Cond := u_ws RX4 TX4 4
theorem nmX4 : ∀ a, a < 4 → ∀ b, b < 4 → a ≠ b → (TX4 a).2.1 ≠ (TX4 b).2.1 := by decide +kernel
theorem tyX4_ok : ∀ k, k < 4 → parseFieldDescriptor (TX4 k).2.2.1 = some (tyX4 k) := by decide +kernel
abbrev cX4_init : ByteArray := prog_1_method_1_code
def yX4_init : MethodName := ⟨RX4, "<init>", "()V"⟩
abbrev cX4_clear : ByteArray := prog_1_method_2_code
def yX4_clear : MethodName := ⟨RX4, "clear", "(III)I"⟩
abbrev cX4_share : ByteArray := prog_1_method_3_code
def yX4_share : MethodName := ⟨RX4, "share", "(II)I"⟩
abbrev cX4_kind : ByteArray := prog_1_method_4_code
def yX4_kind : MethodName := ⟨RX4, "kind", "(III)I"⟩
abbrev cX4_hint : ByteArray := prog_1_method_5_code
def yX4_hint : MethodName := ⟨RX4, "hint", "(III)I"⟩
abbrev cX4_ask : ByteArray := prog_1_method_6_code
def yX4_ask : MethodName := ⟨RX4, "ask", "(II)I"⟩
abbrev cX4_idle : ByteArray := prog_1_method_7_code
def yX4_idle : MethodName := ⟨RX4, "idle", "(I)I"⟩
abbrev cX4_told : ByteArray := prog_1_method_8_code
def yX4_told : MethodName := ⟨RX4, "told", "(II)I"⟩
abbrev cX4_reach : ByteArray := prog_1_method_9_code
def yX4_reach : MethodName := ⟨RX4, "reach", "(I)I"⟩
abbrev cX4_room : ByteArray := prog_1_method_10_code
def yX4_room : MethodName := ⟨RX4, "room", "(II)I"⟩
abbrev cX4_waiting : ByteArray := prog_1_method_11_code
def yX4_waiting : MethodName := ⟨RX4, "waiting", "(II)I"⟩
abbrev cX4_follows : ByteArray := prog_1_method_12_code
def yX4_follows : MethodName := ⟨RX4, "follows", "(II)I"⟩
abbrev cX4_house : ByteArray := prog_1_method_13_code
def yX4_house : MethodName := ⟨RX4, "house", "(I)I"⟩
abbrev cX4_foresight : ByteArray := prog_1_method_14_code
def yX4_foresight : MethodName := ⟨RX4, "foresight", "(I)I"⟩
abbrev cX4_keep : ByteArray := prog_1_method_15_code
def yX4_keep : MethodName := ⟨RX4, "keep", "(I)I"⟩
abbrev cX4_back : ByteArray := prog_1_method_16_code
def yX4_back : MethodName := ⟨RX4, "back", "(I)I"⟩
abbrev cX4_digest : ByteArray := prog_1_method_17_code
def yX4_digest : MethodName := ⟨RX4, "digest", "()I"⟩
abbrev cX4_mixed : ByteArray := prog_1_method_18_code
def yX4_mixed : MethodName := ⟨RX4, "mixed", "(II)I"⟩
abbrev cX4_mixedHeld : ByteArray := prog_1_method_19_code
def yX4_mixedHeld : MethodName := ⟨RX4, "mixedHeld", "(ILReadAhead$Held;Z)I"⟩
abbrev cX4_mixedAsker : ByteArray := prog_1_method_20_code
def yX4_mixedAsker : MethodName := ⟨RX4, "mixedAsker", "(ILReadAhead$Asker;)I"⟩
abbrev cX4_toldOfAll : ByteArray := prog_1_method_21_code
def yX4_toldOfAll : MethodName := ⟨RX4, "toldOfAll", "(I)I"⟩
abbrev cX4_toldOfOne : ByteArray := prog_1_method_22_code
def yX4_toldOfOne : MethodName := ⟨RX4, "toldOfOne", "(II)I"⟩
abbrev cX4_within : ByteArray := prog_1_method_23_code
def yX4_within : MethodName := ⟨RX4, "within", "(III)Z"⟩
abbrev cX4_isAsker : ByteArray := prog_1_method_24_code
def yX4_isAsker : MethodName := ⟨RX4, "isAsker", "(I)Z"⟩
abbrev cX4_isBlock : ByteArray := prog_1_method_25_code
def yX4_isBlock : MethodName := ⟨RX4, "isBlock", "(I)Z"⟩
abbrev cX4_isShelf : ByteArray := prog_1_method_26_code
def yX4_isShelf : MethodName := ⟨RX4, "isShelf", "(I)Z"⟩
def RX5 : String := "ReadAheadModel"
def TX5 : u_T := fun k => match k with
  | 0 => ("ReadAheadModel", "space", "I", false)
  | 1 => ("ReadAheadModel", "speed", "I", false)
  | 2 => ("ReadAheadModel", "pace", "I", false)
  | 3 => ("ReadAheadModel", "blocks", "[I", true)
  | 4 => ("ReadAheadModel", "owners", "[I", true)
  | 5 => ("ReadAheadModel", "fresh", "[Z", true)
  | 6 => ("ReadAheadModel", "many", "I", false)
  | 7 => ("ReadAheadModel", "waits", "[I", true)
  | 8 => ("ReadAheadModel", "waitFor", "[I", true)
  | 9 => ("ReadAheadModel", "waiting", "I", false)
  | 10 => ("ReadAheadModel", "arm", "I", false)
  | 11 => ("ReadAheadModel", "ticks", "I", false)
  | 12 => ("ReadAheadModel", "went", "I", false)
  | 13 => ("ReadAheadModel", "kinds", "[I", true)
  | 14 => ("ReadAheadModel", "reaches", "[I", true)
  | 15 => ("ReadAheadModel", "own", "[I", true)
  | 16 => ("ReadAheadModel", "shares", "[I", true)
  | 17 => ("ReadAheadModel", "spanFrom", "[I", true)
  | 18 => ("ReadAheadModel", "spanTo", "[I", true)
  | 19 => ("ReadAheadModel", "last", "[I", true)
  | 20 => ("ReadAheadModel", "lastStep", "[I", true)
  | 21 => ("ReadAheadModel", "followed", "[I", true)
  | 22 => ("ReadAheadModel", "counts", "[I", true)
  | 23 => ("ReadAheadModel", "row", "[I", true)
  | 24 => ("ReadAheadModel", "asked", "I", false)
  | 25 => ("ReadAheadModel", "demanded", "I", false)
  | 26 => ("ReadAheadModel", "demandedFor", "I", false)
  | 27 => ("ReadAheadModel", "came", "I", false)
  | 28 => ("ReadAheadModel", "unlike", "[I", true)
  | 29 => ("ReadAheadModel", "unlikeMany", "I", false)
  | 30 => ("ReadAheadModel", "byTick", "[Z", true)
  | 31 => ("ReadAheadModel", "byLess", "[Z", true)
  | 32 => ("ReadAheadModel", "by", "[Z", true)
  | 33 => ("ReadAheadModel", "more", "[Z", true)
  | 34 => ("ReadAheadModel", "before", "[I", true)
  | 35 => ("ReadAheadModel", "behind", "[I", true)
  | 36 => ("ReadAheadModel", "shelfSpace", "[I", true)
  | 37 => ("ReadAheadModel", "shelf", "[I", true)
  | _ => ("ReadAheadModel", "at", "I", false)
def tyX5 : Nat → FieldType := fun k => match k with
  | 0 => .int
  | 1 => .int
  | 2 => .int
  | 3 => .array .int
  | 4 => .array .int
  | 5 => .array .boolean
  | 6 => .int
  | 7 => .array .int
  | 8 => .array .int
  | 9 => .int
  | 10 => .int
  | 11 => .int
  | 12 => .int
  | 13 => .array .int
  | 14 => .array .int
  | 15 => .array .int
  | 16 => .array .int
  | 17 => .array .int
  | 18 => .array .int
  | 19 => .array .int
  | 20 => .array .int
  | 21 => .array .int
  | 22 => .array .int
  | 23 => .array .int
  | 24 => .int
  | 25 => .int
  | 26 => .int
  | 27 => .int
  | 28 => .array .int
  | 29 => .int
  | 30 => .array .boolean
  | 31 => .array .boolean
  | 32 => .array .boolean
  | 33 => .array .boolean
  | 34 => .array .int
  | 35 => .array .int
  | 36 => .array .int
  | 37 => .array .int
  | _ => .int
abbrev wsX50 : List Cond := u_ws RX5 TX5 39
theorem nmX5 : ∀ a, a < 39 → ∀ b, b < 39 → a ≠ b → (TX5 a).2.1 ≠ (TX5 b).2.1 := by decide +kernel
theorem tyX5_ok : ∀ k, k < 39 → parseFieldDescriptor (TX5 k).2.2.1 = some (tyX5 k) := by decide +kernel
abbrev cX5_init : ByteArray := prog_7_method_1_code
def yX5_init : MethodName := ⟨RX5, "<init>", "()V"⟩
abbrev cX5_in : ByteArray := prog_7_method_3_code
def yX5_in : MethodName := ⟨RX5, "in", "(JJJ)Z"⟩
abbrev cX5_isAsker : ByteArray := prog_7_method_4_code
def yX5_isAsker : MethodName := ⟨RX5, "isAsker", "(I)Z"⟩
abbrev cX5_isBlock : ByteArray := prog_7_method_5_code
def yX5_isBlock : MethodName := ⟨RX5, "isBlock", "(I)Z"⟩
abbrev cX5_begin : ByteArray := prog_7_method_6_code
def yX5_begin : MethodName := ⟨RX5, "begin", "(III)V"⟩
abbrev cX5_clear : ByteArray := prog_7_method_7_code
def yX5_clear : MethodName := ⟨RX5, "clear", "(III)I"⟩
abbrev cX5_sum : ByteArray := prog_7_method_8_code
def yX5_sum : MethodName := ⟨RX5, "sum", "(I)I"⟩
abbrev cX5_share : ByteArray := prog_7_method_9_code
def yX5_share : MethodName := ⟨RX5, "share", "(II)I"⟩
abbrev cX5_kind : ByteArray := prog_7_method_10_code
def yX5_kind : MethodName := ⟨RX5, "kind", "(III)I"⟩
abbrev cX5_hint : ByteArray := prog_7_method_11_code
def yX5_hint : MethodName := ⟨RX5, "hint", "(III)I"⟩
abbrev cX5_placeOf : ByteArray := prog_7_method_12_code
def yX5_placeOf : MethodName := ⟨RX5, "placeOf", "(I)I"⟩
abbrev cX5_waitOf : ByteArray := prog_7_method_13_code
def yX5_waitOf : MethodName := ⟨RX5, "waitOf", "(I)I"⟩
abbrev cX5_unwait : ByteArray := prog_7_method_14_code
def yX5_unwait : MethodName := ⟨RX5, "unwait", "(I)V"⟩
abbrev cX5_owned : ByteArray := prog_7_method_15_code
def yX5_owned : MethodName := ⟨RX5, "owned", "(I)I"⟩
abbrev cX5_isLeft : ByteArray := prog_7_method_16_code
def yX5_isLeft : MethodName := ⟨RX5, "isLeft", "(I)Z"⟩
abbrev cX5_waste : ByteArray := prog_7_method_17_code
def yX5_waste : MethodName := ⟨RX5, "waste", "(I)V"⟩
abbrev cX5_drop : ByteArray := prog_7_method_18_code
def yX5_drop : MethodName := ⟨RX5, "drop", "(I)V"⟩
abbrev cX5_makesRoom : ByteArray := prog_7_method_19_code
def yX5_makesRoom : MethodName := ⟨RX5, "makesRoom", "(I)Z"⟩
abbrev cX5_serve : ByteArray := prog_7_method_20_code
def yX5_serve : MethodName := ⟨RX5, "serve", "(IIZ)V"⟩
abbrev cX5_nearest : ByteArray := prog_7_method_21_code
def yX5_nearest : MethodName := ⟨RX5, "nearest", "()I"⟩
abbrev cX5_tick : ByteArray := prog_7_method_22_code
def yX5_tick : MethodName := ⟨RX5, "tick", "()V"⟩
abbrev cX5_wish : ByteArray := prog_7_method_23_code
def yX5_wish : MethodName := ⟨RX5, "wish", "(II)V"⟩
abbrev cX5_wishAll : ByteArray := prog_7_method_24_code
def yX5_wishAll : MethodName := ⟨RX5, "wishAll", "(IIIZ)V"⟩
abbrev cX5_hit : ByteArray := prog_7_method_25_code
def yX5_hit : MethodName := ⟨RX5, "hit", "(II)V"⟩
abbrev cX5_ask : ByteArray := prog_7_method_26_code
def yX5_ask : MethodName := ⟨RX5, "ask", "(II)I"⟩
abbrev cX5_idle : ByteArray := prog_7_method_27_code
def yX5_idle : MethodName := ⟨RX5, "idle", "(I)I"⟩
abbrev cX5_waitsOf : ByteArray := prog_7_method_28_code
def yX5_waitsOf : MethodName := ⟨RX5, "waitsOf", "(I)I"⟩
abbrev cX5_toldOf : ByteArray := prog_7_method_29_code
def yX5_toldOf : MethodName := ⟨RX5, "toldOf", "(II)I"⟩
abbrev cX5_told : ByteArray := prog_7_method_30_code
def yX5_told : MethodName := ⟨RX5, "told", "(II)I"⟩
abbrev cX5_reachOf : ByteArray := prog_7_method_31_code
def yX5_reachOf : MethodName := ⟨RX5, "reachOf", "(I)I"⟩
abbrev cX5_reach : ByteArray := prog_7_method_32_code
def yX5_reach : MethodName := ⟨RX5, "reach", "(I)I"⟩
abbrev cX5_room : ByteArray := prog_7_method_33_code
def yX5_room : MethodName := ⟨RX5, "room", "(II)I"⟩
abbrev cX5_waiting : ByteArray := prog_7_method_34_code
def yX5_waiting : MethodName := ⟨RX5, "waiting", "(II)I"⟩
abbrev cX5_follows : ByteArray := prog_7_method_35_code
def yX5_follows : MethodName := ⟨RX5, "follows", "(II)I"⟩
abbrev cX5_house : ByteArray := prog_7_method_36_code
def yX5_house : MethodName := ⟨RX5, "house", "(I)I"⟩
abbrev cX5_sizeOf : ByteArray := prog_7_method_37_code
def yX5_sizeOf : MethodName := ⟨RX5, "sizeOf", "(I)I"⟩
abbrev cX5_addSets : ByteArray := prog_7_method_38_code
def yX5_addSets : MethodName := ⟨RX5, "addSets", "(I)V"⟩
abbrev cX5_findSets : ByteArray := prog_7_method_39_code
def yX5_findSets : MethodName := ⟨RX5, "findSets", "(IIZ)V"⟩
abbrev cX5_askFor : ByteArray := prog_7_method_40_code
def yX5_askFor : MethodName := ⟨RX5, "askFor", "(I)V"⟩
abbrev cX5_indexOf : ByteArray := prog_7_method_41_code
def yX5_indexOf : MethodName := ⟨RX5, "indexOf", "(I)I"⟩
abbrev cX5_foresight : ByteArray := prog_7_method_42_code
def yX5_foresight : MethodName := ⟨RX5, "foresight", "(I)I"⟩
abbrev cX5_lay : ByteArray := prog_7_method_43_code
def yX5_lay : MethodName := ⟨RX5, "lay", "(I)V"⟩
abbrev cX5_keep : ByteArray := prog_7_method_44_code
def yX5_keep : MethodName := ⟨RX5, "keep", "(I)I"⟩
abbrev cX5_take : ByteArray := prog_7_method_45_code
def yX5_take : MethodName := ⟨RX5, "take", "()I"⟩
abbrev cX5_back : ByteArray := prog_7_method_46_code
def yX5_back : MethodName := ⟨RX5, "back", "(I)I"⟩
abbrev cX5_digested : ByteArray := prog_7_method_47_code
def yX5_digested : MethodName := ⟨RX5, "digested", "(II)I"⟩
abbrev cX5_digest : ByteArray := prog_7_method_48_code
def yX5_digest : MethodName := ⟨RX5, "digest", "()I"⟩
def RJ9 : String := "java/lang/Math"
def TJ9 : u_T := fun k => match k with
  | _ => ("", "", "", false)
def tyJ9 : Nat → FieldType := fun k => match k with
  | _ => .int
abbrev wsJ90 : List Cond := u_ws RJ9 TJ9 0
theorem nmJ9 : ∀ a, a < 0 → ∀ b, b < 0 → a ≠ b → (TJ9 a).2.1 ≠ (TJ9 b).2.1 := by decide +kernel
theorem tyJ9_ok : ∀ k, k < 0 → parseFieldDescriptor (TJ9 k).2.2.1 = some (tyJ9 k) := by decide +kernel
abbrev cJ9_floorMod_7cf53 : ByteArray := prog_8_method_50_code
def yJ9_floorMod_7cf53 : MethodName := ⟨RJ9, "floorMod", "(II)I"⟩
abbrev cJ9_abs_0f7a4 : ByteArray := prog_8_method_59_code
def yJ9_abs_0f7a4 : MethodName := ⟨RJ9, "abs", "(I)I"⟩
abbrev cJ9_min_7cf53 : ByteArray := prog_8_method_69_code
def yJ9_min_7cf53 : MethodName := ⟨RJ9, "min", "(II)I"⟩
def RJ10 : String := "java/lang/System"
def TJ10 : u_T := fun k => match k with
  | _ => ("", "", "", false)
def tyJ10 : Nat → FieldType := fun k => match k with
  | _ => .int
abbrev wsJ100 : List Cond := u_ws RJ10 TJ10 0
theorem nmJ10 : ∀ a, a < 0 → ∀ b, b < 0 → a ≠ b → (TJ10 a).2.1 ≠ (TJ10 b).2.1 := by decide +kernel
theorem tyJ10_ok : ∀ k, k < 0 → parseFieldDescriptor (TJ10 k).2.2.1 = some (tyJ10 k) := by decide +kernel
def RJ7 : String := "java/util/Arrays"
def TJ7 : u_T := fun k => match k with
  | _ => ("", "", "", false)
def tyJ7 : Nat → FieldType := fun k => match k with
  | _ => .int
abbrev wsJ70 : List Cond := u_ws RJ7 TJ7 0
theorem nmJ7 : ∀ a, a < 0 → ∀ b, b < 0 → a ≠ b → (TJ7 a).2.1 ≠ (TJ7 b).2.1 := by decide +kernel
theorem tyJ7_ok : ∀ k, k < 0 → parseFieldDescriptor (TJ7 k).2.2.1 = some (tyJ7 k) := by decide +kernel
abbrev cJ7_fill_d0a16 : ByteArray := prog_10_method_101_code
def yJ7_fill_d0a16 : MethodName := ⟨RJ7, "fill", "([JJ)V"⟩
abbrev cJ7_fill_53178 : ByteArray := prog_10_method_103_code
def yJ7_fill_53178 : MethodName := ⟨RJ7, "fill", "([II)V"⟩
def RL : String := "ReadAheadLaw"
abbrev cL_law : ByteArray := code
def yL_law : MethodName := ⟨RL, "law", "([I)Z"⟩
